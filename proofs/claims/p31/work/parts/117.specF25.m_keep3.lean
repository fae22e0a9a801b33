
set_option maxHeartbeats 4000000 in
set_option maxRecDepth 100000 in
theorem m_keep3 (l : Launch) (D : va_G) (k : Nat → ClassId) (st : Nat → Nat) (lo : Nat) (a : Nat → Nat) (tx : Nat) (t0 : Nat) (we : Nat) (rd : Nat) (ru : Nat) (rw : Nat) (ca : Nat) (fp : Int32) (wd : Int64) (nu : Int32) (na : Int32) (ts : Int32) (df : Int32) (db : Int32) (sd : Int32) (frow : Nat → Int32) (fwalks : Nat → Int32) (br : Nat → Nat) (fisKept : Nat → Int32) (fimages : Nat → Int32) (pz : Int32) (hrw : rw ≤ 24) (hca : ca ≤ 4) (hbr : ∀ j, br j ≤ 24) (him : imOK fimages) : CWi l D k st lo yX8_keep cX8_keep 4 (some .int) ({ frames := 1, cells := 0, slots := 0, locals := 25 }) 0 0 [.ref (a 0), .int pz] [((a 0), .inr (8, (fX8 a (nI tx) fp (nI t0) wd (nI we) nu na (nI rd) ts (nI ru) (nI rw) (nI ca) df db sd))), (aZ k (a 32) 24 frow), (aI k (a 36) 4 fwalks), (aI k (a 37) 4 (nF br)), (aZ k (a 43) 2 fisKept), (aI k (a 44) 70 fimages)] (fun (r : Int32) (u : (Nat → Int32) × (Nat → Int32)) => match u with | (fisKept_, fimages_) => imOK fimages_ ∧ kpI pz 0 (fisKept 0) (fisKept_ 0) (fimages 0) (fimages 1) (fimages_ 0) (fimages_ 1) rw ca ∧ kpI pz 1 (fisKept 1) (fisKept_ 1) (fimages 35) (fimages 36) (fimages_ 35) (fimages_ 36) rw ca ∧ (inB pz 0 1 → r = 1) ∧ (¬ inB pz 0 1 → r = -1001) ∧ kpM pz 0 0 fimages fimages_ sd frow fwalks ∧ kpM pz 1 35 fimages fimages_ sd frow fwalks) (fun (u : (Nat → Int32) × (Nat → Int32)) => match u with | (fisKept_, fimages_) => [((a 0), .inr (8, (fX8 a (nI tx) fp (nI t0) wd (nI we) nu na (nI rd) ts (nI ru) (nI rw) (nI ca) df db sd))), (aZ k (a 32) 24 frow), (aI k (a 36) 4 fwalks), (aI k (a 37) 4 (nF br)), (aZ k (a 43) 2 fisKept_), (aI k (a 44) 70 fimages_)]) := by
  intro sz
  refine Met.ofW (cc := cX8_keep) (maxL := 4) (ret := (some .int)) (by decide) rfl ?_
  intro p e s m args below meth c s₁ B hml hv
  obtain ⟨rfl, hsz, hlo, hP, hK, hDL, hZ⟩ := hv
  have hx := B.exec
  have hb := B.bytes
  have hr := B.returns
  have hts := WS_ts B.pre
  have hown : s.vm.findClass RX8 = some m.cls := findClass_of_methodNamed B.named
  have hlocks := B.notSynchronized
  subst hsz
  have hD := hDL.self (sz := s.heap.size)
  have hAlo := A_lo hDL hlo
  generalize hAe : va_A [((a 0), .inr (8, (fX8 a (nI tx) fp (nI t0) wd (nI we) nu na (nI rd) ts (nI ru) (nI rw) (nI ca) df db sd))), (aZ k (a 32) 24 frow), (aI k (a 36) 4 fwalks), (aI k (a 37) 4 (nF br)), (aZ k (a 43) 2 fisKept), (aI k (a 44) 70 fimages)] s.heap.size = A at hD hAlo ⊢
  have hA : ∀ q : Nat, s.heap.size ≤ q → A q := fun q h => by rw [← hAe]; exact Or.inr h
  have hS : va_S A s.heap s.heap [] := va_S.rf
  have hl := lv_entry ([.ref (a 0), .int pz]) (n := 4) (Nat.le_of_ble_eq_true rfl)
  rw [lg_entry_eq]
  generalize (lg_sl ([.ref (a 0), .int pz]) ++ List.replicate (4 - (lg_sl ([.ref (a 0), .int pz])).length) Slot.unset).toArray = ls at hl ⊢
  have hl : lv_has ls 4 [(0, .ref (a 0)), (1, .int pz)] := hl
  refine lv_iload_n hx hb dX8_keep_0 rfl (lv_at hl 1 rfl) ?_
  refine lv_i2l (v := pz.toInt64) hx hb dX8_keep_1 rfl ?_
  refine lv_lconst (v := (0 : Int32).toInt64) hx hb dX8_keep_2 (by decide) ?_
  refine lv_lconst (v := (1 : Int32).toInt64) hx hb dX8_keep_3 (by decide) ?_
  refine ro_i (D := D) (va_runS (As := [.long (pz.toInt64), .long ((0 : Int32).toInt64), .long ((1 : Int32).toInt64)]) (rest := []) ⟨hx, hb, hml, hown, hts⟩ ((k_in l D k st lo pz (0 : Int32) (1 : Int32)) s.heap.size) (va_cwS 3 hts (gS tw_1111 tw_1112 tw_87 tw_1113) rfl rfl rfl (by decide +kernel) ⟨Nat.le_of_ble_eq_true rfl, Nat.le_of_ble_eq_true rfl⟩) (pS hS hAlo hlo hP hK (va_Dlo hD hAlo) hZ [] (by decide) rfl) rfl rfl hl.1 rfl (lv_room (Nat.le_of_ble_eq_true rfl)) dX8_keep_4 ⟨Nat.le_of_ble_eq_true rfl, Nat.le_of_ble_eq_true rfl⟩) hS hA hP (fun r_1 H locs hw_1 hP hS => ?_)
  try dsimp only at hw_1
  rcases hw_1 with ⟨rfl, hw_1⟩ | ⟨rfl, hw_1⟩
  · refine lv_if_ne (tgt := 14) hx hb dX8_keep_7 (by decide) (fun _ => ?_) (fun h => absurd h (by decide))
    rcases spl2 hw_1 with rfl | rfl
    · refine lv_bipush (v := 35) hx hb dX8_keep_14 (by decide) ?_
      refine lv_iload_n hx hb dX8_keep_16 rfl (lv_at hl 1 rfl) ?_
      refine lv_imul hx hb dX8_keep_17 ?_
      refine lv_ti (y := 0) (by decide) ?_
      refine lv_istore_n (lv' := [(2, .int 0), (0, .ref (a 0)), (1, .int 0)]) hx hb dX8_keep_18 rfl hl (by decide) rfl (fun ls hl => ?_)
      refine lv_aload_n hx hb dX8_keep_19 rfl (lv_at hl 1 rfl) ?_
      refine va_get (D := D) (ci := 8) (v := .ref (a 44)) (C := RX8) (T := TX8) (N := 44) hx hb hts inX8 hown hK hP 0 rfl rfl 43 (by decide) (hts _ tw_1016) (fun _ h9 => h9) rfl dX8_keep_20 ?_
      refine lv_iload_n hx hb dX8_keep_23 rfl (lv_at hl 0 rfl) ?_
      refine lv_aload_n hx hb dX8_keep_24 rfl (lv_at hl 1 rfl) ?_
      refine va_get (D := D) (ci := 8) (v := .int (nI rw)) (C := RX8) (T := TX8) (N := 44) hx hb hts inX8 hown hK hP 0 rfl rfl 30 (by decide) (hts _ tw_1003) (fun _ h9 => h9) rfl dX8_keep_25 ?_
      refine va_iast hx hb hK hP hD hS 5 1 rfl rfl (by unfold vp_in; decide) dX8_keep_28 (fun H locs hP hD hS => ?_)
      have hQ9 := pd_mk [((a 0), .inr (8, (fX8 a (nI tx) fp (nI t0) wd (nI we) nu na (nI rd) ts (nI ru) (nI rw) (nI ca) df db sd))), (aZ k (a 32) 24 frow), (aI k (a 36) 4 fwalks), (aI k (a 37) 4 (nF br)), (aZ k (a 43) 2 fisKept), (aI k (a 44) 70 (upd fimages (Int32.toNatClampNeg 0) (nI rw)))] hP hD
      clear hP hD
      obtain ⟨hP, hD⟩ := hQ9
      have hQ9 := pd_mk [((a 0), .inr (8, (fX8 a (nI tx) fp (nI t0) wd (nI we) nu na (nI rd) ts (nI ru) (nI rw) (nI ca) df db sd))), (aZ k (a 32) 24 frow), (aI k (a 36) 4 fwalks), (aI k (a 37) 4 (nF br)), (aZ k (a 43) 2 fisKept), (aI k (a 44) 70 (upd fimages 0 (nI rw)))] hP hD
      clear hP hD
      obtain ⟨hP, hD⟩ := hQ9
      have him_3 : imOK (upd fimages 0 (nI rw)) := imOK_upd him 0 (nI rw) ⟨fun _ => ⟨rw, by omega, rfl⟩, fun h => absurd h (by omega), fun h => absurd h (by omega)⟩
      have hfO_3 : ∀ x, ¬ (0 ≤ x ∧ x < 35) → (upd fimages 0 (nI rw)) x = fimages x := fun x hx => (upd_ne (by omega)).trans ((fun _ _ => rfl) x hx)
      have hft0_3 : (upd fimages 0 (nI rw)) 0 = (nI rw) := upd_eq
      generalize (upd fimages 0 (nI rw)) = f_3 at hP hD him_3 hfO_3 hft0_3
      refine lv_aload_n hx hb dX8_keep_29 rfl (lv_at hl 1 rfl) ?_
      refine va_get (D := D) (ci := 8) (v := .ref (a 44)) (C := RX8) (T := TX8) (N := 44) hx hb hts inX8 hown hK hP 0 rfl rfl 43 (by decide) (hts _ tw_1016) (fun _ h9 => h9) rfl dX8_keep_30 ?_
      refine lv_iload_n hx hb dX8_keep_33 rfl (lv_at hl 0 rfl) ?_
      refine lv_iconst (v := 1) hx hb dX8_keep_34 (by decide) ?_
      refine lv_iadd hx hb dX8_keep_35 ?_
      refine lv_ti (y := 1) (by decide) ?_
      refine lv_aload_n hx hb dX8_keep_36 rfl (lv_at hl 1 rfl) ?_
      refine va_get (D := D) (ci := 8) (v := .int (nI ca)) (C := RX8) (T := TX8) (N := 44) hx hb hts inX8 hown hK hP 0 rfl rfl 34 (by decide) (hts _ tw_1007) (fun _ h9 => h9) rfl dX8_keep_37 ?_
      refine va_iast hx hb hK hP hD hS 5 1 rfl rfl (by unfold vp_in; decide) dX8_keep_40 (fun H locs hP hD hS => ?_)
      have hQ9 := pd_mk [((a 0), .inr (8, (fX8 a (nI tx) fp (nI t0) wd (nI we) nu na (nI rd) ts (nI ru) (nI rw) (nI ca) df db sd))), (aZ k (a 32) 24 frow), (aI k (a 36) 4 fwalks), (aI k (a 37) 4 (nF br)), (aZ k (a 43) 2 fisKept), (aI k (a 44) 70 (upd f_3 (Int32.toNatClampNeg 1) (nI ca)))] hP hD
      clear hP hD
      obtain ⟨hP, hD⟩ := hQ9
      have hQ9 := pd_mk [((a 0), .inr (8, (fX8 a (nI tx) fp (nI t0) wd (nI we) nu na (nI rd) ts (nI ru) (nI rw) (nI ca) df db sd))), (aZ k (a 32) 24 frow), (aI k (a 36) 4 fwalks), (aI k (a 37) 4 (nF br)), (aZ k (a 43) 2 fisKept), (aI k (a 44) 70 (upd f_3 1 (nI ca)))] hP hD
      clear hP hD
      obtain ⟨hP, hD⟩ := hQ9
      have him_5 : imOK (upd f_3 1 (nI ca)) := imOK_upd him_3 1 (nI ca) ⟨fun h => absurd h (by omega), fun _ => ⟨ca, by omega, rfl⟩, fun h => absurd h (by omega)⟩
      have hfO_5 : ∀ x, ¬ (0 ≤ x ∧ x < 35) → (upd f_3 1 (nI ca)) x = fimages x := fun x hx => (upd_ne (by omega)).trans (hfO_3 x hx)
      have hft0_5 : (upd f_3 1 (nI ca)) 0 = (nI rw) := (upd_ne (by omega)).trans hft0_3
      have hft1_5 : (upd f_3 1 (nI ca)) 1 = (nI ca) := upd_eq
      generalize (upd f_3 1 (nI ca)) = f_5 at hP hD him_5 hfO_5 hft0_5 hft1_5
      refine lv_aload_n hx hb dX8_keep_41 rfl (lv_at hl 1 rfl) ?_
      refine va_get (D := D) (ci := 8) (v := .ref (a 44)) (C := RX8) (T := TX8) (N := 44) hx hb hts inX8 hown hK hP 0 rfl rfl 43 (by decide) (hts _ tw_1016) (fun _ h9 => h9) rfl dX8_keep_42 ?_
      refine lv_iload_n hx hb dX8_keep_45 rfl (lv_at hl 0 rfl) ?_
      refine lv_iconst (v := 2) hx hb dX8_keep_46 (by decide) ?_
      refine lv_iadd hx hb dX8_keep_47 ?_
      refine lv_ti (y := 2) (by decide) ?_
      refine lv_aload_n hx hb dX8_keep_48 rfl (lv_at hl 1 rfl) ?_
      refine va_get (D := D) (ci := 8) (v := .int sd) (C := RX8) (T := TX8) (N := 44) hx hb hts inX8 hown hK hP 0 rfl rfl 41 (by decide) (hts _ tw_1014) (fun _ h9 => h9) rfl dX8_keep_49 ?_
      refine va_iast hx hb hK hP hD hS 5 1 rfl rfl (by unfold vp_in; decide) dX8_keep_52 (fun H locs hP hD hS => ?_)
      have hQ9 := pd_mk [((a 0), .inr (8, (fX8 a (nI tx) fp (nI t0) wd (nI we) nu na (nI rd) ts (nI ru) (nI rw) (nI ca) df db sd))), (aZ k (a 32) 24 frow), (aI k (a 36) 4 fwalks), (aI k (a 37) 4 (nF br)), (aZ k (a 43) 2 fisKept), (aI k (a 44) 70 (upd f_5 (Int32.toNatClampNeg 2) sd))] hP hD
      clear hP hD
      obtain ⟨hP, hD⟩ := hQ9
      have hQ9 := pd_mk [((a 0), .inr (8, (fX8 a (nI tx) fp (nI t0) wd (nI we) nu na (nI rd) ts (nI ru) (nI rw) (nI ca) df db sd))), (aZ k (a 32) 24 frow), (aI k (a 36) 4 fwalks), (aI k (a 37) 4 (nF br)), (aZ k (a 43) 2 fisKept), (aI k (a 44) 70 (upd f_5 2 sd))] hP hD
      clear hP hD
      obtain ⟨hP, hD⟩ := hQ9
      have him_7 : imOK (upd f_5 2 sd) := imOK_upd him_5 2 sd ⟨fun h => absurd h (by omega), fun h => absurd h (by omega), fun h => absurd h (by omega)⟩
      have hfO_7 : ∀ x, ¬ (0 ≤ x ∧ x < 35) → (upd f_5 2 sd) x = fimages x := fun x hx => (upd_ne (by omega)).trans (hfO_5 x hx)
      have hft0_7 : (upd f_5 2 sd) 0 = (nI rw) := (upd_ne (by omega)).trans hft0_5
      have hft1_7 : (upd f_5 2 sd) 1 = (nI ca) := (upd_ne (by omega)).trans hft1_5
      have hft2_7 : (upd f_5 2 sd) 2 = sd := upd_eq
      generalize (upd f_5 2 sd) = f_7 at hP hD him_7 hfO_7 hft0_7 hft1_7 hft2_7
      refine lv_iconst (v := 0) hx hb dX8_keep_53 (by decide) ?_
      refine lv_istore_n (lv' := [(3, .int 0), (2, .int 0), (0, .ref (a 0)), (1, .int 0)]) hx hb dX8_keep_54 rfl hl (by decide) rfl (fun ls hl => ?_)
      refine W_loop (σ := Nat × (Nat → Int32)) (fun (n_ : Nat) (x_ : Nat × (Nat → Int32)) (H : Heap) (locs : List Loc) (ls : Array Slot) => match x_ with | (kk_8, im_8) => n_ = 24 - kk_8 ∧ ((kk_8 ≤ 24) ∧ imOK im_8 ∧ (im_8 0 = (nI rw)) ∧ (im_8 1 = (nI ca)) ∧ (im_8 2 = sd) ∧ (∀ x, ¬ (0 ≤ x ∧ x < 35) → im_8 x = fimages x) ∧ (∀ i, i < kk_8 → im_8 (3 + i) = b01 (frow i))) ∧ va_P D classes [((a 0), .inr (8, (fX8 a (nI tx) fp (nI t0) wd (nI we) nu na (nI rd) ts (nI ru) (nI rw) (nI ca) df db sd))), (aZ k (a 32) 24 frow), (aI k (a 36) 4 fwalks), (aI k (a 37) 4 (nF br)), (aZ k (a 43) 2 fisKept), (aI k (a 44) 70 im_8)] H ∧ va_D A [((a 0), .inr (8, (fX8 a (nI tx) fp (nI t0) wd (nI we) nu na (nI rd) ts (nI ru) (nI rw) (nI ca) df db sd))), (aZ k (a 32) 24 frow), (aI k (a 36) 4 fwalks), (aI k (a 37) 4 (nF br)), (aZ k (a 43) 2 fisKept), (aI k (a 44) 70 im_8)] ∧ va_S A s.heap H locs ∧ lv_has ls 4 [(3, .int (nI kk_8)), (2, .int 0), (0, .ref (a 0)), (1, .int 0)]) (fun n_8 x_8 H locs ls hI ih_8 => ?_) _ (0, f_7) ⟨rfl, ⟨by omega, him_7, hft0_7, hft1_7, hft2_7, hfO_7, (fun i hi => absurd hi (Nat.not_lt_zero i))⟩, hP, hD, hS, (lv_sub hl [0, 1, 2, 3] rfl)⟩
      obtain ⟨kk_8, im_8⟩ := x_8
      obtain ⟨hm_8, hv_8, hP, hD, hS, hl⟩ := hI
      subst hm_8
      obtain ⟨-, himl_8, hlt0_8, hlt1_8, hlt2_8, hlO_8, hlG_8⟩ := id hv_8
      refine lv_iload_n hx hb dX8_keep_55 rfl (lv_at hl 0 rfl) ?_
      refine lv_bipush (v := 24) hx hb dX8_keep_56 (by decide) ?_
      refine lv_icmp_ge (tgt := 91) hx hb dX8_keep_58 (by decide) (fun c_9 => ?_) (fun c_9 => ?_)
      · have c_9 := (nI_leI (a := 24) (b := kk_8) (by omega) (by omega)).mp c_9
        refine lv_iconst (v := 0) hx hb dX8_keep_91 (by decide) ?_
        refine lv_istore_n (lv' := [(3, .int 0), (2, .int 0), (0, .ref (a 0)), (1, .int 0)]) hx hb dX8_keep_92 rfl hl (by decide) rfl (fun ls hl => ?_)
        refine W_loop (σ := Nat × (Nat → Int32)) (fun (n_ : Nat) (x_ : Nat × (Nat → Int32)) (H : Heap) (locs : List Loc) (ls : Array Slot) => match x_ with | (kk_10, im_10) => n_ = 4 - kk_10 ∧ ((kk_10 ≤ 4) ∧ imOK im_10 ∧ (im_10 0 = (nI rw)) ∧ (im_10 1 = (nI ca)) ∧ (im_10 2 = sd) ∧ (∀ x, ¬ (0 ≤ x ∧ x < 35) → im_10 x = fimages x) ∧ (∀ i, i < 24 → im_10 (3 + i) = b01 (frow i)) ∧ (∀ i, i < kk_10 → im_10 (27 + i) = fwalks i)) ∧ va_P D classes [((a 0), .inr (8, (fX8 a (nI tx) fp (nI t0) wd (nI we) nu na (nI rd) ts (nI ru) (nI rw) (nI ca) df db sd))), (aZ k (a 32) 24 frow), (aI k (a 36) 4 fwalks), (aI k (a 37) 4 (nF br)), (aZ k (a 43) 2 fisKept), (aI k (a 44) 70 im_10)] H ∧ va_D A [((a 0), .inr (8, (fX8 a (nI tx) fp (nI t0) wd (nI we) nu na (nI rd) ts (nI ru) (nI rw) (nI ca) df db sd))), (aZ k (a 32) 24 frow), (aI k (a 36) 4 fwalks), (aI k (a 37) 4 (nF br)), (aZ k (a 43) 2 fisKept), (aI k (a 44) 70 im_10)] ∧ va_S A s.heap H locs ∧ lv_has ls 4 [(3, .int (nI kk_10)), (2, .int 0), (0, .ref (a 0)), (1, .int 0)]) (fun n_10 x_10 H locs ls hI ih_10 => ?_) _ (0, im_8) ⟨rfl, ⟨by omega, himl_8, hlt0_8, hlt1_8, hlt2_8, hlO_8, (fun i hi => hlG_8 i (by omega)), (fun i hi => absurd hi (Nat.not_lt_zero i))⟩, hP, hD, hS, (lv_sub hl [0, 1, 2, 3] rfl)⟩
        obtain ⟨kk_10, im_10⟩ := x_10
        obtain ⟨hm_10, hv_10, hP, hD, hS, hl⟩ := hI
        subst hm_10
        obtain ⟨-, himl_10, hlt0_10, hlt1_10, hlt2_10, hlO_10, hlR_10, hlG_10⟩ := id hv_10
        refine lv_iload_n hx hb dX8_keep_93 rfl (lv_at hl 0 rfl) ?_
        refine lv_iconst (v := 4) hx hb dX8_keep_94 (by decide) ?_
        refine lv_icmp_ge (tgt := 138) hx hb dX8_keep_95 (by decide) (fun c_11 => ?_) (fun c_11 => ?_)
        · have c_11 := (nI_leI (a := 4) (b := kk_10) (by omega) (by omega)).mp c_11
          refine lv_aload_n hx hb dX8_keep_138 rfl (lv_at hl 2 rfl) ?_
          refine va_get (D := D) (ci := 8) (v := .ref (a 43)) (C := RX8) (T := TX8) (N := 44) hx hb hts inX8 hown hK hP 0 rfl rfl 42 (by decide) (hts _ tw_1015) (fun _ h9 => h9) rfl dX8_keep_139 ?_
          refine lv_iload_n hx hb dX8_keep_142 rfl (lv_at hl 3 rfl) ?_
          refine lv_iconst (v := 1) hx hb dX8_keep_143 (by decide) ?_
          refine va_zast hx hb hK hP hD hS 4 2 rfl rfl (by unfold vp_in; decide) dX8_keep_144 (fun H locs hP hD hS => ?_)
          have hQ9 := pd_mk [((a 0), .inr (8, (fX8 a (nI tx) fp (nI t0) wd (nI we) nu na (nI rd) ts (nI ru) (nI rw) (nI ca) df db sd))), (aZ k (a 32) 24 frow), (aI k (a 36) 4 fwalks), (aI k (a 37) 4 (nF br)), (aZ k (a 43) 2 (upd fisKept (Int32.toNatClampNeg 0) (vp_nar .boolean 1))), (aI k (a 44) 70 im_10)] hP hD
          clear hP hD
          obtain ⟨hP, hD⟩ := hQ9
          have hQ9 := pd_mk [((a 0), .inr (8, (fX8 a (nI tx) fp (nI t0) wd (nI we) nu na (nI rd) ts (nI ru) (nI rw) (nI ca) df db sd))), (aZ k (a 32) 24 frow), (aI k (a 36) 4 fwalks), (aI k (a 37) 4 (nF br)), (aZ k (a 43) 2 (upd fisKept 0 1)), (aI k (a 44) 70 im_10)] hP hD
          clear hP hD
          obtain ⟨hP, hD⟩ := hQ9
          refine lv_iconst (v := 1) hx hb dX8_keep_145 (by decide) ?_
          obtain ⟨hP9, hD9⟩ := pd_sub [((a 0), .inr (8, (fX8 a (nI tx) fp (nI t0) wd (nI we) nu na (nI rd) ts (nI ru) (nI rw) (nI ca) df db sd))), (aZ k (a 32) 24 frow), (aI k (a 36) 4 fwalks), (aI k (a 37) 4 (nF br)), (aZ k (a 43) 2 (upd fisKept 0 1)), (aI k (a 44) 70 im_10)] [0, 1, 2, 3, 4, 5] hP hD (by decide) rfl
          exact W.iret (v := 1) hx hb hr (fun t ht hW => ⟨⟨1, ((upd fisKept 0 1), im_10), rfl, ⟨himl_10, ⟨fun _ => ⟨by rfl, hlt0_10, hlt1_10⟩, fun h => absurd rfl h⟩, ⟨fun h => absurd h (by decide), fun _ => ⟨by rfl, hlO_10 35 (by omega), hlO_10 36 (by omega)⟩⟩, fun _ => rfl, fun h => absurd hw_1 h, ⟨fun _ => ⟨hlt2_10, hlR_10, fun c hc => hlG_10 c (by omega)⟩, fun h => absurd rfl h⟩, ⟨fun h => absurd h (by decide), fun _ x h1 h2 => hlO_10 x (by omega)⟩⟩, by rw [ht]; exact hP9, hD9⟩, hS.F ht⟩) hS.2.2 dX8_keep_146
        · have c_11 : ¬ (4 ≤ kk_10) := fun h => c_11 ((nI_leI (a := 4) (b := kk_10) (by omega) (by omega)).mpr h)
          refine lv_aload_n hx hb dX8_keep_98 rfl (lv_at hl 2 rfl) ?_
          refine va_get (D := D) (ci := 8) (v := .ref (a 44)) (C := RX8) (T := TX8) (N := 44) hx hb hts inX8 hown hK hP 0 rfl rfl 43 (by decide) (hts _ tw_1016) (fun _ h9 => h9) rfl dX8_keep_99 ?_
          refine lv_iload_n hx hb dX8_keep_102 rfl (lv_at hl 1 rfl) ?_
          refine lv_bipush (v := 27) hx hb dX8_keep_103 (by decide) ?_
          refine lv_iadd hx hb dX8_keep_105 ?_
          refine lv_ti (y := 27) (by decide) ?_
          refine lv_iload_n hx hb dX8_keep_106 rfl (lv_at hl 0 rfl) ?_
          refine lv_iadd hx hb dX8_keep_107 ?_
          refine lv_ti (y := (nI (27 + kk_10))) (nI_add 27 kk_10) ?_
          refine lv_aload_n hx hb dX8_keep_108 rfl (lv_at hl 2 rfl) ?_
          refine va_get (D := D) (ci := 8) (v := .ref (a 36)) (C := RX8) (T := TX8) (N := 44) hx hb hts inX8 hown hK hP 0 rfl rfl 35 (by decide) (hts _ tw_1008) (fun _ h9 => h9) rfl dX8_keep_109 ?_
          refine lv_iload_n hx hb dX8_keep_112 rfl (lv_at hl 0 rfl) ?_
          refine va_iald hx hb hK hP 2 1 rfl rfl (vp_in_nI (by omega) (by decide)) dX8_keep_113 ?_
          refine lv_ti (y := (fwalks kk_10)) (by rw [nI_clamp (by omega)]) ?_
          refine va_iast hx hb hK hP hD hS 5 1 rfl rfl (vp_in_nI (by omega) (by decide)) dX8_keep_114 (fun H locs hP hD hS => ?_)
          have hQ9 := pd_mk [((a 0), .inr (8, (fX8 a (nI tx) fp (nI t0) wd (nI we) nu na (nI rd) ts (nI ru) (nI rw) (nI ca) df db sd))), (aZ k (a 32) 24 frow), (aI k (a 36) 4 fwalks), (aI k (a 37) 4 (nF br)), (aZ k (a 43) 2 fisKept), (aI k (a 44) 70 (upd im_10 (Int32.toNatClampNeg (nI (27 + kk_10))) (fwalks kk_10)))] hP hD
          clear hP hD
          obtain ⟨hP, hD⟩ := hQ9
          rw [nI_clamp (n := (27 + kk_10)) (by omega)] at hP hD
          have hQ9 := pd_mk [((a 0), .inr (8, (fX8 a (nI tx) fp (nI t0) wd (nI we) nu na (nI rd) ts (nI ru) (nI rw) (nI ca) df db sd))), (aZ k (a 32) 24 frow), (aI k (a 36) 4 fwalks), (aI k (a 37) 4 (nF br)), (aZ k (a 43) 2 fisKept), (aI k (a 44) 70 (upd im_10 (27 + kk_10) (fwalks kk_10)))] hP hD
          clear hP hD
          obtain ⟨hP, hD⟩ := hQ9
          have him_14 : imOK (upd im_10 (27 + kk_10) (fwalks kk_10)) := imOK_upd himl_10 (27 + kk_10) (fwalks kk_10) ⟨fun h => absurd h (by omega), fun h => absurd h (by omega), fun h => absurd h (by omega)⟩
          have hft0_14 : (upd im_10 (27 + kk_10) (fwalks kk_10)) 0 = (nI rw) := (upd_ne (by omega)).trans hlt0_10
          have hft1_14 : (upd im_10 (27 + kk_10) (fwalks kk_10)) 1 = (nI ca) := (upd_ne (by omega)).trans hlt1_10
          have hft2_14 : (upd im_10 (27 + kk_10) (fwalks kk_10)) 2 = sd := (upd_ne (by omega)).trans hlt2_10
          have hfO_14 : ∀ x, ¬ (0 ≤ x ∧ x < 35) → (upd im_10 (27 + kk_10) (fwalks kk_10)) x = fimages x := fun x hx => (upd_ne (by omega)).trans (hlO_10 x hx)
          have hfR_14 : ∀ i, i < 24 → (upd im_10 (27 + kk_10) (fwalks kk_10)) (3 + i) = b01 (frow i) := fun i hi => (upd_ne (by omega)).trans (hlR_10 i hi)
          have hfW_14 : ∀ i, i < kk_10 + 1 → (upd im_10 (27 + kk_10) (fwalks kk_10)) (27 + i) = fwalks i := im_st (F := fwalks) hlG_10 rfl
          generalize (upd im_10 (27 + kk_10) (fwalks kk_10)) = f_14 at hP hD him_14 hft0_14 hft1_14 hft2_14 hfO_14 hfR_14 hfW_14
          refine lv_aload_n hx hb dX8_keep_115 rfl (lv_at hl 2 rfl) ?_
          refine va_get (D := D) (ci := 8) (v := .ref (a 44)) (C := RX8) (T := TX8) (N := 44) hx hb hts inX8 hown hK hP 0 rfl rfl 43 (by decide) (hts _ tw_1016) (fun _ h9 => h9) rfl dX8_keep_116 ?_
          refine lv_iload_n hx hb dX8_keep_119 rfl (lv_at hl 1 rfl) ?_
          refine lv_bipush (v := 31) hx hb dX8_keep_120 (by decide) ?_
          refine lv_iadd hx hb dX8_keep_122 ?_
          refine lv_ti (y := 31) (by decide) ?_
          refine lv_iload_n hx hb dX8_keep_123 rfl (lv_at hl 0 rfl) ?_
          refine lv_iadd hx hb dX8_keep_124 ?_
          refine lv_ti (y := (nI (31 + kk_10))) (nI_add 31 kk_10) ?_
          refine lv_aload_n hx hb dX8_keep_125 rfl (lv_at hl 2 rfl) ?_
          refine va_get (D := D) (ci := 8) (v := .ref (a 37)) (C := RX8) (T := TX8) (N := 44) hx hb hts inX8 hown hK hP 0 rfl rfl 36 (by decide) (hts _ tw_1009) (fun _ h9 => h9) rfl dX8_keep_126 ?_
          refine lv_iload_n hx hb dX8_keep_129 rfl (lv_at hl 0 rfl) ?_
          refine va_iald hx hb hK hP 3 1 rfl rfl (vp_in_nI (by omega) (by decide)) dX8_keep_130 ?_
          have hq_15 := hbr kk_10
          refine lv_ti (y := (nI (br kk_10))) (by rw [nI_clamp (by omega)]; rfl) ?_
          refine va_iast hx hb hK hP hD hS 5 1 rfl rfl (vp_in_nI (by omega) (by decide)) dX8_keep_131 (fun H locs hP hD hS => ?_)
          have hQ9 := pd_mk [((a 0), .inr (8, (fX8 a (nI tx) fp (nI t0) wd (nI we) nu na (nI rd) ts (nI ru) (nI rw) (nI ca) df db sd))), (aZ k (a 32) 24 frow), (aI k (a 36) 4 fwalks), (aI k (a 37) 4 (nF br)), (aZ k (a 43) 2 fisKept), (aI k (a 44) 70 (upd f_14 (Int32.toNatClampNeg (nI (31 + kk_10))) (nI (br kk_10))))] hP hD
          clear hP hD
          obtain ⟨hP, hD⟩ := hQ9
          rw [nI_clamp (n := (31 + kk_10)) (by omega)] at hP hD
          have hQ9 := pd_mk [((a 0), .inr (8, (fX8 a (nI tx) fp (nI t0) wd (nI we) nu na (nI rd) ts (nI ru) (nI rw) (nI ca) df db sd))), (aZ k (a 32) 24 frow), (aI k (a 36) 4 fwalks), (aI k (a 37) 4 (nF br)), (aZ k (a 43) 2 fisKept), (aI k (a 44) 70 (upd f_14 (31 + kk_10) (nI (br kk_10))))] hP hD
          clear hP hD
          obtain ⟨hP, hD⟩ := hQ9
          have him_17 : imOK (upd f_14 (31 + kk_10) (nI (br kk_10))) := imOK_upd him_14 (31 + kk_10) (nI (br kk_10)) ⟨fun h => absurd h (by omega), fun h => absurd h (by omega), fun _ => ⟨br kk_10, by omega, rfl⟩⟩
          have hft0_17 : (upd f_14 (31 + kk_10) (nI (br kk_10))) 0 = (nI rw) := (upd_ne (by omega)).trans hft0_14
          have hft1_17 : (upd f_14 (31 + kk_10) (nI (br kk_10))) 1 = (nI ca) := (upd_ne (by omega)).trans hft1_14
          have hft2_17 : (upd f_14 (31 + kk_10) (nI (br kk_10))) 2 = sd := (upd_ne (by omega)).trans hft2_14
          have hfO_17 : ∀ x, ¬ (0 ≤ x ∧ x < 35) → (upd f_14 (31 + kk_10) (nI (br kk_10))) x = fimages x := fun x hx => (upd_ne (by omega)).trans (hfO_14 x hx)
          have hfR_17 : ∀ i, i < 24 → (upd f_14 (31 + kk_10) (nI (br kk_10))) (3 + i) = b01 (frow i) := fun i hi => (upd_ne (by omega)).trans (hfR_14 i hi)
          have hfW_17 : ∀ i, i < kk_10 + 1 → (upd f_14 (31 + kk_10) (nI (br kk_10))) (27 + i) = fwalks i := fun i hi => (upd_ne (by omega)).trans (hfW_14 i hi)
          generalize (upd f_14 (31 + kk_10) (nI (br kk_10))) = f_17 at hP hD him_17 hft0_17 hft1_17 hft2_17 hfO_17 hfR_17 hfW_17
          refine lv_iinc (v := (nI (kk_10 + 1))) (lv' := [(3, .int (nI (kk_10 + 1))), (2, .int 0), (0, .ref (a 0)), (1, .int 0)]) hx hb dX8_keep_132 hl (k := 0) rfl (nI_add kk_10 1) (by decide) rfl (fun ls hl => ?_)
          refine lv_goto (tgt := 93) hx hb dX8_keep_135 (by decide) ?_
          exact ih_10 _ (kk_10 + 1, f_17) _ _ _ (by omega) ⟨rfl, ⟨by omega, him_17, hft0_17, hft1_17, hft2_17, hfO_17, hfR_17, hfW_17⟩, hP, hD, hS, (lv_sub hl [0, 1, 2, 3] rfl)⟩
      · have c_9 : ¬ (24 ≤ kk_8) := fun h => c_9 ((nI_leI (a := 24) (b := kk_8) (by omega) (by omega)).mpr h)
        refine lv_aload_n hx hb dX8_keep_61 rfl (lv_at hl 2 rfl) ?_
        refine va_get (D := D) (ci := 8) (v := .ref (a 44)) (C := RX8) (T := TX8) (N := 44) hx hb hts inX8 hown hK hP 0 rfl rfl 43 (by decide) (hts _ tw_1016) (fun _ h9 => h9) rfl dX8_keep_62 ?_
        refine lv_iload_n hx hb dX8_keep_65 rfl (lv_at hl 1 rfl) ?_
        refine lv_iconst (v := 3) hx hb dX8_keep_66 (by decide) ?_
        refine lv_iadd hx hb dX8_keep_67 ?_
        refine lv_ti (y := 3) (by decide) ?_
        refine lv_iload_n hx hb dX8_keep_68 rfl (lv_at hl 0 rfl) ?_
        refine lv_iadd hx hb dX8_keep_69 ?_
        refine lv_ti (y := (nI (3 + kk_8))) (nI_add 3 kk_8) ?_
        refine lv_aload_n hx hb dX8_keep_70 rfl (lv_at hl 2 rfl) ?_
        refine va_get (D := D) (ci := 8) (v := .ref (a 32)) (C := RX8) (T := TX8) (N := 44) hx hb hts inX8 hown hK hP 0 rfl rfl 31 (by decide) (hts _ tw_1004) (fun _ h9 => h9) rfl dX8_keep_71 ?_
        refine lv_iload_n hx hb dX8_keep_74 rfl (lv_at hl 0 rfl) ?_
        refine va_zald hx hb hK hP 1 2 rfl rfl (vp_in_nI (by omega) (by decide)) dX8_keep_75 ?_
        refine lv_ti (y := (frow kk_8)) (by rw [nI_clamp (by omega)]) ?_
        refine lv_if_eq (tgt := 83) hx hb dX8_keep_76 (by decide) (fun c_18 => ?_) (fun c_18 => ?_)
        · refine lv_iconst (v := 0) hx hb dX8_keep_83 (by decide) ?_
          refine va_iast hx hb hK hP hD hS 5 1 rfl rfl (vp_in_nI (by omega) (by decide)) dX8_keep_84 (fun H locs hP hD hS => ?_)
          have hQ9 := pd_mk [((a 0), .inr (8, (fX8 a (nI tx) fp (nI t0) wd (nI we) nu na (nI rd) ts (nI ru) (nI rw) (nI ca) df db sd))), (aZ k (a 32) 24 frow), (aI k (a 36) 4 fwalks), (aI k (a 37) 4 (nF br)), (aZ k (a 43) 2 fisKept), (aI k (a 44) 70 (upd im_8 (Int32.toNatClampNeg (nI (3 + kk_8))) 0))] hP hD
          clear hP hD
          obtain ⟨hP, hD⟩ := hQ9
          rw [nI_clamp (n := (3 + kk_8)) (by omega)] at hP hD
          have hQ9 := pd_mk [((a 0), .inr (8, (fX8 a (nI tx) fp (nI t0) wd (nI we) nu na (nI rd) ts (nI ru) (nI rw) (nI ca) df db sd))), (aZ k (a 32) 24 frow), (aI k (a 36) 4 fwalks), (aI k (a 37) 4 (nF br)), (aZ k (a 43) 2 fisKept), (aI k (a 44) 70 (upd im_8 (3 + kk_8) 0))] hP hD
          clear hP hD
          obtain ⟨hP, hD⟩ := hQ9
          have him_20 : imOK (upd im_8 (3 + kk_8) 0) := imOK_upd himl_8 (3 + kk_8) 0 ⟨fun h => absurd h (by omega), fun h => absurd h (by omega), fun h => absurd h (by omega)⟩
          have hft0_20 : (upd im_8 (3 + kk_8) 0) 0 = (nI rw) := (upd_ne (by omega)).trans hlt0_8
          have hft1_20 : (upd im_8 (3 + kk_8) 0) 1 = (nI ca) := (upd_ne (by omega)).trans hlt1_8
          have hft2_20 : (upd im_8 (3 + kk_8) 0) 2 = sd := (upd_ne (by omega)).trans hlt2_8
          have hfO_20 : ∀ x, ¬ (0 ≤ x ∧ x < 35) → (upd im_8 (3 + kk_8) 0) x = fimages x := fun x hx => (upd_ne (by omega)).trans (hlO_8 x hx)
          have hfR_20 : ∀ i, i < kk_8 + 1 → (upd im_8 (3 + kk_8) 0) (3 + i) = b01 (frow i) := im_st (F := fun i => b01 (frow i)) hlG_8 (show (0 : Int32) = b01 (frow kk_8) from (if_pos c_18).symm)
          generalize (upd im_8 (3 + kk_8) 0) = f_20 at hP hD him_20 hft0_20 hft1_20 hft2_20 hfO_20 hfR_20
          refine lv_iinc (v := (nI (kk_8 + 1))) (lv' := [(3, .int (nI (kk_8 + 1))), (2, .int 0), (0, .ref (a 0)), (1, .int 0)]) hx hb dX8_keep_85 hl (k := 0) rfl (nI_add kk_8 1) (by decide) rfl (fun ls hl => ?_)
          refine lv_goto (tgt := 55) hx hb dX8_keep_88 (by decide) ?_
          exact ih_8 _ (kk_8 + 1, f_20) _ _ _ (by omega) ⟨rfl, ⟨by omega, him_20, hft0_20, hft1_20, hft2_20, hfO_20, hfR_20⟩, hP, hD, hS, (lv_sub hl [0, 1, 2, 3] rfl)⟩
        · refine lv_iconst (v := 1) hx hb dX8_keep_79 (by decide) ?_
          refine lv_goto (tgt := 84) hx hb dX8_keep_80 (by decide) ?_
          refine va_iast hx hb hK hP hD hS 5 1 rfl rfl (vp_in_nI (by omega) (by decide)) dX8_keep_84 (fun H locs hP hD hS => ?_)
          have hQ9 := pd_mk [((a 0), .inr (8, (fX8 a (nI tx) fp (nI t0) wd (nI we) nu na (nI rd) ts (nI ru) (nI rw) (nI ca) df db sd))), (aZ k (a 32) 24 frow), (aI k (a 36) 4 fwalks), (aI k (a 37) 4 (nF br)), (aZ k (a 43) 2 fisKept), (aI k (a 44) 70 (upd im_8 (Int32.toNatClampNeg (nI (3 + kk_8))) 1))] hP hD
          clear hP hD
          obtain ⟨hP, hD⟩ := hQ9
          rw [nI_clamp (n := (3 + kk_8)) (by omega)] at hP hD
          have hQ9 := pd_mk [((a 0), .inr (8, (fX8 a (nI tx) fp (nI t0) wd (nI we) nu na (nI rd) ts (nI ru) (nI rw) (nI ca) df db sd))), (aZ k (a 32) 24 frow), (aI k (a 36) 4 fwalks), (aI k (a 37) 4 (nF br)), (aZ k (a 43) 2 fisKept), (aI k (a 44) 70 (upd im_8 (3 + kk_8) 1))] hP hD
          clear hP hD
          obtain ⟨hP, hD⟩ := hQ9
          have him_22 : imOK (upd im_8 (3 + kk_8) 1) := imOK_upd himl_8 (3 + kk_8) 1 ⟨fun h => absurd h (by omega), fun h => absurd h (by omega), fun h => absurd h (by omega)⟩
          have hft0_22 : (upd im_8 (3 + kk_8) 1) 0 = (nI rw) := (upd_ne (by omega)).trans hlt0_8
          have hft1_22 : (upd im_8 (3 + kk_8) 1) 1 = (nI ca) := (upd_ne (by omega)).trans hlt1_8
          have hft2_22 : (upd im_8 (3 + kk_8) 1) 2 = sd := (upd_ne (by omega)).trans hlt2_8
          have hfO_22 : ∀ x, ¬ (0 ≤ x ∧ x < 35) → (upd im_8 (3 + kk_8) 1) x = fimages x := fun x hx => (upd_ne (by omega)).trans (hlO_8 x hx)
          have hfR_22 : ∀ i, i < kk_8 + 1 → (upd im_8 (3 + kk_8) 1) (3 + i) = b01 (frow i) := im_st (F := fun i => b01 (frow i)) hlG_8 (show (1 : Int32) = b01 (frow kk_8) from (if_neg c_18).symm)
          generalize (upd im_8 (3 + kk_8) 1) = f_22 at hP hD him_22 hft0_22 hft1_22 hft2_22 hfO_22 hfR_22
          refine lv_iinc (v := (nI (kk_8 + 1))) (lv' := [(3, .int (nI (kk_8 + 1))), (2, .int 0), (0, .ref (a 0)), (1, .int 0)]) hx hb dX8_keep_85 hl (k := 0) rfl (nI_add kk_8 1) (by decide) rfl (fun ls hl => ?_)
          refine lv_goto (tgt := 55) hx hb dX8_keep_88 (by decide) ?_
          exact ih_8 _ (kk_8 + 1, f_22) _ _ _ (by omega) ⟨rfl, ⟨by omega, him_22, hft0_22, hft1_22, hft2_22, hfO_22, hfR_22⟩, hP, hD, hS, (lv_sub hl [0, 1, 2, 3] rfl)⟩
    · refine lv_bipush (v := 35) hx hb dX8_keep_14 (by decide) ?_
      refine lv_iload_n hx hb dX8_keep_16 rfl (lv_at hl 1 rfl) ?_
      refine lv_imul hx hb dX8_keep_17 ?_
      refine lv_ti (y := 35) (by decide) ?_
      refine lv_istore_n (lv' := [(2, .int 35), (0, .ref (a 0)), (1, .int 1)]) hx hb dX8_keep_18 rfl hl (by decide) rfl (fun ls hl => ?_)
      refine lv_aload_n hx hb dX8_keep_19 rfl (lv_at hl 1 rfl) ?_
      refine va_get (D := D) (ci := 8) (v := .ref (a 44)) (C := RX8) (T := TX8) (N := 44) hx hb hts inX8 hown hK hP 0 rfl rfl 43 (by decide) (hts _ tw_1016) (fun _ h9 => h9) rfl dX8_keep_20 ?_
      refine lv_iload_n hx hb dX8_keep_23 rfl (lv_at hl 0 rfl) ?_
      refine lv_aload_n hx hb dX8_keep_24 rfl (lv_at hl 1 rfl) ?_
      refine va_get (D := D) (ci := 8) (v := .int (nI rw)) (C := RX8) (T := TX8) (N := 44) hx hb hts inX8 hown hK hP 0 rfl rfl 30 (by decide) (hts _ tw_1003) (fun _ h9 => h9) rfl dX8_keep_25 ?_
      refine va_iast hx hb hK hP hD hS 5 1 rfl rfl (by unfold vp_in; decide) dX8_keep_28 (fun H locs hP hD hS => ?_)
      have hQ9 := pd_mk [((a 0), .inr (8, (fX8 a (nI tx) fp (nI t0) wd (nI we) nu na (nI rd) ts (nI ru) (nI rw) (nI ca) df db sd))), (aZ k (a 32) 24 frow), (aI k (a 36) 4 fwalks), (aI k (a 37) 4 (nF br)), (aZ k (a 43) 2 fisKept), (aI k (a 44) 70 (upd fimages (Int32.toNatClampNeg 35) (nI rw)))] hP hD
      clear hP hD
      obtain ⟨hP, hD⟩ := hQ9
      have hQ9 := pd_mk [((a 0), .inr (8, (fX8 a (nI tx) fp (nI t0) wd (nI we) nu na (nI rd) ts (nI ru) (nI rw) (nI ca) df db sd))), (aZ k (a 32) 24 frow), (aI k (a 36) 4 fwalks), (aI k (a 37) 4 (nF br)), (aZ k (a 43) 2 fisKept), (aI k (a 44) 70 (upd fimages 35 (nI rw)))] hP hD
      clear hP hD
      obtain ⟨hP, hD⟩ := hQ9
      have him_24 : imOK (upd fimages 35 (nI rw)) := imOK_upd him 35 (nI rw) ⟨fun _ => ⟨rw, by omega, rfl⟩, fun h => absurd h (by omega), fun h => absurd h (by omega)⟩
      have hfO_24 : ∀ x, ¬ (35 ≤ x ∧ x < 70) → (upd fimages 35 (nI rw)) x = fimages x := fun x hx => (upd_ne (by omega)).trans ((fun _ _ => rfl) x hx)
      have hft0_24 : (upd fimages 35 (nI rw)) 35 = (nI rw) := upd_eq
      generalize (upd fimages 35 (nI rw)) = f_24 at hP hD him_24 hfO_24 hft0_24
      refine lv_aload_n hx hb dX8_keep_29 rfl (lv_at hl 1 rfl) ?_
      refine va_get (D := D) (ci := 8) (v := .ref (a 44)) (C := RX8) (T := TX8) (N := 44) hx hb hts inX8 hown hK hP 0 rfl rfl 43 (by decide) (hts _ tw_1016) (fun _ h9 => h9) rfl dX8_keep_30 ?_
      refine lv_iload_n hx hb dX8_keep_33 rfl (lv_at hl 0 rfl) ?_
      refine lv_iconst (v := 1) hx hb dX8_keep_34 (by decide) ?_
      refine lv_iadd hx hb dX8_keep_35 ?_
      refine lv_ti (y := 36) (by decide) ?_
      refine lv_aload_n hx hb dX8_keep_36 rfl (lv_at hl 1 rfl) ?_
      refine va_get (D := D) (ci := 8) (v := .int (nI ca)) (C := RX8) (T := TX8) (N := 44) hx hb hts inX8 hown hK hP 0 rfl rfl 34 (by decide) (hts _ tw_1007) (fun _ h9 => h9) rfl dX8_keep_37 ?_
      refine va_iast hx hb hK hP hD hS 5 1 rfl rfl (by unfold vp_in; decide) dX8_keep_40 (fun H locs hP hD hS => ?_)
      have hQ9 := pd_mk [((a 0), .inr (8, (fX8 a (nI tx) fp (nI t0) wd (nI we) nu na (nI rd) ts (nI ru) (nI rw) (nI ca) df db sd))), (aZ k (a 32) 24 frow), (aI k (a 36) 4 fwalks), (aI k (a 37) 4 (nF br)), (aZ k (a 43) 2 fisKept), (aI k (a 44) 70 (upd f_24 (Int32.toNatClampNeg 36) (nI ca)))] hP hD
      clear hP hD
      obtain ⟨hP, hD⟩ := hQ9
      have hQ9 := pd_mk [((a 0), .inr (8, (fX8 a (nI tx) fp (nI t0) wd (nI we) nu na (nI rd) ts (nI ru) (nI rw) (nI ca) df db sd))), (aZ k (a 32) 24 frow), (aI k (a 36) 4 fwalks), (aI k (a 37) 4 (nF br)), (aZ k (a 43) 2 fisKept), (aI k (a 44) 70 (upd f_24 36 (nI ca)))] hP hD
      clear hP hD
      obtain ⟨hP, hD⟩ := hQ9
      have him_26 : imOK (upd f_24 36 (nI ca)) := imOK_upd him_24 36 (nI ca) ⟨fun h => absurd h (by omega), fun _ => ⟨ca, by omega, rfl⟩, fun h => absurd h (by omega)⟩
      have hfO_26 : ∀ x, ¬ (35 ≤ x ∧ x < 70) → (upd f_24 36 (nI ca)) x = fimages x := fun x hx => (upd_ne (by omega)).trans (hfO_24 x hx)
      have hft0_26 : (upd f_24 36 (nI ca)) 35 = (nI rw) := (upd_ne (by omega)).trans hft0_24
      have hft1_26 : (upd f_24 36 (nI ca)) 36 = (nI ca) := upd_eq
      generalize (upd f_24 36 (nI ca)) = f_26 at hP hD him_26 hfO_26 hft0_26 hft1_26
      refine lv_aload_n hx hb dX8_keep_41 rfl (lv_at hl 1 rfl) ?_
      refine va_get (D := D) (ci := 8) (v := .ref (a 44)) (C := RX8) (T := TX8) (N := 44) hx hb hts inX8 hown hK hP 0 rfl rfl 43 (by decide) (hts _ tw_1016) (fun _ h9 => h9) rfl dX8_keep_42 ?_
      refine lv_iload_n hx hb dX8_keep_45 rfl (lv_at hl 0 rfl) ?_
      refine lv_iconst (v := 2) hx hb dX8_keep_46 (by decide) ?_
      refine lv_iadd hx hb dX8_keep_47 ?_
      refine lv_ti (y := 37) (by decide) ?_
      refine lv_aload_n hx hb dX8_keep_48 rfl (lv_at hl 1 rfl) ?_
      refine va_get (D := D) (ci := 8) (v := .int sd) (C := RX8) (T := TX8) (N := 44) hx hb hts inX8 hown hK hP 0 rfl rfl 41 (by decide) (hts _ tw_1014) (fun _ h9 => h9) rfl dX8_keep_49 ?_
      refine va_iast hx hb hK hP hD hS 5 1 rfl rfl (by unfold vp_in; decide) dX8_keep_52 (fun H locs hP hD hS => ?_)
      have hQ9 := pd_mk [((a 0), .inr (8, (fX8 a (nI tx) fp (nI t0) wd (nI we) nu na (nI rd) ts (nI ru) (nI rw) (nI ca) df db sd))), (aZ k (a 32) 24 frow), (aI k (a 36) 4 fwalks), (aI k (a 37) 4 (nF br)), (aZ k (a 43) 2 fisKept), (aI k (a 44) 70 (upd f_26 (Int32.toNatClampNeg 37) sd))] hP hD
      clear hP hD
      obtain ⟨hP, hD⟩ := hQ9
      have hQ9 := pd_mk [((a 0), .inr (8, (fX8 a (nI tx) fp (nI t0) wd (nI we) nu na (nI rd) ts (nI ru) (nI rw) (nI ca) df db sd))), (aZ k (a 32) 24 frow), (aI k (a 36) 4 fwalks), (aI k (a 37) 4 (nF br)), (aZ k (a 43) 2 fisKept), (aI k (a 44) 70 (upd f_26 37 sd))] hP hD
      clear hP hD
      obtain ⟨hP, hD⟩ := hQ9
      have him_28 : imOK (upd f_26 37 sd) := imOK_upd him_26 37 sd ⟨fun h => absurd h (by omega), fun h => absurd h (by omega), fun h => absurd h (by omega)⟩
      have hfO_28 : ∀ x, ¬ (35 ≤ x ∧ x < 70) → (upd f_26 37 sd) x = fimages x := fun x hx => (upd_ne (by omega)).trans (hfO_26 x hx)
      have hft0_28 : (upd f_26 37 sd) 35 = (nI rw) := (upd_ne (by omega)).trans hft0_26
      have hft1_28 : (upd f_26 37 sd) 36 = (nI ca) := (upd_ne (by omega)).trans hft1_26
      have hft2_28 : (upd f_26 37 sd) 37 = sd := upd_eq
      generalize (upd f_26 37 sd) = f_28 at hP hD him_28 hfO_28 hft0_28 hft1_28 hft2_28
      refine lv_iconst (v := 0) hx hb dX8_keep_53 (by decide) ?_
      refine lv_istore_n (lv' := [(3, .int 0), (2, .int 35), (0, .ref (a 0)), (1, .int 1)]) hx hb dX8_keep_54 rfl hl (by decide) rfl (fun ls hl => ?_)
      refine W_loop (σ := Nat × (Nat → Int32)) (fun (n_ : Nat) (x_ : Nat × (Nat → Int32)) (H : Heap) (locs : List Loc) (ls : Array Slot) => match x_ with | (kk_29, im_29) => n_ = 24 - kk_29 ∧ ((kk_29 ≤ 24) ∧ imOK im_29 ∧ (im_29 35 = (nI rw)) ∧ (im_29 36 = (nI ca)) ∧ (im_29 37 = sd) ∧ (∀ x, ¬ (35 ≤ x ∧ x < 70) → im_29 x = fimages x) ∧ (∀ i, i < kk_29 → im_29 (38 + i) = b01 (frow i))) ∧ va_P D classes [((a 0), .inr (8, (fX8 a (nI tx) fp (nI t0) wd (nI we) nu na (nI rd) ts (nI ru) (nI rw) (nI ca) df db sd))), (aZ k (a 32) 24 frow), (aI k (a 36) 4 fwalks), (aI k (a 37) 4 (nF br)), (aZ k (a 43) 2 fisKept), (aI k (a 44) 70 im_29)] H ∧ va_D A [((a 0), .inr (8, (fX8 a (nI tx) fp (nI t0) wd (nI we) nu na (nI rd) ts (nI ru) (nI rw) (nI ca) df db sd))), (aZ k (a 32) 24 frow), (aI k (a 36) 4 fwalks), (aI k (a 37) 4 (nF br)), (aZ k (a 43) 2 fisKept), (aI k (a 44) 70 im_29)] ∧ va_S A s.heap H locs ∧ lv_has ls 4 [(3, .int (nI kk_29)), (2, .int 35), (0, .ref (a 0)), (1, .int 1)]) (fun n_29 x_29 H locs ls hI ih_29 => ?_) _ (0, f_28) ⟨rfl, ⟨by omega, him_28, hft0_28, hft1_28, hft2_28, hfO_28, (fun i hi => absurd hi (Nat.not_lt_zero i))⟩, hP, hD, hS, (lv_sub hl [0, 1, 2, 3] rfl)⟩
      obtain ⟨kk_29, im_29⟩ := x_29
      obtain ⟨hm_29, hv_29, hP, hD, hS, hl⟩ := hI
      subst hm_29
      obtain ⟨-, himl_29, hlt0_29, hlt1_29, hlt2_29, hlO_29, hlG_29⟩ := id hv_29
      refine lv_iload_n hx hb dX8_keep_55 rfl (lv_at hl 0 rfl) ?_
      refine lv_bipush (v := 24) hx hb dX8_keep_56 (by decide) ?_
      refine lv_icmp_ge (tgt := 91) hx hb dX8_keep_58 (by decide) (fun c_30 => ?_) (fun c_30 => ?_)
      · have c_30 := (nI_leI (a := 24) (b := kk_29) (by omega) (by omega)).mp c_30
        refine lv_iconst (v := 0) hx hb dX8_keep_91 (by decide) ?_
        refine lv_istore_n (lv' := [(3, .int 0), (2, .int 35), (0, .ref (a 0)), (1, .int 1)]) hx hb dX8_keep_92 rfl hl (by decide) rfl (fun ls hl => ?_)
        refine W_loop (σ := Nat × (Nat → Int32)) (fun (n_ : Nat) (x_ : Nat × (Nat → Int32)) (H : Heap) (locs : List Loc) (ls : Array Slot) => match x_ with | (kk_31, im_31) => n_ = 4 - kk_31 ∧ ((kk_31 ≤ 4) ∧ imOK im_31 ∧ (im_31 35 = (nI rw)) ∧ (im_31 36 = (nI ca)) ∧ (im_31 37 = sd) ∧ (∀ x, ¬ (35 ≤ x ∧ x < 70) → im_31 x = fimages x) ∧ (∀ i, i < 24 → im_31 (38 + i) = b01 (frow i)) ∧ (∀ i, i < kk_31 → im_31 (62 + i) = fwalks i)) ∧ va_P D classes [((a 0), .inr (8, (fX8 a (nI tx) fp (nI t0) wd (nI we) nu na (nI rd) ts (nI ru) (nI rw) (nI ca) df db sd))), (aZ k (a 32) 24 frow), (aI k (a 36) 4 fwalks), (aI k (a 37) 4 (nF br)), (aZ k (a 43) 2 fisKept), (aI k (a 44) 70 im_31)] H ∧ va_D A [((a 0), .inr (8, (fX8 a (nI tx) fp (nI t0) wd (nI we) nu na (nI rd) ts (nI ru) (nI rw) (nI ca) df db sd))), (aZ k (a 32) 24 frow), (aI k (a 36) 4 fwalks), (aI k (a 37) 4 (nF br)), (aZ k (a 43) 2 fisKept), (aI k (a 44) 70 im_31)] ∧ va_S A s.heap H locs ∧ lv_has ls 4 [(3, .int (nI kk_31)), (2, .int 35), (0, .ref (a 0)), (1, .int 1)]) (fun n_31 x_31 H locs ls hI ih_31 => ?_) _ (0, im_29) ⟨rfl, ⟨by omega, himl_29, hlt0_29, hlt1_29, hlt2_29, hlO_29, (fun i hi => hlG_29 i (by omega)), (fun i hi => absurd hi (Nat.not_lt_zero i))⟩, hP, hD, hS, (lv_sub hl [0, 1, 2, 3] rfl)⟩
        obtain ⟨kk_31, im_31⟩ := x_31
        obtain ⟨hm_31, hv_31, hP, hD, hS, hl⟩ := hI
        subst hm_31
        obtain ⟨-, himl_31, hlt0_31, hlt1_31, hlt2_31, hlO_31, hlR_31, hlG_31⟩ := id hv_31
        refine lv_iload_n hx hb dX8_keep_93 rfl (lv_at hl 0 rfl) ?_
        refine lv_iconst (v := 4) hx hb dX8_keep_94 (by decide) ?_
        refine lv_icmp_ge (tgt := 138) hx hb dX8_keep_95 (by decide) (fun c_32 => ?_) (fun c_32 => ?_)
        · have c_32 := (nI_leI (a := 4) (b := kk_31) (by omega) (by omega)).mp c_32
          refine lv_aload_n hx hb dX8_keep_138 rfl (lv_at hl 2 rfl) ?_
          refine va_get (D := D) (ci := 8) (v := .ref (a 43)) (C := RX8) (T := TX8) (N := 44) hx hb hts inX8 hown hK hP 0 rfl rfl 42 (by decide) (hts _ tw_1015) (fun _ h9 => h9) rfl dX8_keep_139 ?_
          refine lv_iload_n hx hb dX8_keep_142 rfl (lv_at hl 3 rfl) ?_
          refine lv_iconst (v := 1) hx hb dX8_keep_143 (by decide) ?_
          refine va_zast hx hb hK hP hD hS 4 2 rfl rfl (by unfold vp_in; decide) dX8_keep_144 (fun H locs hP hD hS => ?_)
          have hQ9 := pd_mk [((a 0), .inr (8, (fX8 a (nI tx) fp (nI t0) wd (nI we) nu na (nI rd) ts (nI ru) (nI rw) (nI ca) df db sd))), (aZ k (a 32) 24 frow), (aI k (a 36) 4 fwalks), (aI k (a 37) 4 (nF br)), (aZ k (a 43) 2 (upd fisKept (Int32.toNatClampNeg 1) (vp_nar .boolean 1))), (aI k (a 44) 70 im_31)] hP hD
          clear hP hD
          obtain ⟨hP, hD⟩ := hQ9
          have hQ9 := pd_mk [((a 0), .inr (8, (fX8 a (nI tx) fp (nI t0) wd (nI we) nu na (nI rd) ts (nI ru) (nI rw) (nI ca) df db sd))), (aZ k (a 32) 24 frow), (aI k (a 36) 4 fwalks), (aI k (a 37) 4 (nF br)), (aZ k (a 43) 2 (upd fisKept 1 1)), (aI k (a 44) 70 im_31)] hP hD
          clear hP hD
          obtain ⟨hP, hD⟩ := hQ9
          refine lv_iconst (v := 1) hx hb dX8_keep_145 (by decide) ?_
          obtain ⟨hP9, hD9⟩ := pd_sub [((a 0), .inr (8, (fX8 a (nI tx) fp (nI t0) wd (nI we) nu na (nI rd) ts (nI ru) (nI rw) (nI ca) df db sd))), (aZ k (a 32) 24 frow), (aI k (a 36) 4 fwalks), (aI k (a 37) 4 (nF br)), (aZ k (a 43) 2 (upd fisKept 1 1)), (aI k (a 44) 70 im_31)] [0, 1, 2, 3, 4, 5] hP hD (by decide) rfl
          exact W.iret (v := 1) hx hb hr (fun t ht hW => ⟨⟨1, ((upd fisKept 1 1), im_31), rfl, ⟨himl_31, ⟨fun h => absurd h (by decide), fun _ => ⟨by rfl, hlO_31 0 (by omega), hlO_31 1 (by omega)⟩⟩, ⟨fun _ => ⟨by rfl, hlt0_31, hlt1_31⟩, fun h => absurd rfl h⟩, fun _ => rfl, fun h => absurd hw_1 h, ⟨fun h => absurd h (by decide), fun _ x h1 h2 => hlO_31 x (by omega)⟩, ⟨fun _ => ⟨hlt2_31, hlR_31, fun c hc => hlG_31 c (by omega)⟩, fun h => absurd rfl h⟩⟩, by rw [ht]; exact hP9, hD9⟩, hS.F ht⟩) hS.2.2 dX8_keep_146
        · have c_32 : ¬ (4 ≤ kk_31) := fun h => c_32 ((nI_leI (a := 4) (b := kk_31) (by omega) (by omega)).mpr h)
          refine lv_aload_n hx hb dX8_keep_98 rfl (lv_at hl 2 rfl) ?_
          refine va_get (D := D) (ci := 8) (v := .ref (a 44)) (C := RX8) (T := TX8) (N := 44) hx hb hts inX8 hown hK hP 0 rfl rfl 43 (by decide) (hts _ tw_1016) (fun _ h9 => h9) rfl dX8_keep_99 ?_
          refine lv_iload_n hx hb dX8_keep_102 rfl (lv_at hl 1 rfl) ?_
          refine lv_bipush (v := 27) hx hb dX8_keep_103 (by decide) ?_
          refine lv_iadd hx hb dX8_keep_105 ?_
          refine lv_ti (y := 62) (by decide) ?_
          refine lv_iload_n hx hb dX8_keep_106 rfl (lv_at hl 0 rfl) ?_
          refine lv_iadd hx hb dX8_keep_107 ?_
          refine lv_ti (y := (nI (62 + kk_31))) (nI_add 62 kk_31) ?_
          refine lv_aload_n hx hb dX8_keep_108 rfl (lv_at hl 2 rfl) ?_
          refine va_get (D := D) (ci := 8) (v := .ref (a 36)) (C := RX8) (T := TX8) (N := 44) hx hb hts inX8 hown hK hP 0 rfl rfl 35 (by decide) (hts _ tw_1008) (fun _ h9 => h9) rfl dX8_keep_109 ?_
          refine lv_iload_n hx hb dX8_keep_112 rfl (lv_at hl 0 rfl) ?_
          refine va_iald hx hb hK hP 2 1 rfl rfl (vp_in_nI (by omega) (by decide)) dX8_keep_113 ?_
          refine lv_ti (y := (fwalks kk_31)) (by rw [nI_clamp (by omega)]) ?_
          refine va_iast hx hb hK hP hD hS 5 1 rfl rfl (vp_in_nI (by omega) (by decide)) dX8_keep_114 (fun H locs hP hD hS => ?_)
          have hQ9 := pd_mk [((a 0), .inr (8, (fX8 a (nI tx) fp (nI t0) wd (nI we) nu na (nI rd) ts (nI ru) (nI rw) (nI ca) df db sd))), (aZ k (a 32) 24 frow), (aI k (a 36) 4 fwalks), (aI k (a 37) 4 (nF br)), (aZ k (a 43) 2 fisKept), (aI k (a 44) 70 (upd im_31 (Int32.toNatClampNeg (nI (62 + kk_31))) (fwalks kk_31)))] hP hD
          clear hP hD
          obtain ⟨hP, hD⟩ := hQ9
          rw [nI_clamp (n := (62 + kk_31)) (by omega)] at hP hD
          have hQ9 := pd_mk [((a 0), .inr (8, (fX8 a (nI tx) fp (nI t0) wd (nI we) nu na (nI rd) ts (nI ru) (nI rw) (nI ca) df db sd))), (aZ k (a 32) 24 frow), (aI k (a 36) 4 fwalks), (aI k (a 37) 4 (nF br)), (aZ k (a 43) 2 fisKept), (aI k (a 44) 70 (upd im_31 (62 + kk_31) (fwalks kk_31)))] hP hD
          clear hP hD
          obtain ⟨hP, hD⟩ := hQ9
          have him_35 : imOK (upd im_31 (62 + kk_31) (fwalks kk_31)) := imOK_upd himl_31 (62 + kk_31) (fwalks kk_31) ⟨fun h => absurd h (by omega), fun h => absurd h (by omega), fun h => absurd h (by omega)⟩
          have hft0_35 : (upd im_31 (62 + kk_31) (fwalks kk_31)) 35 = (nI rw) := (upd_ne (by omega)).trans hlt0_31
          have hft1_35 : (upd im_31 (62 + kk_31) (fwalks kk_31)) 36 = (nI ca) := (upd_ne (by omega)).trans hlt1_31
          have hft2_35 : (upd im_31 (62 + kk_31) (fwalks kk_31)) 37 = sd := (upd_ne (by omega)).trans hlt2_31
          have hfO_35 : ∀ x, ¬ (35 ≤ x ∧ x < 70) → (upd im_31 (62 + kk_31) (fwalks kk_31)) x = fimages x := fun x hx => (upd_ne (by omega)).trans (hlO_31 x hx)
          have hfR_35 : ∀ i, i < 24 → (upd im_31 (62 + kk_31) (fwalks kk_31)) (38 + i) = b01 (frow i) := fun i hi => (upd_ne (by omega)).trans (hlR_31 i hi)
          have hfW_35 : ∀ i, i < kk_31 + 1 → (upd im_31 (62 + kk_31) (fwalks kk_31)) (62 + i) = fwalks i := im_st (F := fwalks) hlG_31 rfl
          generalize (upd im_31 (62 + kk_31) (fwalks kk_31)) = f_35 at hP hD him_35 hft0_35 hft1_35 hft2_35 hfO_35 hfR_35 hfW_35
          refine lv_aload_n hx hb dX8_keep_115 rfl (lv_at hl 2 rfl) ?_
          refine va_get (D := D) (ci := 8) (v := .ref (a 44)) (C := RX8) (T := TX8) (N := 44) hx hb hts inX8 hown hK hP 0 rfl rfl 43 (by decide) (hts _ tw_1016) (fun _ h9 => h9) rfl dX8_keep_116 ?_
          refine lv_iload_n hx hb dX8_keep_119 rfl (lv_at hl 1 rfl) ?_
          refine lv_bipush (v := 31) hx hb dX8_keep_120 (by decide) ?_
          refine lv_iadd hx hb dX8_keep_122 ?_
          refine lv_ti (y := 66) (by decide) ?_
          refine lv_iload_n hx hb dX8_keep_123 rfl (lv_at hl 0 rfl) ?_
          refine lv_iadd hx hb dX8_keep_124 ?_
          refine lv_ti (y := (nI (66 + kk_31))) (nI_add 66 kk_31) ?_
          refine lv_aload_n hx hb dX8_keep_125 rfl (lv_at hl 2 rfl) ?_
          refine va_get (D := D) (ci := 8) (v := .ref (a 37)) (C := RX8) (T := TX8) (N := 44) hx hb hts inX8 hown hK hP 0 rfl rfl 36 (by decide) (hts _ tw_1009) (fun _ h9 => h9) rfl dX8_keep_126 ?_
          refine lv_iload_n hx hb dX8_keep_129 rfl (lv_at hl 0 rfl) ?_
          refine va_iald hx hb hK hP 3 1 rfl rfl (vp_in_nI (by omega) (by decide)) dX8_keep_130 ?_
          have hq_36 := hbr kk_31
          refine lv_ti (y := (nI (br kk_31))) (by rw [nI_clamp (by omega)]; rfl) ?_
          refine va_iast hx hb hK hP hD hS 5 1 rfl rfl (vp_in_nI (by omega) (by decide)) dX8_keep_131 (fun H locs hP hD hS => ?_)
          have hQ9 := pd_mk [((a 0), .inr (8, (fX8 a (nI tx) fp (nI t0) wd (nI we) nu na (nI rd) ts (nI ru) (nI rw) (nI ca) df db sd))), (aZ k (a 32) 24 frow), (aI k (a 36) 4 fwalks), (aI k (a 37) 4 (nF br)), (aZ k (a 43) 2 fisKept), (aI k (a 44) 70 (upd f_35 (Int32.toNatClampNeg (nI (66 + kk_31))) (nI (br kk_31))))] hP hD
          clear hP hD
          obtain ⟨hP, hD⟩ := hQ9
          rw [nI_clamp (n := (66 + kk_31)) (by omega)] at hP hD
          have hQ9 := pd_mk [((a 0), .inr (8, (fX8 a (nI tx) fp (nI t0) wd (nI we) nu na (nI rd) ts (nI ru) (nI rw) (nI ca) df db sd))), (aZ k (a 32) 24 frow), (aI k (a 36) 4 fwalks), (aI k (a 37) 4 (nF br)), (aZ k (a 43) 2 fisKept), (aI k (a 44) 70 (upd f_35 (66 + kk_31) (nI (br kk_31))))] hP hD
          clear hP hD
          obtain ⟨hP, hD⟩ := hQ9
          have him_38 : imOK (upd f_35 (66 + kk_31) (nI (br kk_31))) := imOK_upd him_35 (66 + kk_31) (nI (br kk_31)) ⟨fun h => absurd h (by omega), fun h => absurd h (by omega), fun _ => ⟨br kk_31, by omega, rfl⟩⟩
          have hft0_38 : (upd f_35 (66 + kk_31) (nI (br kk_31))) 35 = (nI rw) := (upd_ne (by omega)).trans hft0_35
          have hft1_38 : (upd f_35 (66 + kk_31) (nI (br kk_31))) 36 = (nI ca) := (upd_ne (by omega)).trans hft1_35
          have hft2_38 : (upd f_35 (66 + kk_31) (nI (br kk_31))) 37 = sd := (upd_ne (by omega)).trans hft2_35
          have hfO_38 : ∀ x, ¬ (35 ≤ x ∧ x < 70) → (upd f_35 (66 + kk_31) (nI (br kk_31))) x = fimages x := fun x hx => (upd_ne (by omega)).trans (hfO_35 x hx)
          have hfR_38 : ∀ i, i < 24 → (upd f_35 (66 + kk_31) (nI (br kk_31))) (38 + i) = b01 (frow i) := fun i hi => (upd_ne (by omega)).trans (hfR_35 i hi)
          have hfW_38 : ∀ i, i < kk_31 + 1 → (upd f_35 (66 + kk_31) (nI (br kk_31))) (62 + i) = fwalks i := fun i hi => (upd_ne (by omega)).trans (hfW_35 i hi)
          generalize (upd f_35 (66 + kk_31) (nI (br kk_31))) = f_38 at hP hD him_38 hft0_38 hft1_38 hft2_38 hfO_38 hfR_38 hfW_38
          refine lv_iinc (v := (nI (kk_31 + 1))) (lv' := [(3, .int (nI (kk_31 + 1))), (2, .int 35), (0, .ref (a 0)), (1, .int 1)]) hx hb dX8_keep_132 hl (k := 0) rfl (nI_add kk_31 1) (by decide) rfl (fun ls hl => ?_)
          refine lv_goto (tgt := 93) hx hb dX8_keep_135 (by decide) ?_
          exact ih_31 _ (kk_31 + 1, f_38) _ _ _ (by omega) ⟨rfl, ⟨by omega, him_38, hft0_38, hft1_38, hft2_38, hfO_38, hfR_38, hfW_38⟩, hP, hD, hS, (lv_sub hl [0, 1, 2, 3] rfl)⟩
      · have c_30 : ¬ (24 ≤ kk_29) := fun h => c_30 ((nI_leI (a := 24) (b := kk_29) (by omega) (by omega)).mpr h)
        refine lv_aload_n hx hb dX8_keep_61 rfl (lv_at hl 2 rfl) ?_
        refine va_get (D := D) (ci := 8) (v := .ref (a 44)) (C := RX8) (T := TX8) (N := 44) hx hb hts inX8 hown hK hP 0 rfl rfl 43 (by decide) (hts _ tw_1016) (fun _ h9 => h9) rfl dX8_keep_62 ?_
        refine lv_iload_n hx hb dX8_keep_65 rfl (lv_at hl 1 rfl) ?_
        refine lv_iconst (v := 3) hx hb dX8_keep_66 (by decide) ?_
        refine lv_iadd hx hb dX8_keep_67 ?_
        refine lv_ti (y := 38) (by decide) ?_
        refine lv_iload_n hx hb dX8_keep_68 rfl (lv_at hl 0 rfl) ?_
        refine lv_iadd hx hb dX8_keep_69 ?_
        refine lv_ti (y := (nI (38 + kk_29))) (nI_add 38 kk_29) ?_
        refine lv_aload_n hx hb dX8_keep_70 rfl (lv_at hl 2 rfl) ?_
        refine va_get (D := D) (ci := 8) (v := .ref (a 32)) (C := RX8) (T := TX8) (N := 44) hx hb hts inX8 hown hK hP 0 rfl rfl 31 (by decide) (hts _ tw_1004) (fun _ h9 => h9) rfl dX8_keep_71 ?_
        refine lv_iload_n hx hb dX8_keep_74 rfl (lv_at hl 0 rfl) ?_
        refine va_zald hx hb hK hP 1 2 rfl rfl (vp_in_nI (by omega) (by decide)) dX8_keep_75 ?_
        refine lv_ti (y := (frow kk_29)) (by rw [nI_clamp (by omega)]) ?_
        refine lv_if_eq (tgt := 83) hx hb dX8_keep_76 (by decide) (fun c_39 => ?_) (fun c_39 => ?_)
        · refine lv_iconst (v := 0) hx hb dX8_keep_83 (by decide) ?_
          refine va_iast hx hb hK hP hD hS 5 1 rfl rfl (vp_in_nI (by omega) (by decide)) dX8_keep_84 (fun H locs hP hD hS => ?_)
          have hQ9 := pd_mk [((a 0), .inr (8, (fX8 a (nI tx) fp (nI t0) wd (nI we) nu na (nI rd) ts (nI ru) (nI rw) (nI ca) df db sd))), (aZ k (a 32) 24 frow), (aI k (a 36) 4 fwalks), (aI k (a 37) 4 (nF br)), (aZ k (a 43) 2 fisKept), (aI k (a 44) 70 (upd im_29 (Int32.toNatClampNeg (nI (38 + kk_29))) 0))] hP hD
          clear hP hD
          obtain ⟨hP, hD⟩ := hQ9
          rw [nI_clamp (n := (38 + kk_29)) (by omega)] at hP hD
          have hQ9 := pd_mk [((a 0), .inr (8, (fX8 a (nI tx) fp (nI t0) wd (nI we) nu na (nI rd) ts (nI ru) (nI rw) (nI ca) df db sd))), (aZ k (a 32) 24 frow), (aI k (a 36) 4 fwalks), (aI k (a 37) 4 (nF br)), (aZ k (a 43) 2 fisKept), (aI k (a 44) 70 (upd im_29 (38 + kk_29) 0))] hP hD
          clear hP hD
          obtain ⟨hP, hD⟩ := hQ9
          have him_41 : imOK (upd im_29 (38 + kk_29) 0) := imOK_upd himl_29 (38 + kk_29) 0 ⟨fun h => absurd h (by omega), fun h => absurd h (by omega), fun h => absurd h (by omega)⟩
          have hft0_41 : (upd im_29 (38 + kk_29) 0) 35 = (nI rw) := (upd_ne (by omega)).trans hlt0_29
          have hft1_41 : (upd im_29 (38 + kk_29) 0) 36 = (nI ca) := (upd_ne (by omega)).trans hlt1_29
          have hft2_41 : (upd im_29 (38 + kk_29) 0) 37 = sd := (upd_ne (by omega)).trans hlt2_29
          have hfO_41 : ∀ x, ¬ (35 ≤ x ∧ x < 70) → (upd im_29 (38 + kk_29) 0) x = fimages x := fun x hx => (upd_ne (by omega)).trans (hlO_29 x hx)
          have hfR_41 : ∀ i, i < kk_29 + 1 → (upd im_29 (38 + kk_29) 0) (38 + i) = b01 (frow i) := im_st (F := fun i => b01 (frow i)) hlG_29 (show (0 : Int32) = b01 (frow kk_29) from (if_pos c_39).symm)
          generalize (upd im_29 (38 + kk_29) 0) = f_41 at hP hD him_41 hft0_41 hft1_41 hft2_41 hfO_41 hfR_41
          refine lv_iinc (v := (nI (kk_29 + 1))) (lv' := [(3, .int (nI (kk_29 + 1))), (2, .int 35), (0, .ref (a 0)), (1, .int 1)]) hx hb dX8_keep_85 hl (k := 0) rfl (nI_add kk_29 1) (by decide) rfl (fun ls hl => ?_)
          refine lv_goto (tgt := 55) hx hb dX8_keep_88 (by decide) ?_
          exact ih_29 _ (kk_29 + 1, f_41) _ _ _ (by omega) ⟨rfl, ⟨by omega, him_41, hft0_41, hft1_41, hft2_41, hfO_41, hfR_41⟩, hP, hD, hS, (lv_sub hl [0, 1, 2, 3] rfl)⟩
        · refine lv_iconst (v := 1) hx hb dX8_keep_79 (by decide) ?_
          refine lv_goto (tgt := 84) hx hb dX8_keep_80 (by decide) ?_
          refine va_iast hx hb hK hP hD hS 5 1 rfl rfl (vp_in_nI (by omega) (by decide)) dX8_keep_84 (fun H locs hP hD hS => ?_)
          have hQ9 := pd_mk [((a 0), .inr (8, (fX8 a (nI tx) fp (nI t0) wd (nI we) nu na (nI rd) ts (nI ru) (nI rw) (nI ca) df db sd))), (aZ k (a 32) 24 frow), (aI k (a 36) 4 fwalks), (aI k (a 37) 4 (nF br)), (aZ k (a 43) 2 fisKept), (aI k (a 44) 70 (upd im_29 (Int32.toNatClampNeg (nI (38 + kk_29))) 1))] hP hD
          clear hP hD
          obtain ⟨hP, hD⟩ := hQ9
          rw [nI_clamp (n := (38 + kk_29)) (by omega)] at hP hD
          have hQ9 := pd_mk [((a 0), .inr (8, (fX8 a (nI tx) fp (nI t0) wd (nI we) nu na (nI rd) ts (nI ru) (nI rw) (nI ca) df db sd))), (aZ k (a 32) 24 frow), (aI k (a 36) 4 fwalks), (aI k (a 37) 4 (nF br)), (aZ k (a 43) 2 fisKept), (aI k (a 44) 70 (upd im_29 (38 + kk_29) 1))] hP hD
          clear hP hD
          obtain ⟨hP, hD⟩ := hQ9
          have him_43 : imOK (upd im_29 (38 + kk_29) 1) := imOK_upd himl_29 (38 + kk_29) 1 ⟨fun h => absurd h (by omega), fun h => absurd h (by omega), fun h => absurd h (by omega)⟩
          have hft0_43 : (upd im_29 (38 + kk_29) 1) 35 = (nI rw) := (upd_ne (by omega)).trans hlt0_29
          have hft1_43 : (upd im_29 (38 + kk_29) 1) 36 = (nI ca) := (upd_ne (by omega)).trans hlt1_29
          have hft2_43 : (upd im_29 (38 + kk_29) 1) 37 = sd := (upd_ne (by omega)).trans hlt2_29
          have hfO_43 : ∀ x, ¬ (35 ≤ x ∧ x < 70) → (upd im_29 (38 + kk_29) 1) x = fimages x := fun x hx => (upd_ne (by omega)).trans (hlO_29 x hx)
          have hfR_43 : ∀ i, i < kk_29 + 1 → (upd im_29 (38 + kk_29) 1) (38 + i) = b01 (frow i) := im_st (F := fun i => b01 (frow i)) hlG_29 (show (1 : Int32) = b01 (frow kk_29) from (if_neg c_39).symm)
          generalize (upd im_29 (38 + kk_29) 1) = f_43 at hP hD him_43 hft0_43 hft1_43 hft2_43 hfO_43 hfR_43
          refine lv_iinc (v := (nI (kk_29 + 1))) (lv' := [(3, .int (nI (kk_29 + 1))), (2, .int 35), (0, .ref (a 0)), (1, .int 1)]) hx hb dX8_keep_85 hl (k := 0) rfl (nI_add kk_29 1) (by decide) rfl (fun ls hl => ?_)
          refine lv_goto (tgt := 55) hx hb dX8_keep_88 (by decide) ?_
          exact ih_29 _ (kk_29 + 1, f_43) _ _ _ (by omega) ⟨rfl, ⟨by omega, him_43, hft0_43, hft1_43, hft2_43, hfO_43, hfR_43⟩, hP, hD, hS, (lv_sub hl [0, 1, 2, 3] rfl)⟩
  · refine lv_if_ne (tgt := 14) hx hb dX8_keep_7 (by decide) (fun h => absurd (by decide) h) (fun _ => ?_)
    refine lv_sipush (v := (-1001)) hx hb dX8_keep_10 (by decide) ?_
    obtain ⟨hP9, hD9⟩ := pd_sub [((a 0), .inr (8, (fX8 a (nI tx) fp (nI t0) wd (nI we) nu na (nI rd) ts (nI ru) (nI rw) (nI ca) df db sd))), (aZ k (a 32) 24 frow), (aI k (a 36) 4 fwalks), (aI k (a 37) 4 (nF br)), (aZ k (a 43) 2 fisKept), (aI k (a 44) 70 fimages)] [0, 1, 2, 3, 4, 5] hP hD (by decide) rfl
    exact W.iret (v := (-1001)) hx hb hr (fun t ht hW => ⟨⟨(-1001), (fisKept, fimages), rfl, ⟨him, ⟨fun h => absurd h (no_in hw_1).1, fun _ => ⟨rfl, rfl, rfl⟩⟩, ⟨fun h => absurd h (no_in hw_1).2, fun _ => ⟨rfl, rfl, rfl⟩⟩, fun h => absurd h hw_1, fun _ => rfl, ⟨fun h => absurd h (no_in hw_1).1, fun _ _ _ _ => rfl⟩, ⟨fun h => absurd h (no_in hw_1).2, fun _ _ _ _ => rfl⟩⟩, by rw [ht]; exact hP9, hD9⟩, hS.F ht⟩) hS.2.2 dX8_keep_13


set_option maxHeartbeats 4000000 in
set_option maxRecDepth 100000 in
theorem m_goBack3 (l : Launch) (D : va_G) (k : Nat → ClassId) (st : Nat → Nat) (lo : Nat) (a : Nat → Nat) (tx : Nat) (t0 : Nat) (we : Nat) (rd : Nat) (ru : Nat) (rw : Nat) (ca : Nat) (fp : Int32) (wd : Int64) (nu : Int32) (na : Int32) (ts : Int32) (df : Int32) (db : Int32) (sd : Int32) (fisKept : Nat → Int32) (fimages : Nat → Int32) (frow : Nat → Int32) (fwalks : Nat → Int32) (br : Nat → Nat) (pz : Int32) (hrw : rw ≤ 24) (hca : ca ≤ 4) (hbr : ∀ j, br j ≤ 24) (him : imOK fimages) : CWi l D k st lo yX8_goBack cX8_goBack 4 (some .int) ({ frames := 1, cells := 0, slots := 0, locals := 25 }) 0 0 [.ref (a 0), .int pz] [((a 0), .inr (8, (fX8 a (nI tx) fp (nI t0) wd (nI we) nu na (nI rd) ts (nI ru) (nI rw) (nI ca) df db sd))), (aZ k (a 43) 2 fisKept), (aI k (a 44) 70 fimages), (aZ k (a 32) 24 frow), (aI k (a 36) 4 fwalks), (aI k (a 37) 4 (nF br))] (fun (r : Int32) (u : Nat × Nat × Int32 × (Nat → Int32) × (Nat → Int32) × (Nat → Nat)) => match u with | (rw_, ca_, sd_, frow_, fwalks_, br_) => (∀ b0 b1 a0 a1 : Nat, fimages 0 = nI b0 → fimages 35 = nI b1 → fimages 1 = nI a0 → fimages 36 = nI a1 → b0 ≤ 24 → b1 ≤ 24 → a0 ≤ 4 → a1 ≤ 4 → gbP pz (fisKept 0) (fisKept 1) b0 b1 rw r rw_ ∧ gbP pz (fisKept 0) (fisKept 1) a0 a1 ca r ca_) ∧ rw_ ≤ 24 ∧ ca_ ≤ 4 ∧ (∀ j, br_ j ≤ 24) ∧ gbR pz (fisKept 0) (fisKept 1) fimages frow sd fwalks frow_ sd_ fwalks_) (fun (u : Nat × Nat × Int32 × (Nat → Int32) × (Nat → Int32) × (Nat → Nat)) => match u with | (rw_, ca_, sd_, frow_, fwalks_, br_) => [((a 0), .inr (8, (fX8 a (nI tx) fp (nI t0) wd (nI we) nu na (nI rd) ts (nI ru) (nI rw_) (nI ca_) df db sd_))), (aZ k (a 43) 2 fisKept), (aI k (a 44) 70 fimages), (aZ k (a 32) 24 frow_), (aI k (a 36) 4 fwalks_), (aI k (a 37) 4 (nF br_))]) := by
  intro sz
  refine Met.ofW (cc := cX8_goBack) (maxL := 4) (ret := (some .int)) (by decide) rfl ?_
  intro p e s m args below meth c s₁ B hml hv
  obtain ⟨rfl, hsz, hlo, hP, hK, hDL, hZ⟩ := hv
  have hx := B.exec
  have hb := B.bytes
  have hr := B.returns
  have hts := WS_ts B.pre
  have hown : s.vm.findClass RX8 = some m.cls := findClass_of_methodNamed B.named
  have hlocks := B.notSynchronized
  subst hsz
  have hD := hDL.self (sz := s.heap.size)
  have hAlo := A_lo hDL hlo
  generalize hAe : va_A [((a 0), .inr (8, (fX8 a (nI tx) fp (nI t0) wd (nI we) nu na (nI rd) ts (nI ru) (nI rw) (nI ca) df db sd))), (aZ k (a 43) 2 fisKept), (aI k (a 44) 70 fimages), (aZ k (a 32) 24 frow), (aI k (a 36) 4 fwalks), (aI k (a 37) 4 (nF br))] s.heap.size = A at hD hAlo ⊢
  have hA : ∀ q : Nat, s.heap.size ≤ q → A q := fun q h => by rw [← hAe]; exact Or.inr h
  have hS : va_S A s.heap s.heap [] := va_S.rf
  have hl := lv_entry ([.ref (a 0), .int pz]) (n := 4) (Nat.le_of_ble_eq_true rfl)
  rw [lg_entry_eq]
  generalize (lg_sl ([.ref (a 0), .int pz]) ++ List.replicate (4 - (lg_sl ([.ref (a 0), .int pz])).length) Slot.unset).toArray = ls at hl ⊢
  have hl : lv_has ls 4 [(0, .ref (a 0)), (1, .int pz)] := hl
  refine lv_iload_n hx hb dX8_goBack_0 rfl (lv_at hl 1 rfl) ?_
  refine lv_i2l (v := pz.toInt64) hx hb dX8_goBack_1 rfl ?_
  refine lv_lconst (v := (0 : Int32).toInt64) hx hb dX8_goBack_2 (by decide) ?_
  refine lv_lconst (v := (1 : Int32).toInt64) hx hb dX8_goBack_3 (by decide) ?_
  refine ro_i (D := D) (va_runS (As := [.long (pz.toInt64), .long ((0 : Int32).toInt64), .long ((1 : Int32).toInt64)]) (rest := []) ⟨hx, hb, hml, hown, hts⟩ ((k_in l D k st lo pz (0 : Int32) (1 : Int32)) s.heap.size) (va_cwS 3 hts (gS tw_1111 tw_1112 tw_87 tw_1113) rfl rfl rfl (by decide +kernel) ⟨Nat.le_of_ble_eq_true rfl, Nat.le_of_ble_eq_true rfl⟩) (pS hS hAlo hlo hP hK (va_Dlo hD hAlo) hZ [] (by decide) rfl) rfl rfl hl.1 rfl (lv_room (Nat.le_of_ble_eq_true rfl)) dX8_goBack_4 ⟨Nat.le_of_ble_eq_true rfl, Nat.le_of_ble_eq_true rfl⟩) hS hA hP (fun r_1 H locs hw_1 hP hS => ?_)
  try dsimp only at hw_1
  rcases hw_1 with ⟨rfl, hw_1⟩ | ⟨rfl, hw_1⟩
  · refine lv_if_ne (tgt := 14) hx hb dX8_goBack_7 (by decide) (fun _ => ?_) (fun h => absurd h (by decide))
    rcases spl2 hw_1 with rfl | rfl
    · refine lv_aload_n hx hb dX8_goBack_14 rfl (lv_at hl 0 rfl) ?_
      refine va_get (D := D) (ci := 8) (v := .ref (a 43)) (C := RX8) (T := TX8) (N := 44) hx hb hts inX8 hown hK hP 0 rfl rfl 42 (by decide) (hts _ tw_1015) (fun _ h9 => h9) rfl dX8_goBack_15 ?_
      refine lv_iload_n hx hb dX8_goBack_18 rfl (lv_at hl 1 rfl) ?_
      refine va_zald hx hb hK hP 1 2 rfl rfl (by unfold vp_in; decide) dX8_goBack_19 ?_
      refine lv_ti (y := (fisKept 0)) (by rfl) ?_
      refine lv_if_ne (tgt := 27) hx hb dX8_goBack_20 (by decide) (fun c_2 => ?_) (fun c_2 => ?_)
      · refine lv_bipush (v := 35) hx hb dX8_goBack_27 (by decide) ?_
        refine lv_iload_n hx hb dX8_goBack_29 rfl (lv_at hl 1 rfl) ?_
        refine lv_imul hx hb dX8_goBack_30 ?_
        refine lv_ti (y := 0) (by decide) ?_
        refine lv_istore_n (lv' := [(2, .int 0), (0, .ref (a 0)), (1, .int 0)]) hx hb dX8_goBack_31 rfl hl (by decide) rfl (fun ls hl => ?_)
        refine lv_aload_n hx hb dX8_goBack_32 rfl (lv_at hl 1 rfl) ?_
        refine lv_aload_n hx hb dX8_goBack_33 rfl (lv_at hl 1 rfl) ?_
        refine va_get (D := D) (ci := 8) (v := .ref (a 44)) (C := RX8) (T := TX8) (N := 44) hx hb hts inX8 hown hK hP 0 rfl rfl 43 (by decide) (hts _ tw_1016) (fun _ h9 => h9) rfl dX8_goBack_34 ?_
        refine lv_iload_n hx hb dX8_goBack_37 rfl (lv_at hl 0 rfl) ?_
        refine va_iald hx hb hK hP 2 1 rfl rfl (by unfold vp_in; decide) dX8_goBack_38 ?_
        obtain ⟨ig_3, hig_3, eig_3⟩ := (him 0).1 (by omega)
        refine lv_ti (y := (nI ig_3)) (by exact eig_3) ?_
        refine va_put (D := D) (ci := 8) (v := .int (nI ig_3)) (ty := .int) (C := RX8) (T := TX8) (N := 44) hx hb hts inX8 tyX8 tyX8_ok nmX8 hown hK hP hD hS 0 rfl rfl 30 (by decide) (hts _ tw_1003) (fun _ h9 => h9) rfl (by decide +kernel) rfl rfl (Nat.le_of_ble_eq_true rfl) dX8_goBack_39 (fun H locs hP hD hS => ?_)
        have hQ9 := pd_mk [((a 0), .inr (8, (fX8 a (nI tx) fp (nI t0) wd (nI we) nu na (nI rd) ts (nI ru) (nI ig_3) (nI ca) df db sd))), (aZ k (a 43) 2 fisKept), (aI k (a 44) 70 fimages), (aZ k (a 32) 24 frow), (aI k (a 36) 4 fwalks), (aI k (a 37) 4 (nF br))] hP hD
        clear hP hD
        obtain ⟨hP, hD⟩ := hQ9
        refine lv_aload_n hx hb dX8_goBack_42 rfl (lv_at hl 1 rfl) ?_
        refine lv_aload_n hx hb dX8_goBack_43 rfl (lv_at hl 1 rfl) ?_
        refine va_get (D := D) (ci := 8) (v := .ref (a 44)) (C := RX8) (T := TX8) (N := 44) hx hb hts inX8 hown hK hP 0 rfl rfl 43 (by decide) (hts _ tw_1016) (fun _ h9 => h9) rfl dX8_goBack_44 ?_
        refine lv_iload_n hx hb dX8_goBack_47 rfl (lv_at hl 0 rfl) ?_
        refine lv_iconst (v := 1) hx hb dX8_goBack_48 (by decide) ?_
        refine lv_iadd hx hb dX8_goBack_49 ?_
        refine lv_ti (y := 1) (by decide) ?_
        refine va_iald hx hb hK hP 2 1 rfl rfl (by unfold vp_in; decide) dX8_goBack_50 ?_
        obtain ⟨ig_4, hig_4, eig_4⟩ := (him 1).2.1 (by omega)
        refine lv_ti (y := (nI ig_4)) (by exact eig_4) ?_
        refine va_put (D := D) (ci := 8) (v := .int (nI ig_4)) (ty := .int) (C := RX8) (T := TX8) (N := 44) hx hb hts inX8 tyX8 tyX8_ok nmX8 hown hK hP hD hS 0 rfl rfl 34 (by decide) (hts _ tw_1007) (fun _ h9 => h9) rfl (by decide +kernel) rfl rfl (Nat.le_of_ble_eq_true rfl) dX8_goBack_51 (fun H locs hP hD hS => ?_)
        have hQ9 := pd_mk [((a 0), .inr (8, (fX8 a (nI tx) fp (nI t0) wd (nI we) nu na (nI rd) ts (nI ru) (nI ig_3) (nI ig_4) df db sd))), (aZ k (a 43) 2 fisKept), (aI k (a 44) 70 fimages), (aZ k (a 32) 24 frow), (aI k (a 36) 4 fwalks), (aI k (a 37) 4 (nF br))] hP hD
        clear hP hD
        obtain ⟨hP, hD⟩ := hQ9
        refine lv_aload_n hx hb dX8_goBack_54 rfl (lv_at hl 1 rfl) ?_
        refine lv_aload_n hx hb dX8_goBack_55 rfl (lv_at hl 1 rfl) ?_
        refine va_get (D := D) (ci := 8) (v := .ref (a 44)) (C := RX8) (T := TX8) (N := 44) hx hb hts inX8 hown hK hP 0 rfl rfl 43 (by decide) (hts _ tw_1016) (fun _ h9 => h9) rfl dX8_goBack_56 ?_
        refine lv_iload_n hx hb dX8_goBack_59 rfl (lv_at hl 0 rfl) ?_
        refine lv_iconst (v := 2) hx hb dX8_goBack_60 (by decide) ?_
        refine lv_iadd hx hb dX8_goBack_61 ?_
        refine lv_ti (y := 2) (by decide) ?_
        refine va_iald hx hb hK hP 2 1 rfl rfl (by unfold vp_in; decide) dX8_goBack_62 ?_
        refine lv_ti (y := (fimages 2)) (by rfl) ?_
        refine va_put (D := D) (ci := 8) (v := .int (fimages 2)) (ty := .int) (C := RX8) (T := TX8) (N := 44) hx hb hts inX8 tyX8 tyX8_ok nmX8 hown hK hP hD hS 0 rfl rfl 41 (by decide) (hts _ tw_1014) (fun _ h9 => h9) rfl (by decide +kernel) rfl rfl (Nat.le_of_ble_eq_true rfl) dX8_goBack_63 (fun H locs hP hD hS => ?_)
        have hQ9 := pd_mk [((a 0), .inr (8, (fX8 a (nI tx) fp (nI t0) wd (nI we) nu na (nI rd) ts (nI ru) (nI ig_3) (nI ig_4) df db (fimages 2)))), (aZ k (a 43) 2 fisKept), (aI k (a 44) 70 fimages), (aZ k (a 32) 24 frow), (aI k (a 36) 4 fwalks), (aI k (a 37) 4 (nF br))] hP hD
        clear hP hD
        obtain ⟨hP, hD⟩ := hQ9
        refine lv_iconst (v := 0) hx hb dX8_goBack_66 (by decide) ?_
        refine lv_istore_n (lv' := [(3, .int 0), (2, .int 0), (0, .ref (a 0)), (1, .int 0)]) hx hb dX8_goBack_67 rfl hl (by decide) rfl (fun ls hl => ?_)
        refine W_loop (σ := Nat × (Nat → Int32)) (fun (n_ : Nat) (x_ : Nat × (Nat → Int32)) (H : Heap) (locs : List Loc) (ls : Array Slot) => match x_ with | (kk_5, fr2_5) => n_ = 24 - kk_5 ∧ (kk_5 ≤ 24 ∧ ∀ i, i < kk_5 → fr2_5 i = b11 (fimages (3 + i))) ∧ va_P D classes [((a 0), .inr (8, (fX8 a (nI tx) fp (nI t0) wd (nI we) nu na (nI rd) ts (nI ru) (nI ig_3) (nI ig_4) df db (fimages 2)))), (aZ k (a 43) 2 fisKept), (aI k (a 44) 70 fimages), (aZ k (a 32) 24 fr2_5), (aI k (a 36) 4 fwalks), (aI k (a 37) 4 (nF br))] H ∧ va_D A [((a 0), .inr (8, (fX8 a (nI tx) fp (nI t0) wd (nI we) nu na (nI rd) ts (nI ru) (nI ig_3) (nI ig_4) df db (fimages 2)))), (aZ k (a 43) 2 fisKept), (aI k (a 44) 70 fimages), (aZ k (a 32) 24 fr2_5), (aI k (a 36) 4 fwalks), (aI k (a 37) 4 (nF br))] ∧ va_S A s.heap H locs ∧ lv_has ls 4 [(3, .int (nI kk_5)), (2, .int 0), (0, .ref (a 0)), (1, .int 0)]) (fun n_5 x_5 H locs ls hI ih_5 => ?_) _ (0, frow) ⟨rfl, ⟨by omega, fun i h => absurd h (Nat.not_lt_zero i)⟩, hP, hD, hS, (lv_sub hl [0, 1, 2, 3] rfl)⟩
        obtain ⟨kk_5, fr2_5⟩ := x_5
        obtain ⟨hm_5, hv_5, hP, hD, hS, hl⟩ := hI
        subst hm_5
        refine lv_iload_n hx hb dX8_goBack_68 rfl (lv_at hl 0 rfl) ?_
        refine lv_bipush (v := 24) hx hb dX8_goBack_69 (by decide) ?_
        refine lv_icmp_ge (tgt := 105) hx hb dX8_goBack_71 (by decide) (fun c_6 => ?_) (fun c_6 => ?_)
        · have c_6 := (nI_leI (a := 24) (b := kk_5) (by omega) (by omega)).mp c_6
          refine lv_iconst (v := 0) hx hb dX8_goBack_105 (by decide) ?_
          refine lv_istore_n (lv' := [(3, .int 0), (2, .int 0), (0, .ref (a 0)), (1, .int 0)]) hx hb dX8_goBack_106 rfl hl (by decide) rfl (fun ls hl => ?_)
          refine W_loop (σ := Nat × (Nat → Int32) × (Nat → Nat)) (fun (n_ : Nat) (x_ : Nat × (Nat → Int32) × (Nat → Nat)) (H : Heap) (locs : List Loc) (ls : Array Slot) => match x_ with | (kk_7, fw2_7, b2_7) => n_ = 4 - kk_7 ∧ (kk_7 ≤ 4 ∧ (∀ j, b2_7 j ≤ 24) ∧ (∀ c, c < kk_7 → fw2_7 c = fimages (27 + c))) ∧ va_P D classes [((a 0), .inr (8, (fX8 a (nI tx) fp (nI t0) wd (nI we) nu na (nI rd) ts (nI ru) (nI ig_3) (nI ig_4) df db (fimages 2)))), (aZ k (a 43) 2 fisKept), (aI k (a 44) 70 fimages), (aZ k (a 32) 24 fr2_5), (aI k (a 36) 4 fw2_7), (aI k (a 37) 4 (nF b2_7))] H ∧ va_D A [((a 0), .inr (8, (fX8 a (nI tx) fp (nI t0) wd (nI we) nu na (nI rd) ts (nI ru) (nI ig_3) (nI ig_4) df db (fimages 2)))), (aZ k (a 43) 2 fisKept), (aI k (a 44) 70 fimages), (aZ k (a 32) 24 fr2_5), (aI k (a 36) 4 fw2_7), (aI k (a 37) 4 (nF b2_7))] ∧ va_S A s.heap H locs ∧ lv_has ls 4 [(3, .int (nI kk_7)), (2, .int 0), (0, .ref (a 0)), (1, .int 0)]) (fun n_7 x_7 H locs ls hI ih_7 => ?_) _ (0, fwalks, br) ⟨rfl, ⟨by omega, hbr, fun c h => absurd h (Nat.not_lt_zero c)⟩, hP, hD, hS, (lv_sub hl [0, 1, 2, 3] rfl)⟩
          obtain ⟨kk_7, fw2_7, b2_7⟩ := x_7
          obtain ⟨hm_7, hv_7, hP, hD, hS, hl⟩ := hI
          subst hm_7
          have hbl_7 := hv_7.2.1
          refine lv_iload_n hx hb dX8_goBack_107 rfl (lv_at hl 0 rfl) ?_
          refine lv_iconst (v := 4) hx hb dX8_goBack_108 (by decide) ?_
          refine lv_icmp_ge (tgt := 152) hx hb dX8_goBack_109 (by decide) (fun c_8 => ?_) (fun c_8 => ?_)
          · have c_8 := (nI_leI (a := 4) (b := kk_7) (by omega) (by omega)).mp c_8
            refine lv_iconst (v := 1) hx hb dX8_goBack_152 (by decide) ?_
            obtain ⟨hP9, hD9⟩ := pd_sub [((a 0), .inr (8, (fX8 a (nI tx) fp (nI t0) wd (nI we) nu na (nI rd) ts (nI ru) (nI ig_3) (nI ig_4) df db (fimages 2)))), (aZ k (a 43) 2 fisKept), (aI k (a 44) 70 fimages), (aZ k (a 32) 24 fr2_5), (aI k (a 36) 4 fw2_7), (aI k (a 37) 4 (nF b2_7))] [0, 1, 2, 3, 4, 5] hP hD (by decide) rfl
            exact W.iret (v := 1) hx hb hr (fun t ht hW => ⟨⟨1, (ig_3, ig_4, (fimages 2), fr2_5, fw2_7, b2_7), rfl, ⟨fun b0 b1 a0 a1 hb0 hb1 ha0 ha1 hc0 hc1 hd0 hd1 => ⟨gb_k0 c_2 (nI_inj (by omega) (by omega) (eig_3.symm.trans hb0)), gb_k0 c_2 (nI_inj (by omega) (by omega) (eig_4.symm.trans ha0))⟩, by omega, by omega, hbl_7, gr_k0 c_2 ⟨rfl, fun i hi => hv_5.2 i (by omega), fun c hc => hv_7.2.2 c (by omega)⟩⟩, by rw [ht]; exact hP9, hD9⟩, hS.F ht⟩) hS.2.2 dX8_goBack_153
          · have c_8 : ¬ (4 ≤ kk_7) := fun h => c_8 ((nI_leI (a := 4) (b := kk_7) (by omega) (by omega)).mpr h)
            refine lv_aload_n hx hb dX8_goBack_112 rfl (lv_at hl 2 rfl) ?_
            refine va_get (D := D) (ci := 8) (v := .ref (a 36)) (C := RX8) (T := TX8) (N := 44) hx hb hts inX8 hown hK hP 0 rfl rfl 35 (by decide) (hts _ tw_1008) (fun _ h9 => h9) rfl dX8_goBack_113 ?_
            refine lv_iload_n hx hb dX8_goBack_116 rfl (lv_at hl 0 rfl) ?_
            refine lv_aload_n hx hb dX8_goBack_117 rfl (lv_at hl 2 rfl) ?_
            refine va_get (D := D) (ci := 8) (v := .ref (a 44)) (C := RX8) (T := TX8) (N := 44) hx hb hts inX8 hown hK hP 0 rfl rfl 43 (by decide) (hts _ tw_1016) (fun _ h9 => h9) rfl dX8_goBack_118 ?_
            refine lv_iload_n hx hb dX8_goBack_121 rfl (lv_at hl 1 rfl) ?_
            refine lv_bipush (v := 27) hx hb dX8_goBack_122 (by decide) ?_
            refine lv_iadd hx hb dX8_goBack_124 ?_
            refine lv_ti (y := 27) (by decide) ?_
            refine lv_iload_n hx hb dX8_goBack_125 rfl (lv_at hl 0 rfl) ?_
            refine lv_iadd hx hb dX8_goBack_126 ?_
            refine lv_ti (y := (nI (27 + kk_7))) (nI_add 27 kk_7) ?_
            refine va_iald hx hb hK hP 2 1 rfl rfl (vp_in_nI (by omega) (by decide)) dX8_goBack_127 ?_
            refine lv_ti (y := (fimages (27 + kk_7))) (by rw [nI_clamp (by omega)]) ?_
            refine va_iast hx hb hK hP hD hS 4 1 rfl rfl (vp_in_nI (by omega) (by decide)) dX8_goBack_128 (fun H locs hP hD hS => ?_)
            have hQ9 := pd_mk [((a 0), .inr (8, (fX8 a (nI tx) fp (nI t0) wd (nI we) nu na (nI rd) ts (nI ru) (nI ig_3) (nI ig_4) df db (fimages 2)))), (aZ k (a 43) 2 fisKept), (aI k (a 44) 70 fimages), (aZ k (a 32) 24 fr2_5), (aI k (a 36) 4 (upd fw2_7 (Int32.toNatClampNeg (nI kk_7)) (fimages (27 + kk_7)))), (aI k (a 37) 4 (nF b2_7))] hP hD
            clear hP hD
            obtain ⟨hP, hD⟩ := hQ9
            rw [nI_clamp (n := kk_7) (by omega)] at hP hD
            have hQ9 := pd_mk [((a 0), .inr (8, (fX8 a (nI tx) fp (nI t0) wd (nI we) nu na (nI rd) ts (nI ru) (nI ig_3) (nI ig_4) df db (fimages 2)))), (aZ k (a 43) 2 fisKept), (aI k (a 44) 70 fimages), (aZ k (a 32) 24 fr2_5), (aI k (a 36) 4 (upd fw2_7 kk_7 (fimages (27 + kk_7)))), (aI k (a 37) 4 (nF b2_7))] hP hD
            clear hP hD
            obtain ⟨hP, hD⟩ := hQ9
            refine lv_aload_n hx hb dX8_goBack_129 rfl (lv_at hl 2 rfl) ?_
            refine va_get (D := D) (ci := 8) (v := .ref (a 37)) (C := RX8) (T := TX8) (N := 44) hx hb hts inX8 hown hK hP 0 rfl rfl 36 (by decide) (hts _ tw_1009) (fun _ h9 => h9) rfl dX8_goBack_130 ?_
            refine lv_iload_n hx hb dX8_goBack_133 rfl (lv_at hl 0 rfl) ?_
            refine lv_aload_n hx hb dX8_goBack_134 rfl (lv_at hl 2 rfl) ?_
            refine va_get (D := D) (ci := 8) (v := .ref (a 44)) (C := RX8) (T := TX8) (N := 44) hx hb hts inX8 hown hK hP 0 rfl rfl 43 (by decide) (hts _ tw_1016) (fun _ h9 => h9) rfl dX8_goBack_135 ?_
            refine lv_iload_n hx hb dX8_goBack_138 rfl (lv_at hl 1 rfl) ?_
            refine lv_bipush (v := 31) hx hb dX8_goBack_139 (by decide) ?_
            refine lv_iadd hx hb dX8_goBack_141 ?_
            refine lv_ti (y := 31) (by decide) ?_
            refine lv_iload_n hx hb dX8_goBack_142 rfl (lv_at hl 0 rfl) ?_
            refine lv_iadd hx hb dX8_goBack_143 ?_
            refine lv_ti (y := (nI (31 + kk_7))) (nI_add 31 kk_7) ?_
            refine va_iald hx hb hK hP 2 1 rfl rfl (vp_in_nI (by omega) (by decide)) dX8_goBack_144 ?_
            obtain ⟨ig_10, hig_10, eig_10⟩ := (him (31 + kk_7)).2.2 (by omega)
            refine lv_ti (y := (nI ig_10)) (by rw [nI_clamp (by omega)]; exact eig_10) ?_
            refine va_iast hx hb hK hP hD hS 5 1 rfl rfl (vp_in_nI (by omega) (by decide)) dX8_goBack_145 (fun H locs hP hD hS => ?_)
            have hQ9 := pd_mk [((a 0), .inr (8, (fX8 a (nI tx) fp (nI t0) wd (nI we) nu na (nI rd) ts (nI ru) (nI ig_3) (nI ig_4) df db (fimages 2)))), (aZ k (a 43) 2 fisKept), (aI k (a 44) 70 fimages), (aZ k (a 32) 24 fr2_5), (aI k (a 36) 4 (upd fw2_7 kk_7 (fimages (27 + kk_7)))), (aI k (a 37) 4 (upd (nF b2_7) (Int32.toNatClampNeg (nI kk_7)) (nI ig_10)))] hP hD
            clear hP hD
            obtain ⟨hP, hD⟩ := hQ9
            rw [nI_clamp (n := kk_7) (by omega)] at hP hD
            rw [show upd (nF b2_7) kk_7 (nI ig_10) = nF (fun j => if j = kk_7 then ig_10 else b2_7 j) from nF_upd _ _ _] at hP hD
            obtain ⟨d_12, hd_12⟩ : ∃ z : Nat → Nat, z = (fun j => if j = kk_7 then ig_10 else b2_7 j) := ⟨_, rfl⟩
            rw [← hd_12] at hP hD
            have hbb_12 : ∀ j, d_12 j ≤ 24 := by rw [hd_12]; exact up_le hbl_7 (by omega)
            refine lv_iinc (v := (nI (kk_7 + 1))) (lv' := [(3, .int (nI (kk_7 + 1))), (2, .int 0), (0, .ref (a 0)), (1, .int 0)]) hx hb dX8_goBack_146 hl (k := 0) rfl (nI_add kk_7 1) (by decide) rfl (fun ls hl => ?_)
            refine lv_goto (tgt := 107) hx hb dX8_goBack_149 (by decide) ?_
            exact ih_7 _ (kk_7 + 1, (upd fw2_7 kk_7 (fimages (27 + kk_7))), d_12) _ _ _ (by omega) ⟨rfl, ⟨by omega, hbb_12, la_upd (F := fun c => fimages (27 + c)) hv_7.2.2 rfl⟩, hP, hD, hS, (lv_sub hl [0, 1, 2, 3] rfl)⟩
        · have c_6 : ¬ (24 ≤ kk_5) := fun h => c_6 ((nI_leI (a := 24) (b := kk_5) (by omega) (by omega)).mpr h)
          refine lv_aload_n hx hb dX8_goBack_74 rfl (lv_at hl 2 rfl) ?_
          refine va_get (D := D) (ci := 8) (v := .ref (a 32)) (C := RX8) (T := TX8) (N := 44) hx hb hts inX8 hown hK hP 0 rfl rfl 31 (by decide) (hts _ tw_1004) (fun _ h9 => h9) rfl dX8_goBack_75 ?_
          refine lv_iload_n hx hb dX8_goBack_78 rfl (lv_at hl 0 rfl) ?_
          refine lv_aload_n hx hb dX8_goBack_79 rfl (lv_at hl 2 rfl) ?_
          refine va_get (D := D) (ci := 8) (v := .ref (a 44)) (C := RX8) (T := TX8) (N := 44) hx hb hts inX8 hown hK hP 0 rfl rfl 43 (by decide) (hts _ tw_1016) (fun _ h9 => h9) rfl dX8_goBack_80 ?_
          refine lv_iload_n hx hb dX8_goBack_83 rfl (lv_at hl 1 rfl) ?_
          refine lv_iconst (v := 3) hx hb dX8_goBack_84 (by decide) ?_
          refine lv_iadd hx hb dX8_goBack_85 ?_
          refine lv_ti (y := 3) (by decide) ?_
          refine lv_iload_n hx hb dX8_goBack_86 rfl (lv_at hl 0 rfl) ?_
          refine lv_iadd hx hb dX8_goBack_87 ?_
          refine lv_ti (y := (nI (3 + kk_5))) (nI_add 3 kk_5) ?_
          refine va_iald hx hb hK hP 2 1 rfl rfl (vp_in_nI (by omega) (by decide)) dX8_goBack_88 ?_
          refine lv_ti (y := (fimages (3 + kk_5))) (by rw [nI_clamp (by omega)]) ?_
          refine lv_iconst (v := 1) hx hb dX8_goBack_89 (by decide) ?_
          refine lv_icmp_ne (tgt := 97) hx hb dX8_goBack_90 (by decide) (fun c_13 => ?_) (fun c_13 => ?_)
          · refine lv_iconst (v := 0) hx hb dX8_goBack_97 (by decide) ?_
            refine va_zast hx hb hK hP hD hS 3 2 rfl rfl (vp_in_nI (by omega) (by decide)) dX8_goBack_98 (fun H locs hP hD hS => ?_)
            have hQ9 := pd_mk [((a 0), .inr (8, (fX8 a (nI tx) fp (nI t0) wd (nI we) nu na (nI rd) ts (nI ru) (nI ig_3) (nI ig_4) df db (fimages 2)))), (aZ k (a 43) 2 fisKept), (aI k (a 44) 70 fimages), (aZ k (a 32) 24 (upd fr2_5 (Int32.toNatClampNeg (nI kk_5)) (vp_nar .boolean 0))), (aI k (a 36) 4 fwalks), (aI k (a 37) 4 (nF br))] hP hD
            clear hP hD
            obtain ⟨hP, hD⟩ := hQ9
            rw [nI_clamp (n := kk_5) (by omega)] at hP hD
            have hQ9 := pd_mk [((a 0), .inr (8, (fX8 a (nI tx) fp (nI t0) wd (nI we) nu na (nI rd) ts (nI ru) (nI ig_3) (nI ig_4) df db (fimages 2)))), (aZ k (a 43) 2 fisKept), (aI k (a 44) 70 fimages), (aZ k (a 32) 24 (upd fr2_5 kk_5 (vp_nar .boolean 0))), (aI k (a 36) 4 fwalks), (aI k (a 37) 4 (nF br))] hP hD
            clear hP hD
            obtain ⟨hP, hD⟩ := hQ9
            refine lv_iinc (v := (nI (kk_5 + 1))) (lv' := [(3, .int (nI (kk_5 + 1))), (2, .int 0), (0, .ref (a 0)), (1, .int 0)]) hx hb dX8_goBack_99 hl (k := 0) rfl (nI_add kk_5 1) (by decide) rfl (fun ls hl => ?_)
            refine lv_goto (tgt := 68) hx hb dX8_goBack_102 (by decide) ?_
            exact ih_5 _ (kk_5 + 1, (upd fr2_5 kk_5 (vp_nar .boolean 0))) _ _ _ (by omega) ⟨rfl, ⟨by omega, la_upd (F := fun i => b11 (fimages (3 + i))) hv_5.2 (by rw [show vp_nar .boolean 0 = 0 from rfl]; exact (if_neg c_13).symm)⟩, hP, hD, hS, (lv_sub hl [0, 1, 2, 3] rfl)⟩
          · refine lv_iconst (v := 1) hx hb dX8_goBack_93 (by decide) ?_
            refine lv_goto (tgt := 98) hx hb dX8_goBack_94 (by decide) ?_
            refine va_zast hx hb hK hP hD hS 3 2 rfl rfl (vp_in_nI (by omega) (by decide)) dX8_goBack_98 (fun H locs hP hD hS => ?_)
            have hQ9 := pd_mk [((a 0), .inr (8, (fX8 a (nI tx) fp (nI t0) wd (nI we) nu na (nI rd) ts (nI ru) (nI ig_3) (nI ig_4) df db (fimages 2)))), (aZ k (a 43) 2 fisKept), (aI k (a 44) 70 fimages), (aZ k (a 32) 24 (upd fr2_5 (Int32.toNatClampNeg (nI kk_5)) (vp_nar .boolean 1))), (aI k (a 36) 4 fwalks), (aI k (a 37) 4 (nF br))] hP hD
            clear hP hD
            obtain ⟨hP, hD⟩ := hQ9
            rw [nI_clamp (n := kk_5) (by omega)] at hP hD
            have hQ9 := pd_mk [((a 0), .inr (8, (fX8 a (nI tx) fp (nI t0) wd (nI we) nu na (nI rd) ts (nI ru) (nI ig_3) (nI ig_4) df db (fimages 2)))), (aZ k (a 43) 2 fisKept), (aI k (a 44) 70 fimages), (aZ k (a 32) 24 (upd fr2_5 kk_5 (vp_nar .boolean 1))), (aI k (a 36) 4 fwalks), (aI k (a 37) 4 (nF br))] hP hD
            clear hP hD
            obtain ⟨hP, hD⟩ := hQ9
            refine lv_iinc (v := (nI (kk_5 + 1))) (lv' := [(3, .int (nI (kk_5 + 1))), (2, .int 0), (0, .ref (a 0)), (1, .int 0)]) hx hb dX8_goBack_99 hl (k := 0) rfl (nI_add kk_5 1) (by decide) rfl (fun ls hl => ?_)
            refine lv_goto (tgt := 68) hx hb dX8_goBack_102 (by decide) ?_
            exact ih_5 _ (kk_5 + 1, (upd fr2_5 kk_5 (vp_nar .boolean 1))) _ _ _ (by omega) ⟨rfl, ⟨by omega, la_upd (F := fun i => b11 (fimages (3 + i))) hv_5.2 (by rw [show vp_nar .boolean 1 = 1 from rfl]; exact (if_pos c_13).symm)⟩, hP, hD, hS, (lv_sub hl [0, 1, 2, 3] rfl)⟩
      · refine lv_sipush (v := (-1003)) hx hb dX8_goBack_23 (by decide) ?_
        obtain ⟨hP9, hD9⟩ := pd_sub [((a 0), .inr (8, (fX8 a (nI tx) fp (nI t0) wd (nI we) nu na (nI rd) ts (nI ru) (nI rw) (nI ca) df db sd))), (aZ k (a 43) 2 fisKept), (aI k (a 44) 70 fimages), (aZ k (a 32) 24 frow), (aI k (a 36) 4 fwalks), (aI k (a 37) 4 (nF br))] [0, 1, 2, 3, 4, 5] hP hD (by decide) rfl
        exact W.iret (v := (-1003)) hx hb hr (fun t ht hW => ⟨⟨(-1003), (rw, ca, sd, frow, fwalks, br), rfl, ⟨fun b0 b1 a0 a1 hb0 hb1 ha0 ha1 hc0 hc1 hd0 hd1 => ⟨gb_n0 c_2, gb_n0 c_2⟩, by omega, by omega, hbr, gr_n0 c_2⟩, by rw [ht]; exact hP9, hD9⟩, hS.F ht⟩) hS.2.2 dX8_goBack_26
    · refine lv_aload_n hx hb dX8_goBack_14 rfl (lv_at hl 0 rfl) ?_
      refine va_get (D := D) (ci := 8) (v := .ref (a 43)) (C := RX8) (T := TX8) (N := 44) hx hb hts inX8 hown hK hP 0 rfl rfl 42 (by decide) (hts _ tw_1015) (fun _ h9 => h9) rfl dX8_goBack_15 ?_
      refine lv_iload_n hx hb dX8_goBack_18 rfl (lv_at hl 1 rfl) ?_
      refine va_zald hx hb hK hP 1 2 rfl rfl (by unfold vp_in; decide) dX8_goBack_19 ?_
      refine lv_ti (y := (fisKept 1)) (by rfl) ?_
      refine lv_if_ne (tgt := 27) hx hb dX8_goBack_20 (by decide) (fun c_16 => ?_) (fun c_16 => ?_)
      · refine lv_bipush (v := 35) hx hb dX8_goBack_27 (by decide) ?_
        refine lv_iload_n hx hb dX8_goBack_29 rfl (lv_at hl 1 rfl) ?_
        refine lv_imul hx hb dX8_goBack_30 ?_
        refine lv_ti (y := 35) (by decide) ?_
        refine lv_istore_n (lv' := [(2, .int 35), (0, .ref (a 0)), (1, .int 1)]) hx hb dX8_goBack_31 rfl hl (by decide) rfl (fun ls hl => ?_)
        refine lv_aload_n hx hb dX8_goBack_32 rfl (lv_at hl 1 rfl) ?_
        refine lv_aload_n hx hb dX8_goBack_33 rfl (lv_at hl 1 rfl) ?_
        refine va_get (D := D) (ci := 8) (v := .ref (a 44)) (C := RX8) (T := TX8) (N := 44) hx hb hts inX8 hown hK hP 0 rfl rfl 43 (by decide) (hts _ tw_1016) (fun _ h9 => h9) rfl dX8_goBack_34 ?_
        refine lv_iload_n hx hb dX8_goBack_37 rfl (lv_at hl 0 rfl) ?_
        refine va_iald hx hb hK hP 2 1 rfl rfl (by unfold vp_in; decide) dX8_goBack_38 ?_
        obtain ⟨ig_17, hig_17, eig_17⟩ := (him 35).1 (by omega)
        refine lv_ti (y := (nI ig_17)) (by exact eig_17) ?_
        refine va_put (D := D) (ci := 8) (v := .int (nI ig_17)) (ty := .int) (C := RX8) (T := TX8) (N := 44) hx hb hts inX8 tyX8 tyX8_ok nmX8 hown hK hP hD hS 0 rfl rfl 30 (by decide) (hts _ tw_1003) (fun _ h9 => h9) rfl (by decide +kernel) rfl rfl (Nat.le_of_ble_eq_true rfl) dX8_goBack_39 (fun H locs hP hD hS => ?_)
        have hQ9 := pd_mk [((a 0), .inr (8, (fX8 a (nI tx) fp (nI t0) wd (nI we) nu na (nI rd) ts (nI ru) (nI ig_17) (nI ca) df db sd))), (aZ k (a 43) 2 fisKept), (aI k (a 44) 70 fimages), (aZ k (a 32) 24 frow), (aI k (a 36) 4 fwalks), (aI k (a 37) 4 (nF br))] hP hD
        clear hP hD
        obtain ⟨hP, hD⟩ := hQ9
        refine lv_aload_n hx hb dX8_goBack_42 rfl (lv_at hl 1 rfl) ?_
        refine lv_aload_n hx hb dX8_goBack_43 rfl (lv_at hl 1 rfl) ?_
        refine va_get (D := D) (ci := 8) (v := .ref (a 44)) (C := RX8) (T := TX8) (N := 44) hx hb hts inX8 hown hK hP 0 rfl rfl 43 (by decide) (hts _ tw_1016) (fun _ h9 => h9) rfl dX8_goBack_44 ?_
        refine lv_iload_n hx hb dX8_goBack_47 rfl (lv_at hl 0 rfl) ?_
        refine lv_iconst (v := 1) hx hb dX8_goBack_48 (by decide) ?_
        refine lv_iadd hx hb dX8_goBack_49 ?_
        refine lv_ti (y := 36) (by decide) ?_
        refine va_iald hx hb hK hP 2 1 rfl rfl (by unfold vp_in; decide) dX8_goBack_50 ?_
        obtain ⟨ig_18, hig_18, eig_18⟩ := (him 36).2.1 (by omega)
        refine lv_ti (y := (nI ig_18)) (by exact eig_18) ?_
        refine va_put (D := D) (ci := 8) (v := .int (nI ig_18)) (ty := .int) (C := RX8) (T := TX8) (N := 44) hx hb hts inX8 tyX8 tyX8_ok nmX8 hown hK hP hD hS 0 rfl rfl 34 (by decide) (hts _ tw_1007) (fun _ h9 => h9) rfl (by decide +kernel) rfl rfl (Nat.le_of_ble_eq_true rfl) dX8_goBack_51 (fun H locs hP hD hS => ?_)
        have hQ9 := pd_mk [((a 0), .inr (8, (fX8 a (nI tx) fp (nI t0) wd (nI we) nu na (nI rd) ts (nI ru) (nI ig_17) (nI ig_18) df db sd))), (aZ k (a 43) 2 fisKept), (aI k (a 44) 70 fimages), (aZ k (a 32) 24 frow), (aI k (a 36) 4 fwalks), (aI k (a 37) 4 (nF br))] hP hD
        clear hP hD
        obtain ⟨hP, hD⟩ := hQ9
        refine lv_aload_n hx hb dX8_goBack_54 rfl (lv_at hl 1 rfl) ?_
        refine lv_aload_n hx hb dX8_goBack_55 rfl (lv_at hl 1 rfl) ?_
        refine va_get (D := D) (ci := 8) (v := .ref (a 44)) (C := RX8) (T := TX8) (N := 44) hx hb hts inX8 hown hK hP 0 rfl rfl 43 (by decide) (hts _ tw_1016) (fun _ h9 => h9) rfl dX8_goBack_56 ?_
        refine lv_iload_n hx hb dX8_goBack_59 rfl (lv_at hl 0 rfl) ?_
        refine lv_iconst (v := 2) hx hb dX8_goBack_60 (by decide) ?_
        refine lv_iadd hx hb dX8_goBack_61 ?_
        refine lv_ti (y := 37) (by decide) ?_
        refine va_iald hx hb hK hP 2 1 rfl rfl (by unfold vp_in; decide) dX8_goBack_62 ?_
        refine lv_ti (y := (fimages 37)) (by rfl) ?_
        refine va_put (D := D) (ci := 8) (v := .int (fimages 37)) (ty := .int) (C := RX8) (T := TX8) (N := 44) hx hb hts inX8 tyX8 tyX8_ok nmX8 hown hK hP hD hS 0 rfl rfl 41 (by decide) (hts _ tw_1014) (fun _ h9 => h9) rfl (by decide +kernel) rfl rfl (Nat.le_of_ble_eq_true rfl) dX8_goBack_63 (fun H locs hP hD hS => ?_)
        have hQ9 := pd_mk [((a 0), .inr (8, (fX8 a (nI tx) fp (nI t0) wd (nI we) nu na (nI rd) ts (nI ru) (nI ig_17) (nI ig_18) df db (fimages 37)))), (aZ k (a 43) 2 fisKept), (aI k (a 44) 70 fimages), (aZ k (a 32) 24 frow), (aI k (a 36) 4 fwalks), (aI k (a 37) 4 (nF br))] hP hD
        clear hP hD
        obtain ⟨hP, hD⟩ := hQ9
        refine lv_iconst (v := 0) hx hb dX8_goBack_66 (by decide) ?_
        refine lv_istore_n (lv' := [(3, .int 0), (2, .int 35), (0, .ref (a 0)), (1, .int 1)]) hx hb dX8_goBack_67 rfl hl (by decide) rfl (fun ls hl => ?_)
        refine W_loop (σ := Nat × (Nat → Int32)) (fun (n_ : Nat) (x_ : Nat × (Nat → Int32)) (H : Heap) (locs : List Loc) (ls : Array Slot) => match x_ with | (kk_19, fr2_19) => n_ = 24 - kk_19 ∧ (kk_19 ≤ 24 ∧ ∀ i, i < kk_19 → fr2_19 i = b11 (fimages (38 + i))) ∧ va_P D classes [((a 0), .inr (8, (fX8 a (nI tx) fp (nI t0) wd (nI we) nu na (nI rd) ts (nI ru) (nI ig_17) (nI ig_18) df db (fimages 37)))), (aZ k (a 43) 2 fisKept), (aI k (a 44) 70 fimages), (aZ k (a 32) 24 fr2_19), (aI k (a 36) 4 fwalks), (aI k (a 37) 4 (nF br))] H ∧ va_D A [((a 0), .inr (8, (fX8 a (nI tx) fp (nI t0) wd (nI we) nu na (nI rd) ts (nI ru) (nI ig_17) (nI ig_18) df db (fimages 37)))), (aZ k (a 43) 2 fisKept), (aI k (a 44) 70 fimages), (aZ k (a 32) 24 fr2_19), (aI k (a 36) 4 fwalks), (aI k (a 37) 4 (nF br))] ∧ va_S A s.heap H locs ∧ lv_has ls 4 [(3, .int (nI kk_19)), (2, .int 35), (0, .ref (a 0)), (1, .int 1)]) (fun n_19 x_19 H locs ls hI ih_19 => ?_) _ (0, frow) ⟨rfl, ⟨by omega, fun i h => absurd h (Nat.not_lt_zero i)⟩, hP, hD, hS, (lv_sub hl [0, 1, 2, 3] rfl)⟩
        obtain ⟨kk_19, fr2_19⟩ := x_19
        obtain ⟨hm_19, hv_19, hP, hD, hS, hl⟩ := hI
        subst hm_19
        refine lv_iload_n hx hb dX8_goBack_68 rfl (lv_at hl 0 rfl) ?_
        refine lv_bipush (v := 24) hx hb dX8_goBack_69 (by decide) ?_
        refine lv_icmp_ge (tgt := 105) hx hb dX8_goBack_71 (by decide) (fun c_20 => ?_) (fun c_20 => ?_)
        · have c_20 := (nI_leI (a := 24) (b := kk_19) (by omega) (by omega)).mp c_20
          refine lv_iconst (v := 0) hx hb dX8_goBack_105 (by decide) ?_
          refine lv_istore_n (lv' := [(3, .int 0), (2, .int 35), (0, .ref (a 0)), (1, .int 1)]) hx hb dX8_goBack_106 rfl hl (by decide) rfl (fun ls hl => ?_)
          refine W_loop (σ := Nat × (Nat → Int32) × (Nat → Nat)) (fun (n_ : Nat) (x_ : Nat × (Nat → Int32) × (Nat → Nat)) (H : Heap) (locs : List Loc) (ls : Array Slot) => match x_ with | (kk_21, fw2_21, b2_21) => n_ = 4 - kk_21 ∧ (kk_21 ≤ 4 ∧ (∀ j, b2_21 j ≤ 24) ∧ (∀ c, c < kk_21 → fw2_21 c = fimages (62 + c))) ∧ va_P D classes [((a 0), .inr (8, (fX8 a (nI tx) fp (nI t0) wd (nI we) nu na (nI rd) ts (nI ru) (nI ig_17) (nI ig_18) df db (fimages 37)))), (aZ k (a 43) 2 fisKept), (aI k (a 44) 70 fimages), (aZ k (a 32) 24 fr2_19), (aI k (a 36) 4 fw2_21), (aI k (a 37) 4 (nF b2_21))] H ∧ va_D A [((a 0), .inr (8, (fX8 a (nI tx) fp (nI t0) wd (nI we) nu na (nI rd) ts (nI ru) (nI ig_17) (nI ig_18) df db (fimages 37)))), (aZ k (a 43) 2 fisKept), (aI k (a 44) 70 fimages), (aZ k (a 32) 24 fr2_19), (aI k (a 36) 4 fw2_21), (aI k (a 37) 4 (nF b2_21))] ∧ va_S A s.heap H locs ∧ lv_has ls 4 [(3, .int (nI kk_21)), (2, .int 35), (0, .ref (a 0)), (1, .int 1)]) (fun n_21 x_21 H locs ls hI ih_21 => ?_) _ (0, fwalks, br) ⟨rfl, ⟨by omega, hbr, fun c h => absurd h (Nat.not_lt_zero c)⟩, hP, hD, hS, (lv_sub hl [0, 1, 2, 3] rfl)⟩
          obtain ⟨kk_21, fw2_21, b2_21⟩ := x_21
          obtain ⟨hm_21, hv_21, hP, hD, hS, hl⟩ := hI
          subst hm_21
          have hbl_21 := hv_21.2.1
          refine lv_iload_n hx hb dX8_goBack_107 rfl (lv_at hl 0 rfl) ?_
          refine lv_iconst (v := 4) hx hb dX8_goBack_108 (by decide) ?_
          refine lv_icmp_ge (tgt := 152) hx hb dX8_goBack_109 (by decide) (fun c_22 => ?_) (fun c_22 => ?_)
          · have c_22 := (nI_leI (a := 4) (b := kk_21) (by omega) (by omega)).mp c_22
            refine lv_iconst (v := 1) hx hb dX8_goBack_152 (by decide) ?_
            obtain ⟨hP9, hD9⟩ := pd_sub [((a 0), .inr (8, (fX8 a (nI tx) fp (nI t0) wd (nI we) nu na (nI rd) ts (nI ru) (nI ig_17) (nI ig_18) df db (fimages 37)))), (aZ k (a 43) 2 fisKept), (aI k (a 44) 70 fimages), (aZ k (a 32) 24 fr2_19), (aI k (a 36) 4 fw2_21), (aI k (a 37) 4 (nF b2_21))] [0, 1, 2, 3, 4, 5] hP hD (by decide) rfl
            exact W.iret (v := 1) hx hb hr (fun t ht hW => ⟨⟨1, (ig_17, ig_18, (fimages 37), fr2_19, fw2_21, b2_21), rfl, ⟨fun b0 b1 a0 a1 hb0 hb1 ha0 ha1 hc0 hc1 hd0 hd1 => ⟨gb_k1 c_16 (nI_inj (by omega) (by omega) (eig_17.symm.trans hb1)), gb_k1 c_16 (nI_inj (by omega) (by omega) (eig_18.symm.trans ha1))⟩, by omega, by omega, hbl_21, gr_k1 c_16 ⟨rfl, fun i hi => hv_19.2 i (by omega), fun c hc => hv_21.2.2 c (by omega)⟩⟩, by rw [ht]; exact hP9, hD9⟩, hS.F ht⟩) hS.2.2 dX8_goBack_153
          · have c_22 : ¬ (4 ≤ kk_21) := fun h => c_22 ((nI_leI (a := 4) (b := kk_21) (by omega) (by omega)).mpr h)
            refine lv_aload_n hx hb dX8_goBack_112 rfl (lv_at hl 2 rfl) ?_
            refine va_get (D := D) (ci := 8) (v := .ref (a 36)) (C := RX8) (T := TX8) (N := 44) hx hb hts inX8 hown hK hP 0 rfl rfl 35 (by decide) (hts _ tw_1008) (fun _ h9 => h9) rfl dX8_goBack_113 ?_
            refine lv_iload_n hx hb dX8_goBack_116 rfl (lv_at hl 0 rfl) ?_
            refine lv_aload_n hx hb dX8_goBack_117 rfl (lv_at hl 2 rfl) ?_
            refine va_get (D := D) (ci := 8) (v := .ref (a 44)) (C := RX8) (T := TX8) (N := 44) hx hb hts inX8 hown hK hP 0 rfl rfl 43 (by decide) (hts _ tw_1016) (fun _ h9 => h9) rfl dX8_goBack_118 ?_
            refine lv_iload_n hx hb dX8_goBack_121 rfl (lv_at hl 1 rfl) ?_
            refine lv_bipush (v := 27) hx hb dX8_goBack_122 (by decide) ?_
            refine lv_iadd hx hb dX8_goBack_124 ?_
            refine lv_ti (y := 62) (by decide) ?_
            refine lv_iload_n hx hb dX8_goBack_125 rfl (lv_at hl 0 rfl) ?_
            refine lv_iadd hx hb dX8_goBack_126 ?_
            refine lv_ti (y := (nI (62 + kk_21))) (nI_add 62 kk_21) ?_
            refine va_iald hx hb hK hP 2 1 rfl rfl (vp_in_nI (by omega) (by decide)) dX8_goBack_127 ?_
            refine lv_ti (y := (fimages (62 + kk_21))) (by rw [nI_clamp (by omega)]) ?_
            refine va_iast hx hb hK hP hD hS 4 1 rfl rfl (vp_in_nI (by omega) (by decide)) dX8_goBack_128 (fun H locs hP hD hS => ?_)
            have hQ9 := pd_mk [((a 0), .inr (8, (fX8 a (nI tx) fp (nI t0) wd (nI we) nu na (nI rd) ts (nI ru) (nI ig_17) (nI ig_18) df db (fimages 37)))), (aZ k (a 43) 2 fisKept), (aI k (a 44) 70 fimages), (aZ k (a 32) 24 fr2_19), (aI k (a 36) 4 (upd fw2_21 (Int32.toNatClampNeg (nI kk_21)) (fimages (62 + kk_21)))), (aI k (a 37) 4 (nF b2_21))] hP hD
            clear hP hD
            obtain ⟨hP, hD⟩ := hQ9
            rw [nI_clamp (n := kk_21) (by omega)] at hP hD
            have hQ9 := pd_mk [((a 0), .inr (8, (fX8 a (nI tx) fp (nI t0) wd (nI we) nu na (nI rd) ts (nI ru) (nI ig_17) (nI ig_18) df db (fimages 37)))), (aZ k (a 43) 2 fisKept), (aI k (a 44) 70 fimages), (aZ k (a 32) 24 fr2_19), (aI k (a 36) 4 (upd fw2_21 kk_21 (fimages (62 + kk_21)))), (aI k (a 37) 4 (nF b2_21))] hP hD
            clear hP hD
            obtain ⟨hP, hD⟩ := hQ9
            refine lv_aload_n hx hb dX8_goBack_129 rfl (lv_at hl 2 rfl) ?_
            refine va_get (D := D) (ci := 8) (v := .ref (a 37)) (C := RX8) (T := TX8) (N := 44) hx hb hts inX8 hown hK hP 0 rfl rfl 36 (by decide) (hts _ tw_1009) (fun _ h9 => h9) rfl dX8_goBack_130 ?_
            refine lv_iload_n hx hb dX8_goBack_133 rfl (lv_at hl 0 rfl) ?_
            refine lv_aload_n hx hb dX8_goBack_134 rfl (lv_at hl 2 rfl) ?_
            refine va_get (D := D) (ci := 8) (v := .ref (a 44)) (C := RX8) (T := TX8) (N := 44) hx hb hts inX8 hown hK hP 0 rfl rfl 43 (by decide) (hts _ tw_1016) (fun _ h9 => h9) rfl dX8_goBack_135 ?_
            refine lv_iload_n hx hb dX8_goBack_138 rfl (lv_at hl 1 rfl) ?_
            refine lv_bipush (v := 31) hx hb dX8_goBack_139 (by decide) ?_
            refine lv_iadd hx hb dX8_goBack_141 ?_
            refine lv_ti (y := 66) (by decide) ?_
            refine lv_iload_n hx hb dX8_goBack_142 rfl (lv_at hl 0 rfl) ?_
            refine lv_iadd hx hb dX8_goBack_143 ?_
            refine lv_ti (y := (nI (66 + kk_21))) (nI_add 66 kk_21) ?_
            refine va_iald hx hb hK hP 2 1 rfl rfl (vp_in_nI (by omega) (by decide)) dX8_goBack_144 ?_
            obtain ⟨ig_24, hig_24, eig_24⟩ := (him (66 + kk_21)).2.2 (by omega)
            refine lv_ti (y := (nI ig_24)) (by rw [nI_clamp (by omega)]; exact eig_24) ?_
            refine va_iast hx hb hK hP hD hS 5 1 rfl rfl (vp_in_nI (by omega) (by decide)) dX8_goBack_145 (fun H locs hP hD hS => ?_)
            have hQ9 := pd_mk [((a 0), .inr (8, (fX8 a (nI tx) fp (nI t0) wd (nI we) nu na (nI rd) ts (nI ru) (nI ig_17) (nI ig_18) df db (fimages 37)))), (aZ k (a 43) 2 fisKept), (aI k (a 44) 70 fimages), (aZ k (a 32) 24 fr2_19), (aI k (a 36) 4 (upd fw2_21 kk_21 (fimages (62 + kk_21)))), (aI k (a 37) 4 (upd (nF b2_21) (Int32.toNatClampNeg (nI kk_21)) (nI ig_24)))] hP hD
            clear hP hD
            obtain ⟨hP, hD⟩ := hQ9
            rw [nI_clamp (n := kk_21) (by omega)] at hP hD
            rw [show upd (nF b2_21) kk_21 (nI ig_24) = nF (fun j => if j = kk_21 then ig_24 else b2_21 j) from nF_upd _ _ _] at hP hD
            obtain ⟨d_26, hd_26⟩ : ∃ z : Nat → Nat, z = (fun j => if j = kk_21 then ig_24 else b2_21 j) := ⟨_, rfl⟩
            rw [← hd_26] at hP hD
            have hbb_26 : ∀ j, d_26 j ≤ 24 := by rw [hd_26]; exact up_le hbl_21 (by omega)
            refine lv_iinc (v := (nI (kk_21 + 1))) (lv' := [(3, .int (nI (kk_21 + 1))), (2, .int 35), (0, .ref (a 0)), (1, .int 1)]) hx hb dX8_goBack_146 hl (k := 0) rfl (nI_add kk_21 1) (by decide) rfl (fun ls hl => ?_)
            refine lv_goto (tgt := 107) hx hb dX8_goBack_149 (by decide) ?_
            exact ih_21 _ (kk_21 + 1, (upd fw2_21 kk_21 (fimages (62 + kk_21))), d_26) _ _ _ (by omega) ⟨rfl, ⟨by omega, hbb_26, la_upd (F := fun c => fimages (62 + c)) hv_21.2.2 rfl⟩, hP, hD, hS, (lv_sub hl [0, 1, 2, 3] rfl)⟩
        · have c_20 : ¬ (24 ≤ kk_19) := fun h => c_20 ((nI_leI (a := 24) (b := kk_19) (by omega) (by omega)).mpr h)
          refine lv_aload_n hx hb dX8_goBack_74 rfl (lv_at hl 2 rfl) ?_
          refine va_get (D := D) (ci := 8) (v := .ref (a 32)) (C := RX8) (T := TX8) (N := 44) hx hb hts inX8 hown hK hP 0 rfl rfl 31 (by decide) (hts _ tw_1004) (fun _ h9 => h9) rfl dX8_goBack_75 ?_
          refine lv_iload_n hx hb dX8_goBack_78 rfl (lv_at hl 0 rfl) ?_
          refine lv_aload_n hx hb dX8_goBack_79 rfl (lv_at hl 2 rfl) ?_
          refine va_get (D := D) (ci := 8) (v := .ref (a 44)) (C := RX8) (T := TX8) (N := 44) hx hb hts inX8 hown hK hP 0 rfl rfl 43 (by decide) (hts _ tw_1016) (fun _ h9 => h9) rfl dX8_goBack_80 ?_
          refine lv_iload_n hx hb dX8_goBack_83 rfl (lv_at hl 1 rfl) ?_
          refine lv_iconst (v := 3) hx hb dX8_goBack_84 (by decide) ?_
          refine lv_iadd hx hb dX8_goBack_85 ?_
          refine lv_ti (y := 38) (by decide) ?_
          refine lv_iload_n hx hb dX8_goBack_86 rfl (lv_at hl 0 rfl) ?_
          refine lv_iadd hx hb dX8_goBack_87 ?_
          refine lv_ti (y := (nI (38 + kk_19))) (nI_add 38 kk_19) ?_
          refine va_iald hx hb hK hP 2 1 rfl rfl (vp_in_nI (by omega) (by decide)) dX8_goBack_88 ?_
          refine lv_ti (y := (fimages (38 + kk_19))) (by rw [nI_clamp (by omega)]) ?_
          refine lv_iconst (v := 1) hx hb dX8_goBack_89 (by decide) ?_
          refine lv_icmp_ne (tgt := 97) hx hb dX8_goBack_90 (by decide) (fun c_27 => ?_) (fun c_27 => ?_)
          · refine lv_iconst (v := 0) hx hb dX8_goBack_97 (by decide) ?_
            refine va_zast hx hb hK hP hD hS 3 2 rfl rfl (vp_in_nI (by omega) (by decide)) dX8_goBack_98 (fun H locs hP hD hS => ?_)
            have hQ9 := pd_mk [((a 0), .inr (8, (fX8 a (nI tx) fp (nI t0) wd (nI we) nu na (nI rd) ts (nI ru) (nI ig_17) (nI ig_18) df db (fimages 37)))), (aZ k (a 43) 2 fisKept), (aI k (a 44) 70 fimages), (aZ k (a 32) 24 (upd fr2_19 (Int32.toNatClampNeg (nI kk_19)) (vp_nar .boolean 0))), (aI k (a 36) 4 fwalks), (aI k (a 37) 4 (nF br))] hP hD
            clear hP hD
            obtain ⟨hP, hD⟩ := hQ9
            rw [nI_clamp (n := kk_19) (by omega)] at hP hD
            have hQ9 := pd_mk [((a 0), .inr (8, (fX8 a (nI tx) fp (nI t0) wd (nI we) nu na (nI rd) ts (nI ru) (nI ig_17) (nI ig_18) df db (fimages 37)))), (aZ k (a 43) 2 fisKept), (aI k (a 44) 70 fimages), (aZ k (a 32) 24 (upd fr2_19 kk_19 (vp_nar .boolean 0))), (aI k (a 36) 4 fwalks), (aI k (a 37) 4 (nF br))] hP hD
            clear hP hD
            obtain ⟨hP, hD⟩ := hQ9
            refine lv_iinc (v := (nI (kk_19 + 1))) (lv' := [(3, .int (nI (kk_19 + 1))), (2, .int 35), (0, .ref (a 0)), (1, .int 1)]) hx hb dX8_goBack_99 hl (k := 0) rfl (nI_add kk_19 1) (by decide) rfl (fun ls hl => ?_)
            refine lv_goto (tgt := 68) hx hb dX8_goBack_102 (by decide) ?_
            exact ih_19 _ (kk_19 + 1, (upd fr2_19 kk_19 (vp_nar .boolean 0))) _ _ _ (by omega) ⟨rfl, ⟨by omega, la_upd (F := fun i => b11 (fimages (38 + i))) hv_19.2 (by rw [show vp_nar .boolean 0 = 0 from rfl]; exact (if_neg c_27).symm)⟩, hP, hD, hS, (lv_sub hl [0, 1, 2, 3] rfl)⟩
          · refine lv_iconst (v := 1) hx hb dX8_goBack_93 (by decide) ?_
            refine lv_goto (tgt := 98) hx hb dX8_goBack_94 (by decide) ?_
            refine va_zast hx hb hK hP hD hS 3 2 rfl rfl (vp_in_nI (by omega) (by decide)) dX8_goBack_98 (fun H locs hP hD hS => ?_)
            have hQ9 := pd_mk [((a 0), .inr (8, (fX8 a (nI tx) fp (nI t0) wd (nI we) nu na (nI rd) ts (nI ru) (nI ig_17) (nI ig_18) df db (fimages 37)))), (aZ k (a 43) 2 fisKept), (aI k (a 44) 70 fimages), (aZ k (a 32) 24 (upd fr2_19 (Int32.toNatClampNeg (nI kk_19)) (vp_nar .boolean 1))), (aI k (a 36) 4 fwalks), (aI k (a 37) 4 (nF br))] hP hD
            clear hP hD
            obtain ⟨hP, hD⟩ := hQ9
            rw [nI_clamp (n := kk_19) (by omega)] at hP hD
            have hQ9 := pd_mk [((a 0), .inr (8, (fX8 a (nI tx) fp (nI t0) wd (nI we) nu na (nI rd) ts (nI ru) (nI ig_17) (nI ig_18) df db (fimages 37)))), (aZ k (a 43) 2 fisKept), (aI k (a 44) 70 fimages), (aZ k (a 32) 24 (upd fr2_19 kk_19 (vp_nar .boolean 1))), (aI k (a 36) 4 fwalks), (aI k (a 37) 4 (nF br))] hP hD
            clear hP hD
            obtain ⟨hP, hD⟩ := hQ9
            refine lv_iinc (v := (nI (kk_19 + 1))) (lv' := [(3, .int (nI (kk_19 + 1))), (2, .int 35), (0, .ref (a 0)), (1, .int 1)]) hx hb dX8_goBack_99 hl (k := 0) rfl (nI_add kk_19 1) (by decide) rfl (fun ls hl => ?_)
            refine lv_goto (tgt := 68) hx hb dX8_goBack_102 (by decide) ?_
            exact ih_19 _ (kk_19 + 1, (upd fr2_19 kk_19 (vp_nar .boolean 1))) _ _ _ (by omega) ⟨rfl, ⟨by omega, la_upd (F := fun i => b11 (fimages (38 + i))) hv_19.2 (by rw [show vp_nar .boolean 1 = 1 from rfl]; exact (if_pos c_27).symm)⟩, hP, hD, hS, (lv_sub hl [0, 1, 2, 3] rfl)⟩
      · refine lv_sipush (v := (-1003)) hx hb dX8_goBack_23 (by decide) ?_
        obtain ⟨hP9, hD9⟩ := pd_sub [((a 0), .inr (8, (fX8 a (nI tx) fp (nI t0) wd (nI we) nu na (nI rd) ts (nI ru) (nI rw) (nI ca) df db sd))), (aZ k (a 43) 2 fisKept), (aI k (a 44) 70 fimages), (aZ k (a 32) 24 frow), (aI k (a 36) 4 fwalks), (aI k (a 37) 4 (nF br))] [0, 1, 2, 3, 4, 5] hP hD (by decide) rfl
        exact W.iret (v := (-1003)) hx hb hr (fun t ht hW => ⟨⟨(-1003), (rw, ca, sd, frow, fwalks, br), rfl, ⟨fun b0 b1 a0 a1 hb0 hb1 ha0 ha1 hc0 hc1 hd0 hd1 => ⟨gb_n1 c_16, gb_n1 c_16⟩, by omega, by omega, hbr, gr_n1 c_16⟩, by rw [ht]; exact hP9, hD9⟩, hS.F ht⟩) hS.2.2 dX8_goBack_26
  · refine lv_if_ne (tgt := 14) hx hb dX8_goBack_7 (by decide) (fun h => absurd (by decide) h) (fun _ => ?_)
    refine lv_sipush (v := (-1001)) hx hb dX8_goBack_10 (by decide) ?_
    obtain ⟨hP9, hD9⟩ := pd_sub [((a 0), .inr (8, (fX8 a (nI tx) fp (nI t0) wd (nI we) nu na (nI rd) ts (nI ru) (nI rw) (nI ca) df db sd))), (aZ k (a 43) 2 fisKept), (aI k (a 44) 70 fimages), (aZ k (a 32) 24 frow), (aI k (a 36) 4 fwalks), (aI k (a 37) 4 (nF br))] [0, 1, 2, 3, 4, 5] hP hD (by decide) rfl
    exact W.iret (v := (-1001)) hx hb hr (fun t ht hW => ⟨⟨(-1001), (rw, ca, sd, frow, fwalks, br), rfl, ⟨fun b0 b1 a0 a1 hb0 hb1 ha0 ha1 hc0 hc1 hd0 hd1 => ⟨gb_out hw_1, gb_out hw_1⟩, by omega, by omega, hbr, gr_out hw_1⟩, by rw [ht]; exact hP9, hD9⟩, hS.F ht⟩) hS.2.2 dX8_goBack_13


set_option maxHeartbeats 4000000 in
set_option maxRecDepth 100000 in
theorem n_seed (l : Launch) (D : va_G) (k : Nat → ClassId) (st : Nat → Nat) (lo : Nat) (a : Nat → Nat) (tx : Nat) (t0 : Nat) (we : Nat) (rd : Nat) (ru : Nat) (rw : Nat) (ca : Nat) (fp : Int32) (wd : Int64) (nu : Int32) (na : Int32) (ts : Int32) (df : Int32) (db : Int32) (sd : Int32) (p0 : Int32)  : CWi l D k st lo yX8_seed cX8_seed 3 (some .int) ({ frames := 0, cells := 0, slots := 0, locals := 0 }) 0 0 [.ref (a 0), .int p0] [((a 0), .inr (8, (fX8 a (nI tx) fp (nI t0) wd (nI we) nu na (nI rd) ts (nI ru) (nI rw) (nI ca) df db sd)))] (fun (r : Int32) (sd_ : Int32) => sedP p0 sd r sd_) (fun (sd_ : Int32) => [((a 0), .inr (8, (fX8 a (nI tx) fp (nI t0) wd (nI we) nu na (nI rd) ts (nI ru) (nI rw) (nI ca) df db sd_)))]) := by
  intro sz
  refine Met.ofW (cc := cX8_seed) (maxL := 3) (ret := (some .int)) (by decide) rfl ?_
  intro p e s m args below meth c s₁ B hml hv
  obtain ⟨rfl, hsz, hlo, hP, hK, hDL, hZ⟩ := hv
  have hx := B.exec
  have hb := B.bytes
  have hr := B.returns
  have hts := WS_ts B.pre
  have hown : s.vm.findClass RX8 = some m.cls := findClass_of_methodNamed B.named
  have hlocks := B.notSynchronized
  subst hsz
  have hD := hDL.self (sz := s.heap.size)
  have hAlo := A_lo hDL hlo
  generalize hAe : va_A [((a 0), .inr (8, (fX8 a (nI tx) fp (nI t0) wd (nI we) nu na (nI rd) ts (nI ru) (nI rw) (nI ca) df db sd)))] s.heap.size = A at hD hAlo ⊢
  have hA : ∀ q : Nat, s.heap.size ≤ q → A q := fun q h => by rw [← hAe]; exact Or.inr h
  have hS : va_S A s.heap s.heap [] := va_S.rf
  have hl := lv_entry ([.ref (a 0), .int p0]) (n := 3) (Nat.le_of_ble_eq_true rfl)
  rw [lg_entry_eq]
  generalize (lg_sl ([.ref (a 0), .int p0]) ++ List.replicate (3 - (lg_sl ([.ref (a 0), .int p0])).length) Slot.unset).toArray = ls at hl ⊢
  have hl : lv_has ls 3 [(0, .ref (a 0)), (1, .int p0)] := hl
  refine lv_iload_n hx hb dX8_seed_0 rfl (lv_at hl 1 rfl) ?_
  refine lv_if_ge (tgt := 8) hx hb dX8_seed_1 (by decide) (fun c_1 => ?_) (fun c_1 => ?_)
  · refine lv_aload_n hx hb dX8_seed_8 rfl (lv_at hl 0 rfl) ?_
    refine va_get (D := D) (ci := 8) (v := .int sd) (C := RX8) (T := TX8) (N := 44) hx hb hts inX8 hown hK hP 0 rfl rfl 41 (by decide) (hts _ tw_1014) (fun _ h9 => h9) rfl dX8_seed_9 ?_
    refine lv_istore_n (lv' := [(2, .int sd), (0, .ref (a 0)), (1, .int p0)]) hx hb dX8_seed_12 rfl hl (by decide) rfl (fun ls hl => ?_)
    refine lv_aload_n hx hb dX8_seed_13 rfl (lv_at hl 1 rfl) ?_
    refine lv_iload_n hx hb dX8_seed_14 rfl (lv_at hl 2 rfl) ?_
    refine va_put (D := D) (ci := 8) (v := .int p0) (ty := .int) (C := RX8) (T := TX8) (N := 44) hx hb hts inX8 tyX8 tyX8_ok nmX8 hown hK hP hD hS 0 rfl rfl 41 (by decide) (hts _ tw_1014) (fun _ h9 => h9) rfl (by decide +kernel) rfl rfl (Nat.le_of_ble_eq_true rfl) dX8_seed_15 (fun H locs hP hD hS => ?_)
    have hQ9 := pd_mk [((a 0), .inr (8, (fX8 a (nI tx) fp (nI t0) wd (nI we) nu na (nI rd) ts (nI ru) (nI rw) (nI ca) df db p0)))] hP hD
    clear hP hD
    obtain ⟨hP, hD⟩ := hQ9
    refine lv_iload_n hx hb dX8_seed_18 rfl (lv_at hl 0 rfl) ?_
    obtain ⟨hP9, hD9⟩ := pd_sub [((a 0), .inr (8, (fX8 a (nI tx) fp (nI t0) wd (nI we) nu na (nI rd) ts (nI ru) (nI rw) (nI ca) df db p0)))] [0] hP hD (by decide) rfl
    exact W.iret (v := sd) hx hb hr (fun t ht hW => ⟨⟨sd, p0, rfl, ⟨fun h => absurd h (Int32.not_lt.mpr c_1), fun _ => ⟨rfl, rfl⟩⟩, by rw [ht]; exact hP9, hD9⟩, hS.F ht⟩) hS.2.2 dX8_seed_19
  · refine lv_sipush (v := (-1002)) hx hb dX8_seed_4 (by decide) ?_
    obtain ⟨hP9, hD9⟩ := pd_sub [((a 0), .inr (8, (fX8 a (nI tx) fp (nI t0) wd (nI we) nu na (nI rd) ts (nI ru) (nI rw) (nI ca) df db sd)))] [0] hP hD (by decide) rfl
    exact W.iret (v := (-1002)) hx hb hr (fun t ht hW => ⟨⟨(-1002), sd, rfl, ⟨fun _ => ⟨rfl, rfl⟩, fun h => absurd (Int32.not_le.mp c_1) h⟩, by rw [ht]; exact hP9, hD9⟩, hS.F ht⟩) hS.2.2 dX8_seed_7

theorem f_glueP26 : True := trivial
/-! what was seen, bit by bit -/
theorem rowN_split (f : Nat → Int32) (a : Nat) : ∀ b, rowN f (a + b) = rowN f a + 2 ^ a * rowN (fun k => f (a + k)) b := by
  intro b
  induction b with
  | zero =>
    show rowN f a = rowN f a + 2 ^ a * 0
    rw [Nat.mul_zero, Nat.add_zero]
  | succ b ih =>
    show rowN f (a + b) + (if f (a + b) = 1 then 2 ^ (a + b) else 0) = rowN f a + 2 ^ a * (rowN (fun k => f (a + k)) b + (if f (a + b) = 1 then 2 ^ b else 0))
    by_cases h : f (a + b) = 1
    · rw [if_pos h, if_pos h, ih, Nat.mul_add, Nat.pow_add, Nat.add_assoc]
    · rw [if_neg h, if_neg h, ih, Nat.add_zero, Nat.add_zero]
theorem rowN_mid {f : Nat → Int32} {z i q : Nat} (h : i + q ≤ z) : rowN f z / 2 ^ i % 2 ^ q = rowN (fun k => f (i + k)) q := by
  obtain ⟨m, rfl⟩ := Nat.exists_eq_add_of_le h
  rw [Nat.add_assoc i q m, rowN_split f i (q + m), rowN_split (fun k => f (i + k)) q m]
  rw [Nat.add_mul_div_left _ _ (Nat.two_pow_pos i), Nat.div_eq_of_lt (rowN_lt f i), Nat.zero_add, Nat.add_mul_mod_self_left, Nat.mod_eq_of_lt (rowN_lt _ q)]
theorem rowN_bit {f : Nat → Int32} {z i : Nat} (h : i < z) : rowN f z / 2 ^ i % 2 = if f i = 1 then 1 else 0 := by
  have e := rowN_mid (f := f) (q := 1) (show i + 1 ≤ z from h)
  rw [Nat.pow_one] at e
  rw [e]
  show 0 + (if f (i + 0) = 1 then 2 ^ 0 else 0) = _
  rw [Nat.zero_add]
  rfl
theorem rowN_odd {f : Nat → Int32} {q : Nat} (hq : 1 ≤ q) (h : f 0 = 1) : rowN f q % 2 = 1 := by
  have e := rowN_bit (f := f) (i := 0) (z := q) (by omega)
  rw [Nat.pow_zero, Nat.div_one, if_pos h] at e
  exact e
theorem rowN_24 {f : Nat → Int32} {z : Nat} (h : z ≤ 24) : rowN f z < 16777216 := Nat.lt_of_lt_of_le (rowN_lt f z) (Nat.pow_le_pow_right (n := 2) (by omega) h)
theorem smod24 : ∀ i, i < 24 → ((nI i &&& 31).toBitVec.smod 32).toNat = i := by decide
theorem shr24 {V i : Nat} (hV : V < 16777216) (hi : i < 24) : nI V >>> (nI i &&& 31) = nI (V / 2 ^ i) := pk_shrN (by omega) _ i (smod24 i hi)
theorem and_1 {a : Nat} : nI a &&& 1 = nI (a % 2) := by
  show nI a &&& nI 1 = _
  rw [nI_and, Nat.and_one_is_mod]
theorem sgt_and {f : Nat → Int32} {z i q : Nat} (hq : q ≤ 3) (h : i + q ≤ z) : nI (rowN f z / 2 ^ i) &&& (nI (2 ^ q) - 1) = nI (rowN (fun k => f (i + k)) q) := by
  have h8 := p8 hq
  show _ &&& (nI (2 ^ q) - nI 1) = _
  rw [pk_sub (by omega), nI_and, Nat.and_two_pow_sub_one_eq_mod, rowN_mid h]
theorem or_nb {g k : Nat} (hk : k < 24) (hg : g < 2 ^ k) : nI g ||| nI (2 ^ k) = nI (g + 2 ^ k) := by
  rw [← shl24 k hk]
  exact or24 hk hg
/-! the first door at which a drive was wrong -/
def wrg (d : SDt) (rn : Nat) (f : Nat → Int32) (z : Nat) (t : Int32) (i : Nat) : Prop := f i = 1 ∧ i + sqN (seD d) d.1 i ≤ z ∧ ¬ (pTake d rn i ≤ wayO d rn i (rowN (fun k => f (i + k)) (sqN (seD d) d.1 i)) ↔ (¬ t = 0 ∧ i + 1 = z))
def jdX (d : SDt) (rn : Nat) (f : Nat → Int32) (z : Nat) (t r : Int32) : Prop := ∃ i, i ≤ z ∧ (∀ j, j < i → ¬ wrg d rn f z t j) ∧ ((i < z ∧ wrg d rn f z t i ∧ r = nI i) ∨ (i = z ∧ r = -1))
theorem jdX_fun {d : SDt} {rn : Nat} {f : Nat → Int32} {z : Nat} {t x y : Int32} (h : jdX d rn f z t x) (g : jdX d rn f z t y) : x = y := by
  obtain ⟨i, i1, i2, i3⟩ := h
  obtain ⟨j, j1, j2, j3⟩ := g
  rcases Nat.lt_trichotomy i j with c | c | c
  · rcases i3 with ⟨_, w, _⟩ | ⟨e, _⟩
    · exact absurd w (j2 i c)
    · omega
  · subst c
    rcases i3 with ⟨a1, _, e1⟩ | ⟨a1, e1⟩
    · rcases j3 with ⟨_, _, e2⟩ | ⟨b1, _⟩
      · exact e1.trans e2.symm
      · omega
    · rcases j3 with ⟨b1, _, _⟩ | ⟨_, e2⟩
      · omega
      · exact e1.trans e2.symm
  · rcases j3 with ⟨_, w, _⟩ | ⟨e, _⟩
    · exact absurd w (i2 j c)
    · omega
def jdN (d : SDt) (f : Nat → Int32) (z : Nat) (t : Int32) : Prop := z = 0 ∨ d.1 < z ∨ (¬ t = 0 ∧ ¬ f (z - 1) = 1)
def jdA (p1 t : Int32) (f : Nat → Int32) (z : Nat) (d : SDt) (r : Int32) : Prop := (¬ inB p1 0 (d.2.1 8) → r = -1002) ∧ ∀ k : Nat, k < 2 ^ 31 → p1 = nI k → inB p1 0 (d.2.1 8) → (jdN d f z t → r = -1003) ∧ (¬ jdN d f z t → jdX d k f z t r)
theorem jdA_fun {p1 t : Int32} {f : Nat → Int32} {z : Nat} (d : SDt) (x y : Int32) (h : jdA p1 t f z d x) (g : jdA p1 t f z d y) : x = y := by
  rcases Classical.em (inB p1 0 (d.2.1 8)) with c | c
  · obtain ⟨k, h2, e⟩ := nI_of (Int32.not_lt.mpr c.1)
    rcases Classical.em (jdN d f z t) with q | q
    · exact ((h.2 k h2 e c).1 q).trans ((g.2 k h2 e c).1 q).symm
    · exact jdX_fun ((h.2 k h2 e c).2 q) ((g.2 k h2 e c).2 q)
  · exact (h.1 c).trans (g.1 c).symm
theorem jd_o {p1 t : Int32} {f : Nat → Int32} {z : Nat} {d : SDt} (h : ¬ inB p1 0 (d.2.1 8)) : jdA p1 t f z d (-1002) := ⟨fun _ => rfl, fun _ _ _ c => absurd c h⟩
theorem jd_n {k z : Nat} {t : Int32} {f : Nat → Int32} {d : SDt} (hi : inB (nI k) 0 (d.2.1 8)) (h : jdN d f z t) : jdA (nI k) t f z d (-1003) := ⟨fun c => absurd hi c, fun _ _ _ _ => ⟨fun _ => rfl, fun q => absurd h q⟩⟩
theorem jd_i {k z : Nat} {t r : Int32} {f : Nat → Int32} {d : SDt} (hk : k ≤ 3) (hi : inB (nI k) 0 (d.2.1 8)) (h : ¬ jdN d f z t) (g : jdX d k f z t r) : jdA (nI k) t f z d r := by
  refine ⟨fun c => absurd hi c, fun q hq e _ => ⟨fun c => absurd c h, fun _ => ?_⟩⟩
  have := nI_inj (by omega) hq e
  subst this
  exact g
theorem not3 {a b c : Prop} (h1 : ¬ a) (h2 : ¬ b) (h3 : ¬ c) : ¬ (a ∨ b ∨ c) := fun q => q.elim h1 (fun q => q.elim h2 h3)
theorem la_all {P : Nat → Prop} {k : Nat} (h : ∀ j, j < k → ¬ P j) (hk : ¬ P k) : ∀ j, j < k + 1 → ¬ P j := by
  intro j hj
  rcases (show j = k ∨ j < k by omega) with e | e
  · rw [e]
    exact hk
  · exact h j e


set_option maxHeartbeats 4000000 in
set_option maxRecDepth 100000 in
theorem y_sawFree (l : Launch) (D : va_G) (k : Nat → ClassId) (st : Nat → Nat) (lo : Nat) (c0 : Nat) (c1 : Nat) (c2 : Nat) (cc : Nat) (rz : Nat) (ro : Int32) (sd : Int32) (i : Nat) (fr : Nat → Int32) (hro : ro = nI (rowN fr rz)) (hrz : rz ≤ 24) (hi : i < rz) : CRi l D k st lo yX4_sawFree cX4_sawFree 2 (some .boolean) ({ frames := 0, cells := 0, slots := 0, locals := 0 }) [.ref c0, .int (nI i)] [(c0, .inr (4, (fX4 c1 c2 (nI cc) (nI rz) ro sd)))] (fun r => (r = 1 ∧ fr i = 1) ∨ (r = 0 ∧ ¬ fr i = 1)) := by
  intro sz
  refine Met.ofW (cc := cX4_sawFree) (maxL := 2) (ret := (some .boolean)) (by decide) rfl ?_
  intro p e s m args below meth c s₁ B hml hv
  obtain ⟨rfl, hsz, hlo, hP, hK, hDL, hZ⟩ := hv
  have hx := B.exec
  have hb := B.bytes
  have hr := B.returns
  have hts := WS_ts B.pre
  have hown : s.vm.findClass RX4 = some m.cls := findClass_of_methodNamed B.named
  have hlocks := B.notSynchronized
  subst hsz
  have hA : ∀ q : Nat, s.heap.size ≤ q → (fun q : Nat => s.heap.size ≤ q) q := fun _ h => h
  have hAlo : ∀ q : Nat, (fun q : Nat => s.heap.size ≤ q) q → lo ≤ q := fun q h => Nat.le_trans hlo h
  have hS : va_S (fun q : Nat => s.heap.size ≤ q) s.heap s.heap [] := va_S.rf
  have hl := lv_entry ([.ref c0, .int (nI i)]) (n := 2) (Nat.le_of_ble_eq_true rfl)
  rw [lg_entry_eq]
  generalize (lg_sl ([.ref c0, .int (nI i)]) ++ List.replicate (2 - (lg_sl ([.ref c0, .int (nI i)])).length) Slot.unset).toArray = ls at hl ⊢
  have hl : lv_has ls 2 [(0, .ref c0), (1, .int (nI i))] := hl
  refine lv_aload_n hx hb dX4_sawFree_0 rfl (lv_at hl 0 rfl) ?_
  refine va_get (D := D) (ci := 4) (v := .int ro) (C := RX4) (T := TX4) (N := 6) hx hb hts inX4 hown hK hP 0 rfl rfl 4 (by decide) (hts _ tw_185) (fun _ h9 => h9) rfl dX4_sawFree_1 ?_
  refine lv_iload_n hx hb dX4_sawFree_4 rfl (lv_at hl 1 rfl) ?_
  refine lv_ishr hx hb dX4_sawFree_5 ?_
  refine lv_ti (y := (nI (rowN fr rz / 2 ^ i))) (by rw [hro]; exact shr24 (rowN_24 hrz) (by omega)) ?_
  refine lv_iconst (v := 1) hx hb dX4_sawFree_6 (by decide) ?_
  refine lv_iand hx hb dX4_sawFree_7 ?_
  refine lv_ti (y := (nI ((rowN fr rz / 2 ^ i) % 2))) and_1 ?_
  refine lv_if_eq (tgt := 15) hx hb dX4_sawFree_8 (by decide) (fun c_1 => ?_) (fun c_1 => ?_)
  · have c_1 := (nI_eq (a := ((rowN fr rz / 2 ^ i) % 2)) (b := 0) (by omega) (by omega)).mp c_1
    refine lv_iconst (v := 0) hx hb dX4_sawFree_15 (by decide) ?_
    exact W.zret (v := 0) (ty := .boolean) hx hb hr rfl (fun t ht hW => ⟨⟨0, (), rfl, .inr ⟨rfl, fun q => by have h9 := rowN_bit (f := fr) hi; rw [if_pos q] at h9; omega⟩, trivial⟩, hS.F ht⟩) hS.2.2 dX4_sawFree_16
  · have c_1 : ¬ (((rowN fr rz / 2 ^ i) % 2) = 0) := fun h => c_1 ((nI_eq (a := ((rowN fr rz / 2 ^ i) % 2)) (b := 0) (by omega) (by omega)).mpr h)
    refine lv_iconst (v := 1) hx hb dX4_sawFree_11 (by decide) ?_
    refine lv_goto (tgt := 16) hx hb dX4_sawFree_12 (by decide) ?_
    exact W.zret (v := 1) (ty := .boolean) hx hb hr rfl (fun t ht hW => ⟨⟨1, (), rfl, .inl ⟨rfl, by have h9 := rowN_bit (f := fr) hi; rcases Classical.em (fr i = 1) with q | q; exact q; rw [if_neg q] at h9; omega⟩, trivial⟩, hS.F ht⟩) hS.2.2 dX4_sawFree_16


set_option maxHeartbeats 4000000 in
set_option maxRecDepth 100000 in
theorem y_firstWrong (l : Launch) (D : va_G) (k : Nat → ClassId) (st : Nat → Nat) (lo : Nat) (h0 : Nat) (h1 : Nat) (h2 : Nat) (h3 : Nat) (h4 : Nat) (n : Nat) (see : Nat) (tm : Nat) (g : Nat → Int32) (ff : Nat → Int32) (fp : Nat → Int32) (fl : Nat → Int32) (w0 : Nat) (w1 : Nat) (w2 : Nat) (w3 : Nat) (w4 : Nat) (on : Nat → Int32) (c0 : Nat) (c1 : Nat) (c2 : Nat) (cc : Nat) (rz : Nat) (ro : Int32) (sd : Int32) (rn : Nat) (p2 : Int32) (fr : Nat → Int32) (hn : n ≤ 24) (hsee : see ≤ 2) (hrn : rn ≤ 3) (hro : ro = nI (rowN fr rz)) (hrz : rz ≤ 24) (hzn : rz ≤ n) (hl9 : ∀ r, r < 4 → fl r = pLate (sdX n see tm g ff fp) r) (hon9 : ∀ i, i < n → ∀ gq, gq < 2 ^ sqN see n i → on (slN rn i gq) = wayO (sdX n see tm g ff fp) rn i gq) : CRi l D k st lo yX0_firstWrong cX0_firstWrong 9 (some .int) ({ frames := 3, cells := 0, slots := 0, locals := 81 }) [.ref w0, .int (nI rn), .ref c0, .int p2] [(h0, .inr (5, (fX5 h1 h2 h3 h4))), (aI k h1 10 (vv n see tm g)), (aI k h2 24 ff), (aI k h3 24 fp), (aI k h4 4 fl), (w0, .inr (0, (fX0 h0 w1 w2 w3 w4))), (aI k w1 768 on), (c0, .inr (4, (fX4 c1 c2 (nI cc) (nI rz) ro sd)))] (fun r => jdX (sdX n see tm g ff fp) rn fr rz p2 r) := by
  intro sz
  refine Met.ofW (cc := cX0_firstWrong) (maxL := 9) (ret := (some .int)) (by decide) rfl ?_
  intro p e s m args below meth c s₁ B hml hv
  obtain ⟨rfl, hsz, hlo, hP, hK, hDL, hZ⟩ := hv
  have hx := B.exec
  have hb := B.bytes
  have hr := B.returns
  have hts := WS_ts B.pre
  have hown : s.vm.findClass RX0 = some m.cls := findClass_of_methodNamed B.named
  have hlocks := B.notSynchronized
  subst hsz
  have hA : ∀ q : Nat, s.heap.size ≤ q → (fun q : Nat => s.heap.size ≤ q) q := fun _ h => h
  have hAlo : ∀ q : Nat, (fun q : Nat => s.heap.size ≤ q) q → lo ≤ q := fun q h => Nat.le_trans hlo h
  have hS : va_S (fun q : Nat => s.heap.size ≤ q) s.heap s.heap [] := va_S.rf
  have hl := lv_entry ([.ref w0, .int (nI rn), .ref c0, .int p2]) (n := 9) (Nat.le_of_ble_eq_true rfl)
  rw [lg_entry_eq]
  generalize (lg_sl ([.ref w0, .int (nI rn), .ref c0, .int p2]) ++ List.replicate (9 - (lg_sl ([.ref w0, .int (nI rn), .ref c0, .int p2])).length) Slot.unset).toArray = ls at hl ⊢
  have hl : lv_has ls 9 [(0, .ref w0), (1, .int (nI rn)), (2, .ref c0), (3, .int p2)] := hl
  refine lv_aload_n hx hb dX0_firstWrong_0 rfl (lv_at hl 2 rfl) ?_
  refine va_get (D := D) (ci := 4) (v := .int (nI rz)) (C := RX4) (T := TX4) (N := 6) hx hb hts inX4 hown hK hP 7 rfl rfl 3 (by decide) (hts _ tw_183) (fun _ h9 => h9) rfl dX0_firstWrong_1 ?_
  refine lv_aload_n hx hb dX0_firstWrong_4 rfl (lv_at hl 0 rfl) ?_
  refine va_get (D := D) (ci := 0) (v := .ref h0) (C := RX0) (T := TX0) (N := 5) hx hb hts inX0 hown hK hP 5 rfl rfl 0 (by decide) (hts _ tw_266) (fun _ h9 => h9) rfl dX0_firstWrong_5 ?_
  refine ro_i (D := D) (va_runV (As := []) (rest := [.int (nI rz)]) ⟨hx, hb, hml, hown, hts⟩ ((x_doors l D k st lo h0 h1 h2 h3 h4 n see tm g) s.heap.size) (cwV 0 hts (gV tw_531 tw_478 tw_479 tw_81 tw_480) rfl rfl rfl (by decide +kernel) ⟨Nat.le_of_ble_eq_true rfl, Nat.le_of_ble_eq_true rfl⟩) (pV hS hAlo hlo hP hK hDL hZ [0, 1] (by decide) rfl (ci := 5) (q := (RX5, TX5, 4)) (q0 := 0) rfl rfl) rfl rfl hl.1 rfl (lv_room (Nat.le_of_ble_eq_true rfl)) dX0_firstWrong_8 ⟨Nat.le_of_ble_eq_true rfl, Nat.le_of_ble_eq_true rfl⟩) hS hA hP (fun r_1 H locs hw_1 hP hS => ?_)
  try dsimp only at hw_1
  subst hw_1
  refine va_mmin hx hb (by rw [hml]; exact hl.1.symm) hown (hts _ tw_528) (hts _ tw_529) (hts _ tw_93) (hts _ tw_530) (Nat.le_of_ble_eq_true rfl) (Nat.le_of_ble_eq_true rfl) (Nat.le_of_ble_eq_true rfl) (Nat.le_of_ble_eq_true rfl) dX0_firstWrong_11 ?_
  refine lv_ti (y := (nI (min rz n))) (mminN (by omega) (by omega)) ?_
  refine lv_istore (lv' := [(4, .int (nI (min rz n))), (0, .ref w0), (1, .int (nI rn)), (2, .ref c0), (3, .int p2)]) hx hb dX0_firstWrong_14 hl (by decide) rfl (fun ls hl => ?_)
  refine lv_iconst (v := 0) hx hb dX0_firstWrong_16 (by decide) ?_
  refine lv_istore (lv' := [(5, .int 0), (4, .int (nI (min rz n))), (0, .ref w0), (1, .int (nI rn)), (2, .ref c0), (3, .int p2)]) hx hb dX0_firstWrong_17 hl (by decide) rfl (fun ls hl => ?_)
  refine W_loop (σ := Nat) (fun (n_ : Nat) (ii_3 : Nat) (H : Heap) (locs : List Loc) (ls : Array Slot) => n_ = 25 - ii_3 ∧ (ii_3 ≤ rz ∧ ∀ j, j < ii_3 → ¬ wrg (sdX n see tm g ff fp) rn fr rz p2 j) ∧ va_P D classes [(h0, .inr (5, (fX5 h1 h2 h3 h4))), (aI k h1 10 (vv n see tm g)), (aI k h2 24 ff), (aI k h3 24 fp), (aI k h4 4 fl), (w0, .inr (0, (fX0 h0 w1 w2 w3 w4))), (aI k w1 768 on), (c0, .inr (4, (fX4 c1 c2 (nI cc) (nI rz) ro sd)))] H ∧ va_S (fun q : Nat => s.heap.size ≤ q) s.heap H locs ∧ lv_has ls 9 [(5, .int (nI ii_3)), (4, .int (nI (min rz n))), (0, .ref w0), (1, .int (nI rn)), (2, .ref c0), (3, .int p2)]) (fun n_3 x_3 H locs ls hI ih_3 => ?_) _ 0 ⟨rfl, ⟨by omega, fun j h => absurd h (Nat.not_lt_zero j)⟩, hP, hS, (lv_sub hl [0, 1, 2, 3, 4, 5] rfl)⟩
  obtain ⟨ii_3, rfl⟩ : ∃ z, z = x_3 := ⟨_, rfl⟩
  obtain ⟨hm_3, hv_3, hP, hS, hl⟩ := hI
  subst hm_3
  refine lv_iload hx hb dX0_firstWrong_19 (lv_at hl 0 rfl) ?_
  refine lv_iload hx hb dX0_firstWrong_21 (lv_at hl 1 rfl) ?_
  refine lv_icmp_ge (tgt := 133) hx hb dX0_firstWrong_23 (by decide) (fun c_4 => ?_) (fun c_4 => ?_)
  · have c_4 := (nI_leI (a := (min rz n)) (b := ii_3) (by omega) (by omega)).mp c_4
    refine lv_iconst (v := (-1)) hx hb dX0_firstWrong_133 (by decide) ?_
    exact W.iret (v := (-1)) hx hb hr (fun t ht hW => ⟨⟨(-1), (), rfl, ⟨ii_3, by omega, hv_3.2, .inr ⟨by omega, rfl⟩⟩, trivial⟩, hS.F ht⟩) hS.2.2 dX0_firstWrong_134
  · have c_4 : ¬ ((min rz n) ≤ ii_3) := fun h => c_4 ((nI_leI (a := (min rz n)) (b := ii_3) (by omega) (by omega)).mpr h)
    refine lv_iload hx hb dX0_firstWrong_26 (lv_at hl 0 rfl) ?_
    refine lv_aload_n hx hb dX0_firstWrong_28 rfl (lv_at hl 2 rfl) ?_
    refine va_get (D := D) (ci := 0) (v := .ref h0) (C := RX0) (T := TX0) (N := 5) hx hb hts inX0 hown hK hP 5 rfl rfl 0 (by decide) (hts _ tw_266) (fun _ h9 => h9) rfl dX0_firstWrong_29 ?_
    refine va_get (D := D) (ci := 5) (v := .ref h1) (C := RX5) (T := TX5) (N := 4) hx hb hts inX5 hown hK hP 0 rfl rfl 0 (by decide) (hts _ tw_147) (fun _ h9 => h9) rfl dX0_firstWrong_32 ?_
    refine lv_bipush (v := 6) hx hb dX0_firstWrong_35 (by decide) ?_
    refine va_iald hx hb hK hP 1 1 rfl rfl (by unfold vp_in; decide) dX0_firstWrong_37 ?_
    refine lv_ti (y := (nI see)) (by rfl) ?_
    refine lv_iadd hx hb dX0_firstWrong_38 ?_
    refine lv_ti (y := (nI (ii_3 + see))) (nI_add ii_3 see) ?_
    refine lv_iconst (v := 1) hx hb dX0_firstWrong_39 (by decide) ?_
    refine lv_iadd hx hb dX0_firstWrong_40 ?_
    refine lv_ti (y := (nI (ii_3 + see + 1))) (nI_add (ii_3 + see) 1) ?_
    refine lv_aload_n hx hb dX0_firstWrong_41 rfl (lv_at hl 2 rfl) ?_
    refine va_get (D := D) (ci := 0) (v := .ref h0) (C := RX0) (T := TX0) (N := 5) hx hb hts inX0 hown hK hP 5 rfl rfl 0 (by decide) (hts _ tw_266) (fun _ h9 => h9) rfl dX0_firstWrong_42 ?_
    refine ro_i (D := D) (va_runV (As := []) (rest := [.int (nI (ii_3 + see + 1))]) ⟨hx, hb, hml, hown, hts⟩ ((x_doors l D k st lo h0 h1 h2 h3 h4 n see tm g) H.size) (cwV 0 hts (gV tw_531 tw_478 tw_479 tw_81 tw_480) rfl rfl rfl (by decide +kernel) ⟨Nat.le_of_ble_eq_true rfl, Nat.le_of_ble_eq_true rfl⟩) (pV hS hAlo hlo hP hK hDL hZ [0, 1] (by decide) rfl (ci := 5) (q := (RX5, TX5, 4)) (q0 := 0) rfl rfl) rfl rfl hl.1 rfl (lv_room (Nat.le_of_ble_eq_true rfl)) dX0_firstWrong_45 ⟨Nat.le_of_ble_eq_true rfl, Nat.le_of_ble_eq_true rfl⟩) hS hA hP (fun r_5 H locs hw_5 hP hS => ?_)
    try dsimp only at hw_5
    subst hw_5
    refine va_mmin hx hb (by rw [hml]; exact hl.1.symm) hown (hts _ tw_528) (hts _ tw_529) (hts _ tw_93) (hts _ tw_530) (Nat.le_of_ble_eq_true rfl) (Nat.le_of_ble_eq_true rfl) (Nat.le_of_ble_eq_true rfl) (Nat.le_of_ble_eq_true rfl) dX0_firstWrong_48 ?_
    refine lv_ti (y := (nI (min (ii_3 + see + 1) n))) (mminN (by omega) (by omega)) ?_
    refine lv_istore (lv' := [(6, .int (nI (min (ii_3 + see + 1) n))), (5, .int (nI ii_3)), (4, .int (nI (min rz n))), (0, .ref w0), (1, .int (nI rn)), (2, .ref c0), (3, .int p2)]) hx hb dX0_firstWrong_51 hl (by decide) rfl (fun ls hl => ?_)
    refine lv_iload hx hb dX0_firstWrong_53 (lv_at hl 0 rfl) ?_
    refine lv_iload hx hb dX0_firstWrong_55 (lv_at hl 2 rfl) ?_
    refine lv_icmp_gt (tgt := 127) hx hb dX0_firstWrong_57 (by decide) (fun c_7 => ?_) (fun c_7 => ?_)
    · have c_7 := (nI_ltI (a := (min rz n)) (b := (min (ii_3 + see + 1) n)) (by omega) (by omega)).mp c_7
      refine lv_iinc (v := (nI (ii_3 + 1))) (lv' := [(5, .int (nI (ii_3 + 1))), (6, .int (nI (min (ii_3 + see + 1) n))), (4, .int (nI (min rz n))), (0, .ref w0), (1, .int (nI rn)), (2, .ref c0), (3, .int p2)]) hx hb dX0_firstWrong_127 hl (k := 1) rfl (nI_add ii_3 1) (by decide) rfl (fun ls hl => ?_)
      refine lv_goto (tgt := 19) hx hb dX0_firstWrong_130 (by decide) ?_
      exact ih_3 _ (ii_3 + 1) _ _ _ (by omega) ⟨rfl, ⟨by omega, la_all (P := fun j => wrg (sdX n see tm g ff fp) rn fr rz p2 j) hv_3.2 (fun h => absurd (show ii_3 + sqN (seD (sdX n see tm g ff fp)) (sdX n see tm g ff fp).1 ii_3 ≤ rz from h.2.1) (by rw [seX (by omega)]; show ¬ ii_3 + sqN see n ii_3 ≤ rz; unfold sqN; omega))⟩, hP, hS, (lv_sub hl [0, 2, 3, 4, 5, 6] rfl)⟩
    · have c_7 : ¬ ((min rz n) < (min (ii_3 + see + 1) n)) := fun h => c_7 ((nI_ltI (a := (min rz n)) (b := (min (ii_3 + see + 1) n)) (by omega) (by omega)).mpr h)
      refine lv_aload_n hx hb dX0_firstWrong_60 rfl (lv_at hl 5 rfl) ?_
      refine lv_iload hx hb dX0_firstWrong_61 (lv_at hl 1 rfl) ?_
      refine ro_i (D := D) (va_runV (As := [.int (nI ii_3)]) (rest := []) ⟨hx, hb, hml, hown, hts⟩ ((y_sawFree l D k st lo c0 c1 c2 cc rz ro sd ii_3 fr hro (by first | assumption | omega) (by first | assumption | omega)) H.size) (cwV 1 hts (gV tw_760 tw_753 tw_754 tw_82 tw_755) rfl rfl rfl (by decide +kernel) ⟨Nat.le_of_ble_eq_true rfl, Nat.le_of_ble_eq_true rfl⟩) (pV hS hAlo hlo hP hK hDL hZ [7] (by decide) rfl (ci := 4) (q := (RX4, TX4, 6)) (q0 := 0) rfl rfl) rfl rfl hl.1 rfl (lv_room (Nat.le_of_ble_eq_true rfl)) dX0_firstWrong_63 ⟨Nat.le_of_ble_eq_true rfl, Nat.le_of_ble_eq_true rfl⟩) hS hA hP (fun r_8 H locs hw_8 hP hS => ?_)
      try dsimp only at hw_8
      rcases hw_8 with ⟨rfl, hw_8⟩ | ⟨rfl, hw_8⟩
      · refine lv_if_eq (tgt := 127) hx hb dX0_firstWrong_66 (by decide) (fun h => absurd h (by decide)) (fun _ => ?_)
        refine lv_aload_n hx hb dX0_firstWrong_69 rfl (lv_at hl 5 rfl) ?_
        refine va_get (D := D) (ci := 4) (v := .int ro) (C := RX4) (T := TX4) (N := 6) hx hb hts inX4 hown hK hP 7 rfl rfl 4 (by decide) (hts _ tw_186) (fun _ h9 => h9) rfl dX0_firstWrong_70 ?_
        refine lv_iload hx hb dX0_firstWrong_73 (lv_at hl 1 rfl) ?_
        refine lv_ishr hx hb dX0_firstWrong_75 ?_
        refine lv_ti (y := (nI (rowN fr rz / 2 ^ ii_3))) (by rw [hro]; exact shr24 (rowN_24 hrz) (by omega)) ?_
        refine lv_aload_n hx hb dX0_firstWrong_76 rfl (lv_at hl 3 rfl) ?_
        refine va_get (D := D) (ci := 0) (v := .ref h0) (C := RX0) (T := TX0) (N := 5) hx hb hts inX0 hown hK hP 5 rfl rfl 0 (by decide) (hts _ tw_266) (fun _ h9 => h9) rfl dX0_firstWrong_77 ?_
        refine lv_iload hx hb dX0_firstWrong_80 (lv_at hl 1 rfl) ?_
        refine ro_i (D := D) (va_runV (As := [.int (nI ii_3)]) (rest := [.int (nI (rowN fr rz / 2 ^ ii_3))]) ⟨hx, hb, hml, hown, hts⟩ ((y_sightsAt l D k st lo h0 h1 h2 h3 h4 n see tm g ii_3 (by first | assumption | omega) (by first | assumption | omega) (by first | assumption | omega)) H.size) (cwV 1 hts (gV tw_536 tw_537 tw_538 tw_81 tw_539) rfl rfl rfl (by decide +kernel) ⟨Nat.le_of_ble_eq_true rfl, Nat.le_of_ble_eq_true rfl⟩) (pV hS hAlo hlo hP hK hDL hZ [0, 1] (by decide) rfl (ci := 5) (q := (RX5, TX5, 4)) (q0 := 0) rfl rfl) rfl rfl hl.1 rfl (lv_room (Nat.le_of_ble_eq_true rfl)) dX0_firstWrong_82 ⟨Nat.le_of_ble_eq_true rfl, Nat.le_of_ble_eq_true rfl⟩) hS hA hP (fun r_9 H locs hw_9 hP hS => ?_)
        try dsimp only at hw_9
        obtain ⟨zs_10, ezs_10⟩ : ∃ z : Nat, z = 2 ^ sqN see n ii_3 := ⟨_, rfl⟩
        rw [← ezs_10] at hw_9
        subst hw_9
        have hzs_10 : 1 ≤ zs_10 ∧ zs_10 ≤ 8 := by rw [ezs_10]; exact p8 (sq_le (by omega))
        refine lv_iconst (v := 1) hx hb dX0_firstWrong_85 (by decide) ?_
        refine lv_isub hx hb dX0_firstWrong_86 ?_
        refine lv_ti (y := (nI zs_10 - 1)) rfl ?_
        obtain ⟨gg_11, egg_11⟩ : ∃ z : Nat, z = rowN (fun k => fr (ii_3 + k)) (sqN see n ii_3) := ⟨_, rfl⟩
        have hsq_11 : sqN see n ii_3 ≤ 3 ∧ 1 ≤ sqN see n ii_3 ∧ ii_3 + sqN see n ii_3 ≤ rz := by unfold sqN; omega
        have hgq_11 : gg_11 < 2 ^ sqN see n ii_3 := by rw [egg_11]; exact rowN_lt _ _
        have hgp_11 := p8 hsq_11.1
        have hg8_11 : gg_11 < 8 := by omega
        have hgo_11 : gg_11 % 2 = 1 := by rw [egg_11]; exact rowN_odd hsq_11.2.1 hw_8
        refine lv_iand hx hb dX0_firstWrong_87 ?_
        refine lv_ti (y := (nI gg_11)) (by rw [ezs_10, egg_11]; exact sgt_and hsq_11.1 hsq_11.2.2) ?_
        refine lv_istore (lv' := [(7, .int (nI gg_11)), (6, .int (nI (min (ii_3 + see + 1) n))), (5, .int (nI ii_3)), (4, .int (nI (min rz n))), (0, .ref w0), (1, .int (nI rn)), (2, .ref c0), (3, .int p2)]) hx hb dX0_firstWrong_88 hl (by decide) rfl (fun ls hl => ?_)
        refine lv_iload_n hx hb dX0_firstWrong_90 rfl (lv_at hl 7 rfl) ?_
        refine lv_if_eq (tgt := 107) hx hb dX0_firstWrong_91 (by decide) (fun c_12 => ?_) (fun c_12 => ?_)
        · refine lv_iconst (v := 0) hx hb dX0_firstWrong_107 (by decide) ?_
          refine lv_istore (lv' := [(8, .int 0), (7, .int (nI gg_11)), (6, .int (nI (min (ii_3 + see + 1) n))), (5, .int (nI ii_3)), (4, .int (nI (min rz n))), (0, .ref w0), (1, .int (nI rn)), (2, .ref c0), (3, .int p2)]) hx hb dX0_firstWrong_108 hl (by decide) rfl (fun ls hl => ?_)
          have hT_11 : fX_taking n g fp fl rn ii_3 ≤ on (slN rn ii_3 gg_11) ↔ pTake (sdX n see tm g ff fp) rn ii_3 ≤ wayO (sdX n see tm g ff fp) rn ii_3 (rowN (fun k => fr (ii_3 + k)) (sqN (seD (sdX n see tm g ff fp)) (sdX n see tm g ff fp).1 ii_3)) := by rw [seX (by omega), xTake (see := see) (tm := tm) (ff := ff) (show ii_3 < n by omega) (hl9 rn (by omega)), hon9 ii_3 (by omega) gg_11 hgq_11, egg_11]; exact Iff.rfl
          refine lv_aload_n hx hb dX0_firstWrong_110 rfl (lv_at hl 5 rfl) ?_
          refine lv_iload_n hx hb dX0_firstWrong_111 rfl (lv_at hl 6 rfl) ?_
          refine lv_iload hx hb dX0_firstWrong_112 (lv_at hl 3 rfl) ?_
          refine lv_iload hx hb dX0_firstWrong_114 (lv_at hl 1 rfl) ?_
          refine ro_i (D := D) (va_runV (As := [.int (nI rn), .int (nI ii_3), .int (nI gg_11)]) (rest := []) ⟨hx, hb, hml, hown, hts⟩ ((y_isTaken l D k st lo h0 h1 h2 h3 h4 n see tm g ff fp fl w0 w1 w2 w3 w4 on rn ii_3 gg_11 (by first | assumption | omega) (by first | assumption | omega) (by first | assumption | omega) (by first | assumption | omega)) H.size) (cwV 3 hts (gV tw_662 tw_638 tw_639 tw_85 tw_640) rfl rfl rfl (by decide +kernel) ⟨Nat.le_of_ble_eq_true rfl, Nat.le_of_ble_eq_true rfl⟩) (pV hS hAlo hlo hP hK hDL hZ [0, 1, 2, 3, 4, 5, 6] (by decide) rfl (ci := 0) (q := (RX0, TX0, 5)) (q0 := 5) rfl rfl) rfl rfl hl.1 rfl (lv_room (Nat.le_of_ble_eq_true rfl)) dX0_firstWrong_116 ⟨Nat.le_of_ble_eq_true rfl, Nat.le_of_ble_eq_true rfl⟩) hS hA hP (fun r_13 H locs hw_13 hP hS => ?_)
          try dsimp only at hw_13
          rcases hw_13 with ⟨rfl, hw_13⟩ | ⟨rfl, hw_13⟩
          · refine lv_iload hx hb dX0_firstWrong_119 (lv_at hl 0 rfl) ?_
            refine lv_icmp_eq (tgt := 127) hx hb dX0_firstWrong_121 (by decide) (fun h => absurd h (by decide)) (fun _ => ?_)
            refine lv_iload hx hb dX0_firstWrong_124 (lv_at hl 3 rfl) ?_
            exact W.iret (v := (nI ii_3)) hx hb hr (fun t ht hW => ⟨⟨(nI ii_3), (), rfl, ⟨ii_3, by omega, hv_3.2, .inl ⟨by omega, ⟨hw_8, (show ii_3 + sqN (seD (sdX n see tm g ff fp)) (sdX n see tm g ff fp).1 ii_3 ≤ rz by rw [seX (by omega)]; exact hsq_11.2.2), (fun q => (fun q => q.1 c_12) (q.mp (hT_11.mp hw_13.2)))⟩, rfl⟩⟩, trivial⟩, hS.F ht⟩) hS.2.2 dX0_firstWrong_126
          · refine lv_iload hx hb dX0_firstWrong_119 (lv_at hl 0 rfl) ?_
            refine lv_icmp_eq (tgt := 127) hx hb dX0_firstWrong_121 (by decide) (fun _ => ?_) (fun h => absurd (by decide) h)
            refine lv_iinc (v := (nI (ii_3 + 1))) (lv' := [(5, .int (nI (ii_3 + 1))), (8, .int 0), (7, .int (nI gg_11)), (6, .int (nI (min (ii_3 + see + 1) n))), (4, .int (nI (min rz n))), (0, .ref w0), (1, .int (nI rn)), (2, .ref c0), (3, .int p2)]) hx hb dX0_firstWrong_127 hl (k := 3) rfl (nI_add ii_3 1) (by decide) rfl (fun ls hl => ?_)
            refine lv_goto (tgt := 19) hx hb dX0_firstWrong_130 (by decide) ?_
            exact ih_3 _ (ii_3 + 1) _ _ _ (by omega) ⟨rfl, ⟨by omega, la_all (P := fun j => wrg (sdX n see tm g ff fp) rn fr rz p2 j) hv_3.2 (fun h => h.2.2 ⟨fun q => absurd q (fun q => hw_13 ⟨hgo_11, hT_11.mpr q⟩), fun q => absurd q (fun q => q.1 c_12)⟩)⟩, hP, hS, (lv_sub hl [0, 4, 5, 6, 7, 8] rfl)⟩
        · refine lv_iload hx hb dX0_firstWrong_94 (lv_at hl 2 rfl) ?_
          refine lv_iload hx hb dX0_firstWrong_96 (lv_at hl 3 rfl) ?_
          refine lv_iconst (v := 1) hx hb dX0_firstWrong_98 (by decide) ?_
          refine lv_isub hx hb dX0_firstWrong_99 ?_
          refine lv_ti (y := (nI ((min rz n) - 1))) (pk_sub (a := (min rz n)) (b := 1) (by omega)) ?_
          refine lv_icmp_ne (tgt := 107) hx hb dX0_firstWrong_100 (by decide) (fun c_14 => ?_) (fun c_14 => ?_)
          · have c_14 : ¬ (ii_3 = ((min rz n) - 1)) := fun h => c_14 ((nI_eq (a := ii_3) (b := ((min rz n) - 1)) (by omega) (by omega)).mpr h)
            refine lv_iconst (v := 0) hx hb dX0_firstWrong_107 (by decide) ?_
            refine lv_istore (lv' := [(8, .int 0), (7, .int (nI gg_11)), (6, .int (nI (min (ii_3 + see + 1) n))), (5, .int (nI ii_3)), (4, .int (nI (min rz n))), (0, .ref w0), (1, .int (nI rn)), (2, .ref c0), (3, .int p2)]) hx hb dX0_firstWrong_108 hl (by decide) rfl (fun ls hl => ?_)
            have hT_11 : fX_taking n g fp fl rn ii_3 ≤ on (slN rn ii_3 gg_11) ↔ pTake (sdX n see tm g ff fp) rn ii_3 ≤ wayO (sdX n see tm g ff fp) rn ii_3 (rowN (fun k => fr (ii_3 + k)) (sqN (seD (sdX n see tm g ff fp)) (sdX n see tm g ff fp).1 ii_3)) := by rw [seX (by omega), xTake (see := see) (tm := tm) (ff := ff) (show ii_3 < n by omega) (hl9 rn (by omega)), hon9 ii_3 (by omega) gg_11 hgq_11, egg_11]; exact Iff.rfl
            refine lv_aload_n hx hb dX0_firstWrong_110 rfl (lv_at hl 5 rfl) ?_
            refine lv_iload_n hx hb dX0_firstWrong_111 rfl (lv_at hl 6 rfl) ?_
            refine lv_iload hx hb dX0_firstWrong_112 (lv_at hl 3 rfl) ?_
            refine lv_iload hx hb dX0_firstWrong_114 (lv_at hl 1 rfl) ?_
            refine ro_i (D := D) (va_runV (As := [.int (nI rn), .int (nI ii_3), .int (nI gg_11)]) (rest := []) ⟨hx, hb, hml, hown, hts⟩ ((y_isTaken l D k st lo h0 h1 h2 h3 h4 n see tm g ff fp fl w0 w1 w2 w3 w4 on rn ii_3 gg_11 (by first | assumption | omega) (by first | assumption | omega) (by first | assumption | omega) (by first | assumption | omega)) H.size) (cwV 3 hts (gV tw_662 tw_638 tw_639 tw_85 tw_640) rfl rfl rfl (by decide +kernel) ⟨Nat.le_of_ble_eq_true rfl, Nat.le_of_ble_eq_true rfl⟩) (pV hS hAlo hlo hP hK hDL hZ [0, 1, 2, 3, 4, 5, 6] (by decide) rfl (ci := 0) (q := (RX0, TX0, 5)) (q0 := 5) rfl rfl) rfl rfl hl.1 rfl (lv_room (Nat.le_of_ble_eq_true rfl)) dX0_firstWrong_116 ⟨Nat.le_of_ble_eq_true rfl, Nat.le_of_ble_eq_true rfl⟩) hS hA hP (fun r_15 H locs hw_15 hP hS => ?_)
            try dsimp only at hw_15
            rcases hw_15 with ⟨rfl, hw_15⟩ | ⟨rfl, hw_15⟩
            · refine lv_iload hx hb dX0_firstWrong_119 (lv_at hl 0 rfl) ?_
              refine lv_icmp_eq (tgt := 127) hx hb dX0_firstWrong_121 (by decide) (fun h => absurd h (by decide)) (fun _ => ?_)
              refine lv_iload hx hb dX0_firstWrong_124 (lv_at hl 3 rfl) ?_
              exact W.iret (v := (nI ii_3)) hx hb hr (fun t ht hW => ⟨⟨(nI ii_3), (), rfl, ⟨ii_3, by omega, hv_3.2, .inl ⟨by omega, ⟨hw_8, (show ii_3 + sqN (seD (sdX n see tm g ff fp)) (sdX n see tm g ff fp).1 ii_3 ≤ rz by rw [seX (by omega)]; exact hsq_11.2.2), (fun q => (fun q => absurd q.2 (by omega)) (q.mp (hT_11.mp hw_15.2)))⟩, rfl⟩⟩, trivial⟩, hS.F ht⟩) hS.2.2 dX0_firstWrong_126
            · refine lv_iload hx hb dX0_firstWrong_119 (lv_at hl 0 rfl) ?_
              refine lv_icmp_eq (tgt := 127) hx hb dX0_firstWrong_121 (by decide) (fun _ => ?_) (fun h => absurd (by decide) h)
              refine lv_iinc (v := (nI (ii_3 + 1))) (lv' := [(5, .int (nI (ii_3 + 1))), (8, .int 0), (7, .int (nI gg_11)), (6, .int (nI (min (ii_3 + see + 1) n))), (4, .int (nI (min rz n))), (0, .ref w0), (1, .int (nI rn)), (2, .ref c0), (3, .int p2)]) hx hb dX0_firstWrong_127 hl (k := 3) rfl (nI_add ii_3 1) (by decide) rfl (fun ls hl => ?_)
              refine lv_goto (tgt := 19) hx hb dX0_firstWrong_130 (by decide) ?_
              exact ih_3 _ (ii_3 + 1) _ _ _ (by omega) ⟨rfl, ⟨by omega, la_all (P := fun j => wrg (sdX n see tm g ff fp) rn fr rz p2 j) hv_3.2 (fun h => h.2.2 ⟨fun q => absurd q (fun q => hw_15 ⟨hgo_11, hT_11.mpr q⟩), fun q => absurd q (fun q => absurd q.2 (by omega))⟩)⟩, hP, hS, (lv_sub hl [0, 4, 5, 6, 7, 8] rfl)⟩
          · have c_14 := (nI_eq (a := ii_3) (b := ((min rz n) - 1)) (by omega) (by omega)).mp c_14
            refine lv_iconst (v := 1) hx hb dX0_firstWrong_103 (by decide) ?_
            refine lv_goto (tgt := 108) hx hb dX0_firstWrong_104 (by decide) ?_
            refine lv_istore (lv' := [(8, .int 1), (7, .int (nI gg_11)), (6, .int (nI (min (ii_3 + see + 1) n))), (5, .int (nI ii_3)), (4, .int (nI (min rz n))), (0, .ref w0), (1, .int (nI rn)), (2, .ref c0), (3, .int p2)]) hx hb dX0_firstWrong_108 hl (by decide) rfl (fun ls hl => ?_)
            have hT_11 : fX_taking n g fp fl rn ii_3 ≤ on (slN rn ii_3 gg_11) ↔ pTake (sdX n see tm g ff fp) rn ii_3 ≤ wayO (sdX n see tm g ff fp) rn ii_3 (rowN (fun k => fr (ii_3 + k)) (sqN (seD (sdX n see tm g ff fp)) (sdX n see tm g ff fp).1 ii_3)) := by rw [seX (by omega), xTake (see := see) (tm := tm) (ff := ff) (show ii_3 < n by omega) (hl9 rn (by omega)), hon9 ii_3 (by omega) gg_11 hgq_11, egg_11]; exact Iff.rfl
            refine lv_aload_n hx hb dX0_firstWrong_110 rfl (lv_at hl 5 rfl) ?_
            refine lv_iload_n hx hb dX0_firstWrong_111 rfl (lv_at hl 6 rfl) ?_
            refine lv_iload hx hb dX0_firstWrong_112 (lv_at hl 3 rfl) ?_
            refine lv_iload hx hb dX0_firstWrong_114 (lv_at hl 1 rfl) ?_
            refine ro_i (D := D) (va_runV (As := [.int (nI rn), .int (nI ii_3), .int (nI gg_11)]) (rest := []) ⟨hx, hb, hml, hown, hts⟩ ((y_isTaken l D k st lo h0 h1 h2 h3 h4 n see tm g ff fp fl w0 w1 w2 w3 w4 on rn ii_3 gg_11 (by first | assumption | omega) (by first | assumption | omega) (by first | assumption | omega) (by first | assumption | omega)) H.size) (cwV 3 hts (gV tw_662 tw_638 tw_639 tw_85 tw_640) rfl rfl rfl (by decide +kernel) ⟨Nat.le_of_ble_eq_true rfl, Nat.le_of_ble_eq_true rfl⟩) (pV hS hAlo hlo hP hK hDL hZ [0, 1, 2, 3, 4, 5, 6] (by decide) rfl (ci := 0) (q := (RX0, TX0, 5)) (q0 := 5) rfl rfl) rfl rfl hl.1 rfl (lv_room (Nat.le_of_ble_eq_true rfl)) dX0_firstWrong_116 ⟨Nat.le_of_ble_eq_true rfl, Nat.le_of_ble_eq_true rfl⟩) hS hA hP (fun r_16 H locs hw_16 hP hS => ?_)
            try dsimp only at hw_16
            rcases hw_16 with ⟨rfl, hw_16⟩ | ⟨rfl, hw_16⟩
            · refine lv_iload hx hb dX0_firstWrong_119 (lv_at hl 0 rfl) ?_
              refine lv_icmp_eq (tgt := 127) hx hb dX0_firstWrong_121 (by decide) (fun _ => ?_) (fun h => absurd (by decide) h)
              refine lv_iinc (v := (nI (ii_3 + 1))) (lv' := [(5, .int (nI (ii_3 + 1))), (8, .int 1), (7, .int (nI gg_11)), (6, .int (nI (min (ii_3 + see + 1) n))), (4, .int (nI (min rz n))), (0, .ref w0), (1, .int (nI rn)), (2, .ref c0), (3, .int p2)]) hx hb dX0_firstWrong_127 hl (k := 3) rfl (nI_add ii_3 1) (by decide) rfl (fun ls hl => ?_)
              refine lv_goto (tgt := 19) hx hb dX0_firstWrong_130 (by decide) ?_
              exact ih_3 _ (ii_3 + 1) _ _ _ (by omega) ⟨rfl, ⟨by omega, la_all (P := fun j => wrg (sdX n see tm g ff fp) rn fr rz p2 j) hv_3.2 (fun h => h.2.2 ⟨fun _ => ⟨c_12, by omega⟩, fun _ => hT_11.mp hw_16.2⟩)⟩, hP, hS, (lv_sub hl [0, 4, 5, 6, 7, 8] rfl)⟩
            · refine lv_iload hx hb dX0_firstWrong_119 (lv_at hl 0 rfl) ?_
              refine lv_icmp_eq (tgt := 127) hx hb dX0_firstWrong_121 (by decide) (fun h => absurd h (by decide)) (fun _ => ?_)
              refine lv_iload hx hb dX0_firstWrong_124 (lv_at hl 3 rfl) ?_
              exact W.iret (v := (nI ii_3)) hx hb hr (fun t ht hW => ⟨⟨(nI ii_3), (), rfl, ⟨ii_3, by omega, hv_3.2, .inl ⟨by omega, ⟨hw_8, (show ii_3 + sqN (seD (sdX n see tm g ff fp)) (sdX n see tm g ff fp).1 ii_3 ≤ rz by rw [seX (by omega)]; exact hsq_11.2.2), (fun q => (fun q => hw_16 ⟨hgo_11, hT_11.mpr q⟩) (q.mpr ⟨c_12, by omega⟩))⟩, rfl⟩⟩, trivial⟩, hS.F ht⟩) hS.2.2 dX0_firstWrong_126
      · refine lv_if_eq (tgt := 127) hx hb dX0_firstWrong_66 (by decide) (fun _ => ?_) (fun h => absurd (by decide) h)
        refine lv_iinc (v := (nI (ii_3 + 1))) (lv' := [(5, .int (nI (ii_3 + 1))), (6, .int (nI (min (ii_3 + see + 1) n))), (4, .int (nI (min rz n))), (0, .ref w0), (1, .int (nI rn)), (2, .ref c0), (3, .int p2)]) hx hb dX0_firstWrong_127 hl (k := 1) rfl (nI_add ii_3 1) (by decide) rfl (fun ls hl => ?_)
        refine lv_goto (tgt := 19) hx hb dX0_firstWrong_130 (by decide) ?_
        exact ih_3 _ (ii_3 + 1) _ _ _ (by omega) ⟨rfl, ⟨by omega, la_all (P := fun j => wrg (sdX n see tm g ff fp) rn fr rz p2 j) hv_3.2 (fun h => hw_8 h.1)⟩, hP, hS, (lv_sub hl [0, 2, 3, 4, 5, 6] rfl)⟩


set_option maxHeartbeats 4000000 in
set_option maxRecDepth 100000 in
theorem y_judge (l : Launch) (D : va_G) (k : Nat → ClassId) (st : Nat → Nat) (lo : Nat) (a : Nat → Nat) (rk : Nat) (lfa : Int32) (n0 : Nat) (see0 : Nat) (tm0 : Nat) (g0 : Nat → Int32) (ff0 : Nat → Int32) (fp0 : Nat → Int32) (fl0 : Nat → Int32) (n1 : Nat) (see1 : Nat) (tm1 : Nat) (g1 : Nat → Int32) (ff1 : Nat → Int32) (fp1 : Nat → Int32) (fl1 : Nat → Int32) (n2 : Nat) (see2 : Nat) (tm2 : Nat) (g2 : Nat → Int32) (ff2 : Nat → Int32) (fp2 : Nat → Int32) (fl2 : Nat → Int32) (on0 : Nat → Int32) (sr0 : Nat → Int32) (en0 : Nat → Int32) (on1 : Nat → Int32) (sr1 : Nat → Int32) (en1 : Nat → Int32) (on2 : Nat → Int32) (sr2 : Nat → Int32) (en2 : Nat → Int32) (cc : Nat) (rz : Nat) (ro : Int32) (sd : Int32) (p0 : Int32) (p1 : Int32) (p2 : Int32) (fr : Nat → Int32) (hn0 : n0 ≤ 24) (hse0 : see0 ≤ 2) (htm0 : tm0 ≤ 3) (hn1 : n1 ≤ 24) (hse1 : see1 ≤ 2) (htm1 : tm1 ≤ 3) (hn2 : n2 ≤ 24) (hse2 : see2 ≤ 2) (htm2 : tm2 ≤ 3) (hlt : ltP (d3 fl0 fl1 fl2) (d3 (sdX n0 see0 tm0 g0 ff0 fp0) (sdX n1 see1 tm1 g1 ff1 fp1) (sdX n2 see2 tm2 g2 ff2 fp2))) (hwy : wy3 (d3 (sdX n0 see0 tm0 g0 ff0 fp0) (sdX n1 see1 tm1 g1 ff1 fp1) (sdX n2 see2 tm2 g2 ff2 fp2)) (d3 on0 on1 on2) (d3 sr0 sr1 sr2) (d3 en0 en1 en2)) (hrz : rz ≤ 24) (hro : ro = nI (rowN fr rz)) : CRi l D k st lo yX7_judge cX7_judge 5 (some .int) ({ frames := 4, cells := 0, slots := 0, locals := 109 }) [.ref (a 0), .int p0, .int p1, .int p2] [((a 0), .inr (7, (fX7 (a 1) (a 3) (a 19) (a 35) (a 40) (nI rk) lfa (a 53) (a 56) (a 63) (a 64) (a 68)))), ((a 3), .inl (k 3, 3, .inr (.inr (.inr (.inr (a3 (a 4) (a 9) (a 14))))))), ((a 19), .inl (k 4, 3, .inr (.inr (.inr (.inr (a3 (a 20) (a 25) (a 30))))))), ((a 4), .inr (5, (fX5 (a 5) (a 6) (a 7) (a 8)))), (aI k (a 5) 10 (vv n0 see0 tm0 g0)), (aI k (a 6) 24 ff0), (aI k (a 7) 24 fp0), (aI k (a 8) 4 fl0), ((a 9), .inr (5, (fX5 (a 10) (a 11) (a 12) (a 13)))), (aI k (a 10) 10 (vv n1 see1 tm1 g1)), (aI k (a 11) 24 ff1), (aI k (a 12) 24 fp1), (aI k (a 13) 4 fl1), ((a 14), .inr (5, (fX5 (a 15) (a 16) (a 17) (a 18)))), (aI k (a 15) 10 (vv n2 see2 tm2 g2)), (aI k (a 16) 24 ff2), (aI k (a 17) 24 fp2), (aI k (a 18) 4 fl2), ((a 20), .inr (0, (fX0 (a 4) (a 21) (a 22) (a 23) (a 24)))), (aI k (a 21) 768 on0), (aI k (a 22) 4 sr0), (aI k (a 23) 4 en0), ((a 25), .inr (0, (fX0 (a 9) (a 26) (a 27) (a 28) (a 29)))), (aI k (a 26) 768 on1), (aI k (a 27) 4 sr1), (aI k (a 28) 4 en1), ((a 30), .inr (0, (fX0 (a 14) (a 31) (a 32) (a 33) (a 34)))), (aI k (a 31) 768 on2), (aI k (a 32) 4 sr2), (aI k (a 33) 4 en2), ((a 53), .inr (4, (fX4 (a 54) (a 55) (nI cc) (nI rz) ro sd)))] (fun r => tqP (d3 (sdX n0 see0 tm0 g0 ff0 fp0) (sdX n1 see1 tm1 g1 ff1 fp1) (sdX n2 see2 tm2 g2 ff2 fp2)) p0 (jdA p1 p2 fr rz) r) := by
  intro sz
  refine Met.ofW (cc := cX7_judge) (maxL := 5) (ret := (some .int)) (by decide) rfl ?_
  intro p e s m args below meth c s₁ B hml hv
  obtain ⟨rfl, hsz, hlo, hP, hK, hDL, hZ⟩ := hv
  have hx := B.exec
  have hb := B.bytes
  have hr := B.returns
  have hts := WS_ts B.pre
  have hown : s.vm.findClass RX7 = some m.cls := findClass_of_methodNamed B.named
  have hlocks := B.notSynchronized
  subst hsz
  have hA : ∀ q : Nat, s.heap.size ≤ q → (fun q : Nat => s.heap.size ≤ q) q := fun _ h => h
  have hAlo : ∀ q : Nat, (fun q : Nat => s.heap.size ≤ q) q → lo ≤ q := fun q h => Nat.le_trans hlo h
  have hS : va_S (fun q : Nat => s.heap.size ≤ q) s.heap s.heap [] := va_S.rf
  have hl := lv_entry ([.ref (a 0), .int p0, .int p1, .int p2]) (n := 5) (Nat.le_of_ble_eq_true rfl)
  rw [lg_entry_eq]
  generalize (lg_sl ([.ref (a 0), .int p0, .int p1, .int p2]) ++ List.replicate (5 - (lg_sl ([.ref (a 0), .int p0, .int p1, .int p2])).length) Slot.unset).toArray = ls at hl ⊢
  have hl : lv_has ls 5 [(0, .ref (a 0)), (1, .int p0), (2, .int p1), (3, .int p2)] := hl
  refine lv_aload_n hx hb dX7_judge_0 rfl (lv_at hl 0 rfl) ?_
  refine lv_iload_n hx hb dX7_judge_1 rfl (lv_at hl 1 rfl) ?_
  refine ro_i (D := D) (va_runV (As := [.int p0]) (rest := []) ⟨hx, hb, hml, hown, hts⟩ ((y_isStreet l D k st lo a rk lfa n0 see0 tm0 g0 n1 see1 tm1 g1 n2 see2 tm2 g2 p0 (by first | assumption | omega) (by first | assumption | omega) (by first | assumption | omega)) s.heap.size) (cwV 1 hts (gV tw_589 tw_591 tw_8 tw_79 tw_592) rfl rfl rfl (by decide +kernel) ⟨Nat.le_of_ble_eq_true rfl, Nat.le_of_ble_eq_true rfl⟩) (pV hS hAlo hlo hP hK hDL hZ [0, 1, 3, 4, 8, 9, 13, 14] (by decide) rfl (ci := 7) (q := (RX7, TX7, 12)) (q0 := 0) rfl rfl) rfl rfl hl.1 rfl (lv_room (Nat.le_of_ble_eq_true rfl)) dX7_judge_2 ⟨Nat.le_of_ble_eq_true rfl, Nat.le_of_ble_eq_true rfl⟩) hS hA hP (fun r_1 H locs hw_1 hP hS => ?_)
  try dsimp only at hw_1
  rcases hw_1 with ⟨rfl, ⟨rfl, hw_1⟩ | ⟨rfl, hw_1⟩ | ⟨rfl, hw_1⟩⟩ | ⟨rfl, hw_1⟩
  · refine lv_if_ne (tgt := 12) hx hb dX7_judge_5 (by decide) (fun _ => ?_) (fun h => absurd h (by decide))
    refine lv_aload_n hx hb dX7_judge_12 rfl (lv_at hl 0 rfl) ?_
    refine lv_iload_n hx hb dX7_judge_13 rfl (lv_at hl 1 rfl) ?_
    refine lv_iload_n hx hb dX7_judge_14 rfl (lv_at hl 2 rfl) ?_
    refine ro_i (D := D) (va_runV (As := [.int 0, .int p1]) (rest := []) ⟨hx, hb, hml, hown, hts⟩ ((y_isRound_0 l D k st lo a rk lfa n0 see0 tm0 g0 p1 (by first | assumption | omega)) H.size) (cwV 2 hts (gV tw_613 tw_615 tw_10 tw_79 tw_616) rfl rfl rfl (by decide +kernel) ⟨Nat.le_of_ble_eq_true rfl, Nat.le_of_ble_eq_true rfl⟩) (pV hS hAlo hlo hP hK hDL hZ [0, 1, 3, 4] (by decide) rfl (ci := 7) (q := (RX7, TX7, 12)) (q0 := 0) rfl rfl) rfl rfl hl.1 rfl (lv_room (Nat.le_of_ble_eq_true rfl)) dX7_judge_15 ⟨Nat.le_of_ble_eq_true rfl, Nat.le_of_ble_eq_true rfl⟩) hS hA hP (fun r_2 H locs hw_2 hP hS => ?_)
    try dsimp only at hw_2
    rcases hw_2 with ⟨rfl, ir_3, hir_3, rfl⟩ | ⟨rfl, hw_2⟩
    · refine lv_if_ne (tgt := 25) hx hb dX7_judge_18 (by decide) (fun _ => ?_) (fun h => absurd h (by decide))
      rcases Nat.eq_zero_or_pos rz with rfl | hz_9
      · refine lv_aload_n hx hb dX7_judge_25 rfl (lv_at hl 0 rfl) ?_
        refine va_get (D := D) (ci := 7) (v := .ref (a 53)) (C := RX7) (T := TX7) (N := 12) hx hb hts inX7 hown hK hP 0 rfl rfl 7 (by decide) (hts _ tw_312) (fun _ h9 => h9) rfl dX7_judge_26 ?_
        refine va_get (D := D) (ci := 4) (v := .int 0) (C := RX4) (T := TX4) (N := 6) hx hb hts inX4 hown hK hP 30 rfl rfl 3 (by decide) (hts _ tw_184) (fun _ h9 => h9) rfl dX7_judge_29 ?_
        refine lv_iconst (v := 1) hx hb dX7_judge_32 (by decide) ?_
        refine lv_isub hx hb dX7_judge_33 ?_
        refine lv_ti (y := (-1)) (by decide) ?_
        refine lv_istore (lv' := [(4, .int (-1)), (0, .ref (a 0)), (1, .int 0), (2, .int (nI ir_3)), (3, .int p2)]) hx hb dX7_judge_34 hl (by decide) rfl (fun ls hl => ?_)
        refine lv_iload hx hb dX7_judge_36 (lv_at hl 0 rfl) ?_
        refine lv_if_lt (tgt := 71) hx hb dX7_judge_38 (by decide) (fun _ => ?_) (fun h => absurd (by decide) h)
        refine lv_sipush (v := (-1003)) hx hb dX7_judge_71 (by decide) ?_
        exact W.iret (v := (-1003)) hx hb hr (fun t ht hW => ⟨⟨(-1003), (), rfl, tq_at (s := 0) (by omega) (show 0 < n0 by omega) (show jdA (nI ir_3) p2 fr 0 (sdX n0 see0 tm0 g0 ff0 fp0) _ from jd_n (by rw [rdX]; exact inr (by omega) (by omega)) (.inl rfl)), trivial⟩, hS.F ht⟩) hS.2.2 dX7_judge_74
      · refine lv_aload_n hx hb dX7_judge_25 rfl (lv_at hl 0 rfl) ?_
        refine va_get (D := D) (ci := 7) (v := .ref (a 53)) (C := RX7) (T := TX7) (N := 12) hx hb hts inX7 hown hK hP 0 rfl rfl 7 (by decide) (hts _ tw_312) (fun _ h9 => h9) rfl dX7_judge_26 ?_
        refine va_get (D := D) (ci := 4) (v := .int (nI rz)) (C := RX4) (T := TX4) (N := 6) hx hb hts inX4 hown hK hP 30 rfl rfl 3 (by decide) (hts _ tw_184) (fun _ h9 => h9) rfl dX7_judge_29 ?_
        refine lv_iconst (v := 1) hx hb dX7_judge_32 (by decide) ?_
        refine lv_isub hx hb dX7_judge_33 ?_
        refine lv_ti (y := (nI (rz - 1))) (pk_sub (a := rz) (b := 1) (by omega)) ?_
        refine lv_istore (lv' := [(4, .int (nI (rz - 1))), (0, .ref (a 0)), (1, .int 0), (2, .int (nI ir_3)), (3, .int p2)]) hx hb dX7_judge_34 hl (by decide) rfl (fun ls hl => ?_)
        refine lv_iload hx hb dX7_judge_36 (lv_at hl 0 rfl) ?_
        refine lv_if_lt (tgt := 71) hx hb dX7_judge_38 (by decide) (fun h => absurd h (nI_pos0 (by omega))) (fun _ => ?_)
        refine lv_iload hx hb dX7_judge_41 (lv_at hl 0 rfl) ?_
        refine lv_aload_n hx hb dX7_judge_43 rfl (lv_at hl 1 rfl) ?_
        refine va_get (D := D) (ci := 7) (v := .ref (a 3)) (C := RX7) (T := TX7) (N := 12) hx hb hts inX7 hown hK hP 0 rfl rfl 1 (by decide) (hts _ tw_306) (fun _ h9 => h9) rfl dX7_judge_44 ?_
        refine lv_iload_n hx hb dX7_judge_47 rfl (lv_at hl 2 rfl) ?_
        refine va_aldq hx hb hK hP 1 3 rfl rfl (by unfold vp_in; decide) dX7_judge_48 ?_
        refine lv_tr (y := .ref (a 4)) rfl ?_
        refine ro_i (D := D) (va_runV (As := []) (rest := [.int (nI (rz - 1))]) ⟨hx, hb, hml, hown, hts⟩ ((x_doors l D k st lo (a 4) (a 5) (a 6) (a 7) (a 8) n0 see0 tm0 g0) H.size) (cwV 0 hts (gV tw_580 tw_478 tw_479 tw_81 tw_480) rfl rfl rfl (by decide +kernel) ⟨Nat.le_of_ble_eq_true rfl, Nat.le_of_ble_eq_true rfl⟩) (pV hS hAlo hlo hP hK hDL hZ [3, 4] (by decide) rfl (ci := 5) (q := (RX5, TX5, 4)) (q0 := 0) rfl rfl) rfl rfl hl.1 rfl (lv_room (Nat.le_of_ble_eq_true rfl)) dX7_judge_49 ⟨Nat.le_of_ble_eq_true rfl, Nat.le_of_ble_eq_true rfl⟩) hS hA hP (fun r_4 H locs hw_4 hP hS => ?_)
        try dsimp only at hw_4
        subst hw_4
        refine lv_icmp_ge (tgt := 71) hx hb dX7_judge_52 (by decide) (fun c_5 => ?_) (fun c_5 => ?_)
        · have c_5 := (nI_leI (a := n0) (b := (rz - 1)) (by omega) (by omega)).mp c_5
          refine lv_sipush (v := (-1003)) hx hb dX7_judge_71 (by decide) ?_
          exact W.iret (v := (-1003)) hx hb hr (fun t ht hW => ⟨⟨(-1003), (), rfl, tq_at (s := 0) (by omega) (show 0 < n0 by omega) (show jdA (nI ir_3) p2 fr rz (sdX n0 see0 tm0 g0 ff0 fp0) _ from jd_n (by rw [rdX]; exact inr (by omega) (by omega)) (.inr (.inl (show n0 < rz by omega)))), trivial⟩, hS.F ht⟩) hS.2.2 dX7_judge_74
        · have c_5 : ¬ (n0 ≤ (rz - 1)) := fun h => c_5 ((nI_leI (a := n0) (b := (rz - 1)) (by omega) (by omega)).mpr h)
          refine lv_iload_n hx hb dX7_judge_55 rfl (lv_at hl 4 rfl) ?_
          refine lv_if_eq (tgt := 75) hx hb dX7_judge_56 (by decide) (fun c_6 => ?_) (fun c_6 => ?_)
          · refine lv_aload_n hx hb dX7_judge_75 rfl (lv_at hl 1 rfl) ?_
            refine va_get (D := D) (ci := 7) (v := .ref (a 19)) (C := RX7) (T := TX7) (N := 12) hx hb hts inX7 hown hK hP 0 rfl rfl 2 (by decide) (hts _ tw_307) (fun _ h9 => h9) rfl dX7_judge_76 ?_
            refine lv_iload_n hx hb dX7_judge_79 rfl (lv_at hl 2 rfl) ?_
            refine va_aldq hx hb hK hP 2 4 rfl rfl (by unfold vp_in; decide) dX7_judge_80 ?_
            refine lv_tr (y := .ref (a 20)) rfl ?_
            refine lv_iload_n hx hb dX7_judge_81 rfl (lv_at hl 3 rfl) ?_
            refine lv_aload_n hx hb dX7_judge_82 rfl (lv_at hl 1 rfl) ?_
            refine va_get (D := D) (ci := 7) (v := .ref (a 53)) (C := RX7) (T := TX7) (N := 12) hx hb hts inX7 hown hK hP 0 rfl rfl 7 (by decide) (hts _ tw_312) (fun _ h9 => h9) rfl dX7_judge_83 ?_
            refine lv_iload_n hx hb dX7_judge_86 rfl (lv_at hl 4 rfl) ?_
            refine ro_i (D := D) (va_runV (As := [.int (nI ir_3), .ref (a 53), .int p2]) (rest := []) ⟨hx, hb, hml, hown, hts⟩ ((y_firstWrong l D k st lo (a 4) (a 5) (a 6) (a 7) (a 8) n0 see0 tm0 g0 ff0 fp0 fl0 (a 20) (a 21) (a 22) (a 23) (a 24) on0 (a 53) (a 54) (a 55) cc rz ro sd ir_3 p2 fr (by first | assumption | omega) (by first | assumption | omega) (by first | assumption | omega) hro (by first | assumption | omega) (by first | assumption | omega) (hlt 0 (by omega)) (fun i hi g hg => wo_of (d := (sdX n0 see0 tm0 g0 ff0 fp0)) (hwy 0 (by omega) (show 0 < n0 by omega)) (by rw [tmX (by omega)]; omega) (show i < n0 from hi) (by rw [seX (by omega)]; exact hg))) H.size) (cwV 3 hts (gV tw_756 tw_757 tw_758 tw_85 tw_759) rfl rfl rfl (by decide +kernel) ⟨Nat.le_of_ble_eq_true rfl, Nat.le_of_ble_eq_true rfl⟩) (pV hS hAlo hlo hP hK hDL hZ [3, 4, 5, 6, 7, 18, 19, 30] (by decide) rfl (ci := 0) (q := (RX0, TX0, 5)) (q0 := 5) rfl rfl) rfl rfl hl.1 rfl (lv_room (Nat.le_of_ble_eq_true rfl)) dX7_judge_87 ⟨Nat.le_of_ble_eq_true rfl, Nat.le_of_ble_eq_true rfl⟩) hS hA hP (fun r_7 H locs hw_7 hP hS => ?_)
            try dsimp only at hw_7
            exact W.iret (v := r_7) hx hb hr (fun t ht hW => ⟨⟨r_7, (), rfl, tq_at (s := 0) (by omega) (show 0 < n0 by omega) (show jdA (nI ir_3) p2 fr rz (sdX n0 see0 tm0 g0 ff0 fp0) _ from jd_i (by omega) (by rw [rdX]; exact inr (by omega) (by omega)) (not3 (show ¬ rz = 0 by omega) (show ¬ n0 < rz by omega) (fun q => q.1 c_6)) hw_7), trivial⟩, hS.F ht⟩) hS.2.2 dX7_judge_90
          · refine lv_aload_n hx hb dX7_judge_59 rfl (lv_at hl 1 rfl) ?_
            refine va_get (D := D) (ci := 7) (v := .ref (a 53)) (C := RX7) (T := TX7) (N := 12) hx hb hts inX7 hown hK hP 0 rfl rfl 7 (by decide) (hts _ tw_312) (fun _ h9 => h9) rfl dX7_judge_60 ?_
            refine lv_iload hx hb dX7_judge_63 (lv_at hl 0 rfl) ?_
            refine ro_i (D := D) (va_runV (As := [.int (nI (rz - 1))]) (rest := []) ⟨hx, hb, hml, hown, hts⟩ ((y_sawFree l D k st lo (a 53) (a 54) (a 55) cc rz ro sd (rz - 1) fr hro (by first | assumption | omega) (by first | assumption | omega)) H.size) (cwV 1 hts (gV tw_752 tw_753 tw_754 tw_82 tw_755) rfl rfl rfl (by decide +kernel) ⟨Nat.le_of_ble_eq_true rfl, Nat.le_of_ble_eq_true rfl⟩) (pV hS hAlo hlo hP hK hDL hZ [30] (by decide) rfl (ci := 4) (q := (RX4, TX4, 6)) (q0 := 0) rfl rfl) rfl rfl hl.1 rfl (lv_room (Nat.le_of_ble_eq_true rfl)) dX7_judge_65 ⟨Nat.le_of_ble_eq_true rfl, Nat.le_of_ble_eq_true rfl⟩) hS hA hP (fun r_8 H locs hw_8 hP hS => ?_)
            try dsimp only at hw_8
            rcases hw_8 with ⟨rfl, hw_8⟩ | ⟨rfl, hw_8⟩
            · refine lv_if_ne (tgt := 75) hx hb dX7_judge_68 (by decide) (fun _ => ?_) (fun h => absurd h (by decide))
              refine lv_aload_n hx hb dX7_judge_75 rfl (lv_at hl 1 rfl) ?_
              refine va_get (D := D) (ci := 7) (v := .ref (a 19)) (C := RX7) (T := TX7) (N := 12) hx hb hts inX7 hown hK hP 0 rfl rfl 2 (by decide) (hts _ tw_307) (fun _ h9 => h9) rfl dX7_judge_76 ?_
              refine lv_iload_n hx hb dX7_judge_79 rfl (lv_at hl 2 rfl) ?_
              refine va_aldq hx hb hK hP 2 4 rfl rfl (by unfold vp_in; decide) dX7_judge_80 ?_
              refine lv_tr (y := .ref (a 20)) rfl ?_
              refine lv_iload_n hx hb dX7_judge_81 rfl (lv_at hl 3 rfl) ?_
              refine lv_aload_n hx hb dX7_judge_82 rfl (lv_at hl 1 rfl) ?_
              refine va_get (D := D) (ci := 7) (v := .ref (a 53)) (C := RX7) (T := TX7) (N := 12) hx hb hts inX7 hown hK hP 0 rfl rfl 7 (by decide) (hts _ tw_312) (fun _ h9 => h9) rfl dX7_judge_83 ?_
              refine lv_iload_n hx hb dX7_judge_86 rfl (lv_at hl 4 rfl) ?_
              refine ro_i (D := D) (va_runV (As := [.int (nI ir_3), .ref (a 53), .int p2]) (rest := []) ⟨hx, hb, hml, hown, hts⟩ ((y_firstWrong l D k st lo (a 4) (a 5) (a 6) (a 7) (a 8) n0 see0 tm0 g0 ff0 fp0 fl0 (a 20) (a 21) (a 22) (a 23) (a 24) on0 (a 53) (a 54) (a 55) cc rz ro sd ir_3 p2 fr (by first | assumption | omega) (by first | assumption | omega) (by first | assumption | omega) hro (by first | assumption | omega) (by first | assumption | omega) (hlt 0 (by omega)) (fun i hi g hg => wo_of (d := (sdX n0 see0 tm0 g0 ff0 fp0)) (hwy 0 (by omega) (show 0 < n0 by omega)) (by rw [tmX (by omega)]; omega) (show i < n0 from hi) (by rw [seX (by omega)]; exact hg))) H.size) (cwV 3 hts (gV tw_756 tw_757 tw_758 tw_85 tw_759) rfl rfl rfl (by decide +kernel) ⟨Nat.le_of_ble_eq_true rfl, Nat.le_of_ble_eq_true rfl⟩) (pV hS hAlo hlo hP hK hDL hZ [3, 4, 5, 6, 7, 18, 19, 30] (by decide) rfl (ci := 0) (q := (RX0, TX0, 5)) (q0 := 5) rfl rfl) rfl rfl hl.1 rfl (lv_room (Nat.le_of_ble_eq_true rfl)) dX7_judge_87 ⟨Nat.le_of_ble_eq_true rfl, Nat.le_of_ble_eq_true rfl⟩) hS hA hP (fun r_9 H locs hw_9 hP hS => ?_)
              try dsimp only at hw_9
              exact W.iret (v := r_9) hx hb hr (fun t ht hW => ⟨⟨r_9, (), rfl, tq_at (s := 0) (by omega) (show 0 < n0 by omega) (show jdA (nI ir_3) p2 fr rz (sdX n0 see0 tm0 g0 ff0 fp0) _ from jd_i (by omega) (by rw [rdX]; exact inr (by omega) (by omega)) (not3 (show ¬ rz = 0 by omega) (show ¬ n0 < rz by omega) (fun q => q.2 hw_8)) hw_9), trivial⟩, hS.F ht⟩) hS.2.2 dX7_judge_90
            · refine lv_if_ne (tgt := 75) hx hb dX7_judge_68 (by decide) (fun h => absurd (by decide) h) (fun _ => ?_)
              refine lv_sipush (v := (-1003)) hx hb dX7_judge_71 (by decide) ?_
              exact W.iret (v := (-1003)) hx hb hr (fun t ht hW => ⟨⟨(-1003), (), rfl, tq_at (s := 0) (by omega) (show 0 < n0 by omega) (show jdA (nI ir_3) p2 fr rz (sdX n0 see0 tm0 g0 ff0 fp0) _ from jd_n (by rw [rdX]; exact inr (by omega) (by omega)) (.inr (.inr ⟨c_6, hw_8⟩))), trivial⟩, hS.F ht⟩) hS.2.2 dX7_judge_74
    · refine lv_if_ne (tgt := 25) hx hb dX7_judge_18 (by decide) (fun h => absurd (by decide) h) (fun _ => ?_)
      refine lv_sipush (v := (-1002)) hx hb dX7_judge_21 (by decide) ?_
      exact W.iret (v := (-1002)) hx hb hr (fun t ht hW => ⟨⟨(-1002), (), rfl, tq_at (s := 0) (by omega) (show 0 < n0 by omega) (show jdA p1 p2 fr rz (sdX n0 see0 tm0 g0 ff0 fp0) _ from jd_o (by rw [rdX]; exact hw_2)), trivial⟩, hS.F ht⟩) hS.2.2 dX7_judge_24
  · refine lv_if_ne (tgt := 12) hx hb dX7_judge_5 (by decide) (fun _ => ?_) (fun h => absurd h (by decide))
    refine lv_aload_n hx hb dX7_judge_12 rfl (lv_at hl 0 rfl) ?_
    refine lv_iload_n hx hb dX7_judge_13 rfl (lv_at hl 1 rfl) ?_
    refine lv_iload_n hx hb dX7_judge_14 rfl (lv_at hl 2 rfl) ?_
    refine ro_i (D := D) (va_runV (As := [.int 1, .int p1]) (rest := []) ⟨hx, hb, hml, hown, hts⟩ ((y_isRound_1 l D k st lo a rk lfa n1 see1 tm1 g1 p1 (by first | assumption | omega)) H.size) (cwV 2 hts (gV tw_613 tw_615 tw_10 tw_79 tw_616) rfl rfl rfl (by decide +kernel) ⟨Nat.le_of_ble_eq_true rfl, Nat.le_of_ble_eq_true rfl⟩) (pV hS hAlo hlo hP hK hDL hZ [0, 1, 8, 9] (by decide) rfl (ci := 7) (q := (RX7, TX7, 12)) (q0 := 0) rfl rfl) rfl rfl hl.1 rfl (lv_room (Nat.le_of_ble_eq_true rfl)) dX7_judge_15 ⟨Nat.le_of_ble_eq_true rfl, Nat.le_of_ble_eq_true rfl⟩) hS hA hP (fun r_10 H locs hw_10 hP hS => ?_)
    try dsimp only at hw_10
    rcases hw_10 with ⟨rfl, ir_11, hir_11, rfl⟩ | ⟨rfl, hw_10⟩
    · refine lv_if_ne (tgt := 25) hx hb dX7_judge_18 (by decide) (fun _ => ?_) (fun h => absurd h (by decide))
      rcases Nat.eq_zero_or_pos rz with rfl | hz_9
      · refine lv_aload_n hx hb dX7_judge_25 rfl (lv_at hl 0 rfl) ?_
        refine va_get (D := D) (ci := 7) (v := .ref (a 53)) (C := RX7) (T := TX7) (N := 12) hx hb hts inX7 hown hK hP 0 rfl rfl 7 (by decide) (hts _ tw_312) (fun _ h9 => h9) rfl dX7_judge_26 ?_
        refine va_get (D := D) (ci := 4) (v := .int 0) (C := RX4) (T := TX4) (N := 6) hx hb hts inX4 hown hK hP 30 rfl rfl 3 (by decide) (hts _ tw_184) (fun _ h9 => h9) rfl dX7_judge_29 ?_
        refine lv_iconst (v := 1) hx hb dX7_judge_32 (by decide) ?_
        refine lv_isub hx hb dX7_judge_33 ?_
        refine lv_ti (y := (-1)) (by decide) ?_
        refine lv_istore (lv' := [(4, .int (-1)), (0, .ref (a 0)), (1, .int 1), (2, .int (nI ir_11)), (3, .int p2)]) hx hb dX7_judge_34 hl (by decide) rfl (fun ls hl => ?_)
        refine lv_iload hx hb dX7_judge_36 (lv_at hl 0 rfl) ?_
        refine lv_if_lt (tgt := 71) hx hb dX7_judge_38 (by decide) (fun _ => ?_) (fun h => absurd (by decide) h)
        refine lv_sipush (v := (-1003)) hx hb dX7_judge_71 (by decide) ?_
        exact W.iret (v := (-1003)) hx hb hr (fun t ht hW => ⟨⟨(-1003), (), rfl, tq_at (s := 1) (by omega) (show 0 < n1 by omega) (show jdA (nI ir_11) p2 fr 0 (sdX n1 see1 tm1 g1 ff1 fp1) _ from jd_n (by rw [rdX]; exact inr (by omega) (by omega)) (.inl rfl)), trivial⟩, hS.F ht⟩) hS.2.2 dX7_judge_74
      · refine lv_aload_n hx hb dX7_judge_25 rfl (lv_at hl 0 rfl) ?_
        refine va_get (D := D) (ci := 7) (v := .ref (a 53)) (C := RX7) (T := TX7) (N := 12) hx hb hts inX7 hown hK hP 0 rfl rfl 7 (by decide) (hts _ tw_312) (fun _ h9 => h9) rfl dX7_judge_26 ?_
        refine va_get (D := D) (ci := 4) (v := .int (nI rz)) (C := RX4) (T := TX4) (N := 6) hx hb hts inX4 hown hK hP 30 rfl rfl 3 (by decide) (hts _ tw_184) (fun _ h9 => h9) rfl dX7_judge_29 ?_
        refine lv_iconst (v := 1) hx hb dX7_judge_32 (by decide) ?_
        refine lv_isub hx hb dX7_judge_33 ?_
        refine lv_ti (y := (nI (rz - 1))) (pk_sub (a := rz) (b := 1) (by omega)) ?_
        refine lv_istore (lv' := [(4, .int (nI (rz - 1))), (0, .ref (a 0)), (1, .int 1), (2, .int (nI ir_11)), (3, .int p2)]) hx hb dX7_judge_34 hl (by decide) rfl (fun ls hl => ?_)
        refine lv_iload hx hb dX7_judge_36 (lv_at hl 0 rfl) ?_
        refine lv_if_lt (tgt := 71) hx hb dX7_judge_38 (by decide) (fun h => absurd h (nI_pos0 (by omega))) (fun _ => ?_)
        refine lv_iload hx hb dX7_judge_41 (lv_at hl 0 rfl) ?_
        refine lv_aload_n hx hb dX7_judge_43 rfl (lv_at hl 1 rfl) ?_
        refine va_get (D := D) (ci := 7) (v := .ref (a 3)) (C := RX7) (T := TX7) (N := 12) hx hb hts inX7 hown hK hP 0 rfl rfl 1 (by decide) (hts _ tw_306) (fun _ h9 => h9) rfl dX7_judge_44 ?_
        refine lv_iload_n hx hb dX7_judge_47 rfl (lv_at hl 2 rfl) ?_
        refine va_aldq hx hb hK hP 1 3 rfl rfl (by unfold vp_in; decide) dX7_judge_48 ?_
        refine lv_tr (y := .ref (a 9)) rfl ?_
        refine ro_i (D := D) (va_runV (As := []) (rest := [.int (nI (rz - 1))]) ⟨hx, hb, hml, hown, hts⟩ ((x_doors l D k st lo (a 9) (a 10) (a 11) (a 12) (a 13) n1 see1 tm1 g1) H.size) (cwV 0 hts (gV tw_580 tw_478 tw_479 tw_81 tw_480) rfl rfl rfl (by decide +kernel) ⟨Nat.le_of_ble_eq_true rfl, Nat.le_of_ble_eq_true rfl⟩) (pV hS hAlo hlo hP hK hDL hZ [8, 9] (by decide) rfl (ci := 5) (q := (RX5, TX5, 4)) (q0 := 0) rfl rfl) rfl rfl hl.1 rfl (lv_room (Nat.le_of_ble_eq_true rfl)) dX7_judge_49 ⟨Nat.le_of_ble_eq_true rfl, Nat.le_of_ble_eq_true rfl⟩) hS hA hP (fun r_12 H locs hw_12 hP hS => ?_)
        try dsimp only at hw_12
        subst hw_12
        refine lv_icmp_ge (tgt := 71) hx hb dX7_judge_52 (by decide) (fun c_13 => ?_) (fun c_13 => ?_)
        · have c_13 := (nI_leI (a := n1) (b := (rz - 1)) (by omega) (by omega)).mp c_13
          refine lv_sipush (v := (-1003)) hx hb dX7_judge_71 (by decide) ?_
          exact W.iret (v := (-1003)) hx hb hr (fun t ht hW => ⟨⟨(-1003), (), rfl, tq_at (s := 1) (by omega) (show 0 < n1 by omega) (show jdA (nI ir_11) p2 fr rz (sdX n1 see1 tm1 g1 ff1 fp1) _ from jd_n (by rw [rdX]; exact inr (by omega) (by omega)) (.inr (.inl (show n1 < rz by omega)))), trivial⟩, hS.F ht⟩) hS.2.2 dX7_judge_74
        · have c_13 : ¬ (n1 ≤ (rz - 1)) := fun h => c_13 ((nI_leI (a := n1) (b := (rz - 1)) (by omega) (by omega)).mpr h)
          refine lv_iload_n hx hb dX7_judge_55 rfl (lv_at hl 4 rfl) ?_
          refine lv_if_eq (tgt := 75) hx hb dX7_judge_56 (by decide) (fun c_14 => ?_) (fun c_14 => ?_)
          · refine lv_aload_n hx hb dX7_judge_75 rfl (lv_at hl 1 rfl) ?_
            refine va_get (D := D) (ci := 7) (v := .ref (a 19)) (C := RX7) (T := TX7) (N := 12) hx hb hts inX7 hown hK hP 0 rfl rfl 2 (by decide) (hts _ tw_307) (fun _ h9 => h9) rfl dX7_judge_76 ?_
            refine lv_iload_n hx hb dX7_judge_79 rfl (lv_at hl 2 rfl) ?_
            refine va_aldq hx hb hK hP 2 4 rfl rfl (by unfold vp_in; decide) dX7_judge_80 ?_
            refine lv_tr (y := .ref (a 25)) rfl ?_
            refine lv_iload_n hx hb dX7_judge_81 rfl (lv_at hl 3 rfl) ?_
            refine lv_aload_n hx hb dX7_judge_82 rfl (lv_at hl 1 rfl) ?_
            refine va_get (D := D) (ci := 7) (v := .ref (a 53)) (C := RX7) (T := TX7) (N := 12) hx hb hts inX7 hown hK hP 0 rfl rfl 7 (by decide) (hts _ tw_312) (fun _ h9 => h9) rfl dX7_judge_83 ?_
            refine lv_iload_n hx hb dX7_judge_86 rfl (lv_at hl 4 rfl) ?_
            refine ro_i (D := D) (va_runV (As := [.int (nI ir_11), .ref (a 53), .int p2]) (rest := []) ⟨hx, hb, hml, hown, hts⟩ ((y_firstWrong l D k st lo (a 9) (a 10) (a 11) (a 12) (a 13) n1 see1 tm1 g1 ff1 fp1 fl1 (a 25) (a 26) (a 27) (a 28) (a 29) on1 (a 53) (a 54) (a 55) cc rz ro sd ir_11 p2 fr (by first | assumption | omega) (by first | assumption | omega) (by first | assumption | omega) hro (by first | assumption | omega) (by first | assumption | omega) (hlt 1 (by omega)) (fun i hi g hg => wo_of (d := (sdX n1 see1 tm1 g1 ff1 fp1)) (hwy 1 (by omega) (show 0 < n1 by omega)) (by rw [tmX (by omega)]; omega) (show i < n1 from hi) (by rw [seX (by omega)]; exact hg))) H.size) (cwV 3 hts (gV tw_756 tw_757 tw_758 tw_85 tw_759) rfl rfl rfl (by decide +kernel) ⟨Nat.le_of_ble_eq_true rfl, Nat.le_of_ble_eq_true rfl⟩) (pV hS hAlo hlo hP hK hDL hZ [8, 9, 10, 11, 12, 22, 23, 30] (by decide) rfl (ci := 0) (q := (RX0, TX0, 5)) (q0 := 5) rfl rfl) rfl rfl hl.1 rfl (lv_room (Nat.le_of_ble_eq_true rfl)) dX7_judge_87 ⟨Nat.le_of_ble_eq_true rfl, Nat.le_of_ble_eq_true rfl⟩) hS hA hP (fun r_15 H locs hw_15 hP hS => ?_)
            try dsimp only at hw_15
            exact W.iret (v := r_15) hx hb hr (fun t ht hW => ⟨⟨r_15, (), rfl, tq_at (s := 1) (by omega) (show 0 < n1 by omega) (show jdA (nI ir_11) p2 fr rz (sdX n1 see1 tm1 g1 ff1 fp1) _ from jd_i (by omega) (by rw [rdX]; exact inr (by omega) (by omega)) (not3 (show ¬ rz = 0 by omega) (show ¬ n1 < rz by omega) (fun q => q.1 c_14)) hw_15), trivial⟩, hS.F ht⟩) hS.2.2 dX7_judge_90
          · refine lv_aload_n hx hb dX7_judge_59 rfl (lv_at hl 1 rfl) ?_
            refine va_get (D := D) (ci := 7) (v := .ref (a 53)) (C := RX7) (T := TX7) (N := 12) hx hb hts inX7 hown hK hP 0 rfl rfl 7 (by decide) (hts _ tw_312) (fun _ h9 => h9) rfl dX7_judge_60 ?_
            refine lv_iload hx hb dX7_judge_63 (lv_at hl 0 rfl) ?_
            refine ro_i (D := D) (va_runV (As := [.int (nI (rz - 1))]) (rest := []) ⟨hx, hb, hml, hown, hts⟩ ((y_sawFree l D k st lo (a 53) (a 54) (a 55) cc rz ro sd (rz - 1) fr hro (by first | assumption | omega) (by first | assumption | omega)) H.size) (cwV 1 hts (gV tw_752 tw_753 tw_754 tw_82 tw_755) rfl rfl rfl (by decide +kernel) ⟨Nat.le_of_ble_eq_true rfl, Nat.le_of_ble_eq_true rfl⟩) (pV hS hAlo hlo hP hK hDL hZ [30] (by decide) rfl (ci := 4) (q := (RX4, TX4, 6)) (q0 := 0) rfl rfl) rfl rfl hl.1 rfl (lv_room (Nat.le_of_ble_eq_true rfl)) dX7_judge_65 ⟨Nat.le_of_ble_eq_true rfl, Nat.le_of_ble_eq_true rfl⟩) hS hA hP (fun r_16 H locs hw_16 hP hS => ?_)
            try dsimp only at hw_16
            rcases hw_16 with ⟨rfl, hw_16⟩ | ⟨rfl, hw_16⟩
            · refine lv_if_ne (tgt := 75) hx hb dX7_judge_68 (by decide) (fun _ => ?_) (fun h => absurd h (by decide))
              refine lv_aload_n hx hb dX7_judge_75 rfl (lv_at hl 1 rfl) ?_
              refine va_get (D := D) (ci := 7) (v := .ref (a 19)) (C := RX7) (T := TX7) (N := 12) hx hb hts inX7 hown hK hP 0 rfl rfl 2 (by decide) (hts _ tw_307) (fun _ h9 => h9) rfl dX7_judge_76 ?_
              refine lv_iload_n hx hb dX7_judge_79 rfl (lv_at hl 2 rfl) ?_
              refine va_aldq hx hb hK hP 2 4 rfl rfl (by unfold vp_in; decide) dX7_judge_80 ?_
              refine lv_tr (y := .ref (a 25)) rfl ?_
              refine lv_iload_n hx hb dX7_judge_81 rfl (lv_at hl 3 rfl) ?_
              refine lv_aload_n hx hb dX7_judge_82 rfl (lv_at hl 1 rfl) ?_
              refine va_get (D := D) (ci := 7) (v := .ref (a 53)) (C := RX7) (T := TX7) (N := 12) hx hb hts inX7 hown hK hP 0 rfl rfl 7 (by decide) (hts _ tw_312) (fun _ h9 => h9) rfl dX7_judge_83 ?_
              refine lv_iload_n hx hb dX7_judge_86 rfl (lv_at hl 4 rfl) ?_
              refine ro_i (D := D) (va_runV (As := [.int (nI ir_11), .ref (a 53), .int p2]) (rest := []) ⟨hx, hb, hml, hown, hts⟩ ((y_firstWrong l D k st lo (a 9) (a 10) (a 11) (a 12) (a 13) n1 see1 tm1 g1 ff1 fp1 fl1 (a 25) (a 26) (a 27) (a 28) (a 29) on1 (a 53) (a 54) (a 55) cc rz ro sd ir_11 p2 fr (by first | assumption | omega) (by first | assumption | omega) (by first | assumption | omega) hro (by first | assumption | omega) (by first | assumption | omega) (hlt 1 (by omega)) (fun i hi g hg => wo_of (d := (sdX n1 see1 tm1 g1 ff1 fp1)) (hwy 1 (by omega) (show 0 < n1 by omega)) (by rw [tmX (by omega)]; omega) (show i < n1 from hi) (by rw [seX (by omega)]; exact hg))) H.size) (cwV 3 hts (gV tw_756 tw_757 tw_758 tw_85 tw_759) rfl rfl rfl (by decide +kernel) ⟨Nat.le_of_ble_eq_true rfl, Nat.le_of_ble_eq_true rfl⟩) (pV hS hAlo hlo hP hK hDL hZ [8, 9, 10, 11, 12, 22, 23, 30] (by decide) rfl (ci := 0) (q := (RX0, TX0, 5)) (q0 := 5) rfl rfl) rfl rfl hl.1 rfl (lv_room (Nat.le_of_ble_eq_true rfl)) dX7_judge_87 ⟨Nat.le_of_ble_eq_true rfl, Nat.le_of_ble_eq_true rfl⟩) hS hA hP (fun r_17 H locs hw_17 hP hS => ?_)
              try dsimp only at hw_17
              exact W.iret (v := r_17) hx hb hr (fun t ht hW => ⟨⟨r_17, (), rfl, tq_at (s := 1) (by omega) (show 0 < n1 by omega) (show jdA (nI ir_11) p2 fr rz (sdX n1 see1 tm1 g1 ff1 fp1) _ from jd_i (by omega) (by rw [rdX]; exact inr (by omega) (by omega)) (not3 (show ¬ rz = 0 by omega) (show ¬ n1 < rz by omega) (fun q => q.2 hw_16)) hw_17), trivial⟩, hS.F ht⟩) hS.2.2 dX7_judge_90
            · refine lv_if_ne (tgt := 75) hx hb dX7_judge_68 (by decide) (fun h => absurd (by decide) h) (fun _ => ?_)
              refine lv_sipush (v := (-1003)) hx hb dX7_judge_71 (by decide) ?_
              exact W.iret (v := (-1003)) hx hb hr (fun t ht hW => ⟨⟨(-1003), (), rfl, tq_at (s := 1) (by omega) (show 0 < n1 by omega) (show jdA (nI ir_11) p2 fr rz (sdX n1 see1 tm1 g1 ff1 fp1) _ from jd_n (by rw [rdX]; exact inr (by omega) (by omega)) (.inr (.inr ⟨c_14, hw_16⟩))), trivial⟩, hS.F ht⟩) hS.2.2 dX7_judge_74
    · refine lv_if_ne (tgt := 25) hx hb dX7_judge_18 (by decide) (fun h => absurd (by decide) h) (fun _ => ?_)
      refine lv_sipush (v := (-1002)) hx hb dX7_judge_21 (by decide) ?_
      exact W.iret (v := (-1002)) hx hb hr (fun t ht hW => ⟨⟨(-1002), (), rfl, tq_at (s := 1) (by omega) (show 0 < n1 by omega) (show jdA p1 p2 fr rz (sdX n1 see1 tm1 g1 ff1 fp1) _ from jd_o (by rw [rdX]; exact hw_10)), trivial⟩, hS.F ht⟩) hS.2.2 dX7_judge_24
  · refine lv_if_ne (tgt := 12) hx hb dX7_judge_5 (by decide) (fun _ => ?_) (fun h => absurd h (by decide))
    refine lv_aload_n hx hb dX7_judge_12 rfl (lv_at hl 0 rfl) ?_
    refine lv_iload_n hx hb dX7_judge_13 rfl (lv_at hl 1 rfl) ?_
    refine lv_iload_n hx hb dX7_judge_14 rfl (lv_at hl 2 rfl) ?_
    refine ro_i (D := D) (va_runV (As := [.int 2, .int p1]) (rest := []) ⟨hx, hb, hml, hown, hts⟩ ((y_isRound_2 l D k st lo a rk lfa n2 see2 tm2 g2 p1 (by first | assumption | omega)) H.size) (cwV 2 hts (gV tw_613 tw_615 tw_10 tw_79 tw_616) rfl rfl rfl (by decide +kernel) ⟨Nat.le_of_ble_eq_true rfl, Nat.le_of_ble_eq_true rfl⟩) (pV hS hAlo hlo hP hK hDL hZ [0, 1, 13, 14] (by decide) rfl (ci := 7) (q := (RX7, TX7, 12)) (q0 := 0) rfl rfl) rfl rfl hl.1 rfl (lv_room (Nat.le_of_ble_eq_true rfl)) dX7_judge_15 ⟨Nat.le_of_ble_eq_true rfl, Nat.le_of_ble_eq_true rfl⟩) hS hA hP (fun r_18 H locs hw_18 hP hS => ?_)
    try dsimp only at hw_18
    rcases hw_18 with ⟨rfl, ir_19, hir_19, rfl⟩ | ⟨rfl, hw_18⟩
    · refine lv_if_ne (tgt := 25) hx hb dX7_judge_18 (by decide) (fun _ => ?_) (fun h => absurd h (by decide))
      rcases Nat.eq_zero_or_pos rz with rfl | hz_9
      · refine lv_aload_n hx hb dX7_judge_25 rfl (lv_at hl 0 rfl) ?_
        refine va_get (D := D) (ci := 7) (v := .ref (a 53)) (C := RX7) (T := TX7) (N := 12) hx hb hts inX7 hown hK hP 0 rfl rfl 7 (by decide) (hts _ tw_312) (fun _ h9 => h9) rfl dX7_judge_26 ?_
        refine va_get (D := D) (ci := 4) (v := .int 0) (C := RX4) (T := TX4) (N := 6) hx hb hts inX4 hown hK hP 30 rfl rfl 3 (by decide) (hts _ tw_184) (fun _ h9 => h9) rfl dX7_judge_29 ?_
        refine lv_iconst (v := 1) hx hb dX7_judge_32 (by decide) ?_
        refine lv_isub hx hb dX7_judge_33 ?_
        refine lv_ti (y := (-1)) (by decide) ?_
        refine lv_istore (lv' := [(4, .int (-1)), (0, .ref (a 0)), (1, .int 2), (2, .int (nI ir_19)), (3, .int p2)]) hx hb dX7_judge_34 hl (by decide) rfl (fun ls hl => ?_)
        refine lv_iload hx hb dX7_judge_36 (lv_at hl 0 rfl) ?_
        refine lv_if_lt (tgt := 71) hx hb dX7_judge_38 (by decide) (fun _ => ?_) (fun h => absurd (by decide) h)
        refine lv_sipush (v := (-1003)) hx hb dX7_judge_71 (by decide) ?_
        exact W.iret (v := (-1003)) hx hb hr (fun t ht hW => ⟨⟨(-1003), (), rfl, tq_at (s := 2) (by omega) (show 0 < n2 by omega) (show jdA (nI ir_19) p2 fr 0 (sdX n2 see2 tm2 g2 ff2 fp2) _ from jd_n (by rw [rdX]; exact inr (by omega) (by omega)) (.inl rfl)), trivial⟩, hS.F ht⟩) hS.2.2 dX7_judge_74
      · refine lv_aload_n hx hb dX7_judge_25 rfl (lv_at hl 0 rfl) ?_
        refine va_get (D := D) (ci := 7) (v := .ref (a 53)) (C := RX7) (T := TX7) (N := 12) hx hb hts inX7 hown hK hP 0 rfl rfl 7 (by decide) (hts _ tw_312) (fun _ h9 => h9) rfl dX7_judge_26 ?_
        refine va_get (D := D) (ci := 4) (v := .int (nI rz)) (C := RX4) (T := TX4) (N := 6) hx hb hts inX4 hown hK hP 30 rfl rfl 3 (by decide) (hts _ tw_184) (fun _ h9 => h9) rfl dX7_judge_29 ?_
        refine lv_iconst (v := 1) hx hb dX7_judge_32 (by decide) ?_
        refine lv_isub hx hb dX7_judge_33 ?_
        refine lv_ti (y := (nI (rz - 1))) (pk_sub (a := rz) (b := 1) (by omega)) ?_
        refine lv_istore (lv' := [(4, .int (nI (rz - 1))), (0, .ref (a 0)), (1, .int 2), (2, .int (nI ir_19)), (3, .int p2)]) hx hb dX7_judge_34 hl (by decide) rfl (fun ls hl => ?_)
        refine lv_iload hx hb dX7_judge_36 (lv_at hl 0 rfl) ?_
        refine lv_if_lt (tgt := 71) hx hb dX7_judge_38 (by decide) (fun h => absurd h (nI_pos0 (by omega))) (fun _ => ?_)
        refine lv_iload hx hb dX7_judge_41 (lv_at hl 0 rfl) ?_
        refine lv_aload_n hx hb dX7_judge_43 rfl (lv_at hl 1 rfl) ?_
        refine va_get (D := D) (ci := 7) (v := .ref (a 3)) (C := RX7) (T := TX7) (N := 12) hx hb hts inX7 hown hK hP 0 rfl rfl 1 (by decide) (hts _ tw_306) (fun _ h9 => h9) rfl dX7_judge_44 ?_
        refine lv_iload_n hx hb dX7_judge_47 rfl (lv_at hl 2 rfl) ?_
        refine va_aldq hx hb hK hP 1 3 rfl rfl (by unfold vp_in; decide) dX7_judge_48 ?_
        refine lv_tr (y := .ref (a 14)) rfl ?_
        refine ro_i (D := D) (va_runV (As := []) (rest := [.int (nI (rz - 1))]) ⟨hx, hb, hml, hown, hts⟩ ((x_doors l D k st lo (a 14) (a 15) (a 16) (a 17) (a 18) n2 see2 tm2 g2) H.size) (cwV 0 hts (gV tw_580 tw_478 tw_479 tw_81 tw_480) rfl rfl rfl (by decide +kernel) ⟨Nat.le_of_ble_eq_true rfl, Nat.le_of_ble_eq_true rfl⟩) (pV hS hAlo hlo hP hK hDL hZ [13, 14] (by decide) rfl (ci := 5) (q := (RX5, TX5, 4)) (q0 := 0) rfl rfl) rfl rfl hl.1 rfl (lv_room (Nat.le_of_ble_eq_true rfl)) dX7_judge_49 ⟨Nat.le_of_ble_eq_true rfl, Nat.le_of_ble_eq_true rfl⟩) hS hA hP (fun r_20 H locs hw_20 hP hS => ?_)
        try dsimp only at hw_20
        subst hw_20
        refine lv_icmp_ge (tgt := 71) hx hb dX7_judge_52 (by decide) (fun c_21 => ?_) (fun c_21 => ?_)
        · have c_21 := (nI_leI (a := n2) (b := (rz - 1)) (by omega) (by omega)).mp c_21
          refine lv_sipush (v := (-1003)) hx hb dX7_judge_71 (by decide) ?_
          exact W.iret (v := (-1003)) hx hb hr (fun t ht hW => ⟨⟨(-1003), (), rfl, tq_at (s := 2) (by omega) (show 0 < n2 by omega) (show jdA (nI ir_19) p2 fr rz (sdX n2 see2 tm2 g2 ff2 fp2) _ from jd_n (by rw [rdX]; exact inr (by omega) (by omega)) (.inr (.inl (show n2 < rz by omega)))), trivial⟩, hS.F ht⟩) hS.2.2 dX7_judge_74
        · have c_21 : ¬ (n2 ≤ (rz - 1)) := fun h => c_21 ((nI_leI (a := n2) (b := (rz - 1)) (by omega) (by omega)).mpr h)
          refine lv_iload_n hx hb dX7_judge_55 rfl (lv_at hl 4 rfl) ?_
          refine lv_if_eq (tgt := 75) hx hb dX7_judge_56 (by decide) (fun c_22 => ?_) (fun c_22 => ?_)
          · refine lv_aload_n hx hb dX7_judge_75 rfl (lv_at hl 1 rfl) ?_
            refine va_get (D := D) (ci := 7) (v := .ref (a 19)) (C := RX7) (T := TX7) (N := 12) hx hb hts inX7 hown hK hP 0 rfl rfl 2 (by decide) (hts _ tw_307) (fun _ h9 => h9) rfl dX7_judge_76 ?_
            refine lv_iload_n hx hb dX7_judge_79 rfl (lv_at hl 2 rfl) ?_
            refine va_aldq hx hb hK hP 2 4 rfl rfl (by unfold vp_in; decide) dX7_judge_80 ?_
            refine lv_tr (y := .ref (a 30)) rfl ?_
            refine lv_iload_n hx hb dX7_judge_81 rfl (lv_at hl 3 rfl) ?_
            refine lv_aload_n hx hb dX7_judge_82 rfl (lv_at hl 1 rfl) ?_
            refine va_get (D := D) (ci := 7) (v := .ref (a 53)) (C := RX7) (T := TX7) (N := 12) hx hb hts inX7 hown hK hP 0 rfl rfl 7 (by decide) (hts _ tw_312) (fun _ h9 => h9) rfl dX7_judge_83 ?_
            refine lv_iload_n hx hb dX7_judge_86 rfl (lv_at hl 4 rfl) ?_
            refine ro_i (D := D) (va_runV (As := [.int (nI ir_19), .ref (a 53), .int p2]) (rest := []) ⟨hx, hb, hml, hown, hts⟩ ((y_firstWrong l D k st lo (a 14) (a 15) (a 16) (a 17) (a 18) n2 see2 tm2 g2 ff2 fp2 fl2 (a 30) (a 31) (a 32) (a 33) (a 34) on2 (a 53) (a 54) (a 55) cc rz ro sd ir_19 p2 fr (by first | assumption | omega) (by first | assumption | omega) (by first | assumption | omega) hro (by first | assumption | omega) (by first | assumption | omega) (hlt 2 (by omega)) (fun i hi g hg => wo_of (d := (sdX n2 see2 tm2 g2 ff2 fp2)) (hwy 2 (by omega) (show 0 < n2 by omega)) (by rw [tmX (by omega)]; omega) (show i < n2 from hi) (by rw [seX (by omega)]; exact hg))) H.size) (cwV 3 hts (gV tw_756 tw_757 tw_758 tw_85 tw_759) rfl rfl rfl (by decide +kernel) ⟨Nat.le_of_ble_eq_true rfl, Nat.le_of_ble_eq_true rfl⟩) (pV hS hAlo hlo hP hK hDL hZ [13, 14, 15, 16, 17, 26, 27, 30] (by decide) rfl (ci := 0) (q := (RX0, TX0, 5)) (q0 := 5) rfl rfl) rfl rfl hl.1 rfl (lv_room (Nat.le_of_ble_eq_true rfl)) dX7_judge_87 ⟨Nat.le_of_ble_eq_true rfl, Nat.le_of_ble_eq_true rfl⟩) hS hA hP (fun r_23 H locs hw_23 hP hS => ?_)
            try dsimp only at hw_23
            exact W.iret (v := r_23) hx hb hr (fun t ht hW => ⟨⟨r_23, (), rfl, tq_at (s := 2) (by omega) (show 0 < n2 by omega) (show jdA (nI ir_19) p2 fr rz (sdX n2 see2 tm2 g2 ff2 fp2) _ from jd_i (by omega) (by rw [rdX]; exact inr (by omega) (by omega)) (not3 (show ¬ rz = 0 by omega) (show ¬ n2 < rz by omega) (fun q => q.1 c_22)) hw_23), trivial⟩, hS.F ht⟩) hS.2.2 dX7_judge_90
          · refine lv_aload_n hx hb dX7_judge_59 rfl (lv_at hl 1 rfl) ?_
            refine va_get (D := D) (ci := 7) (v := .ref (a 53)) (C := RX7) (T := TX7) (N := 12) hx hb hts inX7 hown hK hP 0 rfl rfl 7 (by decide) (hts _ tw_312) (fun _ h9 => h9) rfl dX7_judge_60 ?_
            refine lv_iload hx hb dX7_judge_63 (lv_at hl 0 rfl) ?_
            refine ro_i (D := D) (va_runV (As := [.int (nI (rz - 1))]) (rest := []) ⟨hx, hb, hml, hown, hts⟩ ((y_sawFree l D k st lo (a 53) (a 54) (a 55) cc rz ro sd (rz - 1) fr hro (by first | assumption | omega) (by first | assumption | omega)) H.size) (cwV 1 hts (gV tw_752 tw_753 tw_754 tw_82 tw_755) rfl rfl rfl (by decide +kernel) ⟨Nat.le_of_ble_eq_true rfl, Nat.le_of_ble_eq_true rfl⟩) (pV hS hAlo hlo hP hK hDL hZ [30] (by decide) rfl (ci := 4) (q := (RX4, TX4, 6)) (q0 := 0) rfl rfl) rfl rfl hl.1 rfl (lv_room (Nat.le_of_ble_eq_true rfl)) dX7_judge_65 ⟨Nat.le_of_ble_eq_true rfl, Nat.le_of_ble_eq_true rfl⟩) hS hA hP (fun r_24 H locs hw_24 hP hS => ?_)
            try dsimp only at hw_24
            rcases hw_24 with ⟨rfl, hw_24⟩ | ⟨rfl, hw_24⟩
            · refine lv_if_ne (tgt := 75) hx hb dX7_judge_68 (by decide) (fun _ => ?_) (fun h => absurd h (by decide))
              refine lv_aload_n hx hb dX7_judge_75 rfl (lv_at hl 1 rfl) ?_
              refine va_get (D := D) (ci := 7) (v := .ref (a 19)) (C := RX7) (T := TX7) (N := 12) hx hb hts inX7 hown hK hP 0 rfl rfl 2 (by decide) (hts _ tw_307) (fun _ h9 => h9) rfl dX7_judge_76 ?_
              refine lv_iload_n hx hb dX7_judge_79 rfl (lv_at hl 2 rfl) ?_
              refine va_aldq hx hb hK hP 2 4 rfl rfl (by unfold vp_in; decide) dX7_judge_80 ?_
              refine lv_tr (y := .ref (a 30)) rfl ?_
              refine lv_iload_n hx hb dX7_judge_81 rfl (lv_at hl 3 rfl) ?_
              refine lv_aload_n hx hb dX7_judge_82 rfl (lv_at hl 1 rfl) ?_
              refine va_get (D := D) (ci := 7) (v := .ref (a 53)) (C := RX7) (T := TX7) (N := 12) hx hb hts inX7 hown hK hP 0 rfl rfl 7 (by decide) (hts _ tw_312) (fun _ h9 => h9) rfl dX7_judge_83 ?_
              refine lv_iload_n hx hb dX7_judge_86 rfl (lv_at hl 4 rfl) ?_
              refine ro_i (D := D) (va_runV (As := [.int (nI ir_19), .ref (a 53), .int p2]) (rest := []) ⟨hx, hb, hml, hown, hts⟩ ((y_firstWrong l D k st lo (a 14) (a 15) (a 16) (a 17) (a 18) n2 see2 tm2 g2 ff2 fp2 fl2 (a 30) (a 31) (a 32) (a 33) (a 34) on2 (a 53) (a 54) (a 55) cc rz ro sd ir_19 p2 fr (by first | assumption | omega) (by first | assumption | omega) (by first | assumption | omega) hro (by first | assumption | omega) (by first | assumption | omega) (hlt 2 (by omega)) (fun i hi g hg => wo_of (d := (sdX n2 see2 tm2 g2 ff2 fp2)) (hwy 2 (by omega) (show 0 < n2 by omega)) (by rw [tmX (by omega)]; omega) (show i < n2 from hi) (by rw [seX (by omega)]; exact hg))) H.size) (cwV 3 hts (gV tw_756 tw_757 tw_758 tw_85 tw_759) rfl rfl rfl (by decide +kernel) ⟨Nat.le_of_ble_eq_true rfl, Nat.le_of_ble_eq_true rfl⟩) (pV hS hAlo hlo hP hK hDL hZ [13, 14, 15, 16, 17, 26, 27, 30] (by decide) rfl (ci := 0) (q := (RX0, TX0, 5)) (q0 := 5) rfl rfl) rfl rfl hl.1 rfl (lv_room (Nat.le_of_ble_eq_true rfl)) dX7_judge_87 ⟨Nat.le_of_ble_eq_true rfl, Nat.le_of_ble_eq_true rfl⟩) hS hA hP (fun r_25 H locs hw_25 hP hS => ?_)
              try dsimp only at hw_25
              exact W.iret (v := r_25) hx hb hr (fun t ht hW => ⟨⟨r_25, (), rfl, tq_at (s := 2) (by omega) (show 0 < n2 by omega) (show jdA (nI ir_19) p2 fr rz (sdX n2 see2 tm2 g2 ff2 fp2) _ from jd_i (by omega) (by rw [rdX]; exact inr (by omega) (by omega)) (not3 (show ¬ rz = 0 by omega) (show ¬ n2 < rz by omega) (fun q => q.2 hw_24)) hw_25), trivial⟩, hS.F ht⟩) hS.2.2 dX7_judge_90
            · refine lv_if_ne (tgt := 75) hx hb dX7_judge_68 (by decide) (fun h => absurd (by decide) h) (fun _ => ?_)
              refine lv_sipush (v := (-1003)) hx hb dX7_judge_71 (by decide) ?_
              exact W.iret (v := (-1003)) hx hb hr (fun t ht hW => ⟨⟨(-1003), (), rfl, tq_at (s := 2) (by omega) (show 0 < n2 by omega) (show jdA (nI ir_19) p2 fr rz (sdX n2 see2 tm2 g2 ff2 fp2) _ from jd_n (by rw [rdX]; exact inr (by omega) (by omega)) (.inr (.inr ⟨c_22, hw_24⟩))), trivial⟩, hS.F ht⟩) hS.2.2 dX7_judge_74
    · refine lv_if_ne (tgt := 25) hx hb dX7_judge_18 (by decide) (fun h => absurd (by decide) h) (fun _ => ?_)
      refine lv_sipush (v := (-1002)) hx hb dX7_judge_21 (by decide) ?_
      exact W.iret (v := (-1002)) hx hb hr (fun t ht hW => ⟨⟨(-1002), (), rfl, tq_at (s := 2) (by omega) (show 0 < n2 by omega) (show jdA p1 p2 fr rz (sdX n2 see2 tm2 g2 ff2 fp2) _ from jd_o (by rw [rdX]; exact hw_18)), trivial⟩, hS.F ht⟩) hS.2.2 dX7_judge_24
  · refine lv_if_ne (tgt := 12) hx hb dX7_judge_5 (by decide) (fun h => absurd (by decide) h) (fun _ => ?_)
    refine lv_sipush (v := (-1001)) hx hb dX7_judge_8 (by decide) ?_
    exact W.iret (v := (-1001)) hx hb hr (fun t ht hW => ⟨⟨(-1001), (), rfl, tq_no (fun s h1 h2 h3 => hw_1 s h1 h2 (by rw [d3_n] at h3; exact h3)), trivial⟩, hS.F ht⟩) hS.2.2 dX7_judge_11


set_option maxHeartbeats 4000000 in
set_option maxRecDepth 100000 in
theorem n_judge (l : Launch) (D : va_G) (k : Nat → ClassId) (st : Nat → Nat) (lo : Nat) (a : Nat → Nat) (tx : Nat) (t0 : Nat) (we : Nat) (rd : Nat) (ru : Nat) (rw : Nat) (ca : Nat) (fp : Int32) (wd : Int64) (nu : Int32) (na : Int32) (ts : Int32) (df : Int32) (db : Int32) (sd : Int32) (dn : Nat → Nat) (se : Nat → Nat) (tm : Nat → Nat) (gs : Nat → Int32) (ffrees : Nat → Int32) (fprices : Nat → Int32) (frow : Nat → Int32) (fons : Nat → Int32) (fworths : Nat → Int32) (fstarts : Nat → Int32) (fends : Nat → Int32) (fgoesRound : Nat → Int32) (fbegin : Nat → Int32) (p0 : Int32) (p1 : Int32) (p2 : Int32) (hdn : ∀ j, dn j ≤ 24) (hse : ∀ j, se j ≤ 2) (htm : ∀ j, tm j ≤ 3) (hrw : rw ≤ 24) (hfr : ∀ i, i < 24 → frow i = 0 ∨ frow i = 1) : CWi l D k st lo yX8_judge cX8_judge 7 (some .int) ({ frames := 6, cells := 0, slots := 0, locals := 144 }) 0 0 [.ref (a 0), .int p0, .int p1, .int p2] [((a 0), .inr (8, (fX8 a (nI tx) fp (nI t0) wd (nI we) nu na (nI rd) ts (nI ru) (nI rw) (nI ca) df db sd))), (aI k (a 1) 3 (nF dn)), (aI k (a 4) 27 (sg se tm gs)), (aI k (a 2) 72 ffrees), (aI k (a 3) 72 fprices), (aZ k (a 32) 24 frow), (aI k (a 18) 768 fons), (aI k (a 19) 768 fworths), (aI k (a 20) 5 fstarts), (aI k (a 21) 4 fends), (aZ k (a 22) 4 fgoesRound), (aI k (a 23) 8 fbegin)] (fun (r : Int32) (u : (Nat → Int32) × (Nat → Int32) × (Nat → Int32) × (Nat → Int32) × (Nat → Int32) × (Nat → Int32)) => match u with | (fons_, fworths_, fstarts_, fends_, fgoesRound_, fbegin_) => tqP (sdM dn (sg se tm gs) ffrees fprices) p0 (jdA p1 p2 frow rw) r) (fun (u : (Nat → Int32) × (Nat → Int32) × (Nat → Int32) × (Nat → Int32) × (Nat → Int32) × (Nat → Int32)) => match u with | (fons_, fworths_, fstarts_, fends_, fgoesRound_, fbegin_) => [((a 0), .inr (8, (fX8 a (nI tx) fp (nI t0) wd (nI we) nu na (nI rd) ts (nI ru) (nI rw) (nI ca) df db sd))), (aI k (a 1) 3 (nF dn)), (aI k (a 4) 27 (sg se tm gs)), (aI k (a 2) 72 ffrees), (aI k (a 3) 72 fprices), (aZ k (a 32) 24 frow), (aI k (a 18) 768 fons_), (aI k (a 19) 768 fworths_), (aI k (a 20) 5 fstarts_), (aI k (a 21) 4 fends_), (aZ k (a 22) 4 fgoesRound_), (aI k (a 23) 8 fbegin_)]) := by
  intro sz
  refine Met.ofW (cc := cX8_judge) (maxL := 7) (ret := (some .int)) (by decide) rfl ?_
  intro p e s m args below meth c s₁ B hml hv
  obtain ⟨rfl, hsz, hlo, hP, hK, hDL, hZ⟩ := hv
  have hx := B.exec
  have hb := B.bytes
  have hr := B.returns
  have hts := WS_ts B.pre
  have hown : s.vm.findClass RX8 = some m.cls := findClass_of_methodNamed B.named
  have hlocks := B.notSynchronized
  subst hsz
  have hD := hDL.self (sz := s.heap.size)
  have hAlo := A_lo hDL hlo
  generalize hAe : va_A [((a 0), .inr (8, (fX8 a (nI tx) fp (nI t0) wd (nI we) nu na (nI rd) ts (nI ru) (nI rw) (nI ca) df db sd))), (aI k (a 1) 3 (nF dn)), (aI k (a 4) 27 (sg se tm gs)), (aI k (a 2) 72 ffrees), (aI k (a 3) 72 fprices), (aZ k (a 32) 24 frow), (aI k (a 18) 768 fons), (aI k (a 19) 768 fworths), (aI k (a 20) 5 fstarts), (aI k (a 21) 4 fends), (aZ k (a 22) 4 fgoesRound), (aI k (a 23) 8 fbegin)] s.heap.size = A at hD hAlo ⊢
  have hA : ∀ q : Nat, s.heap.size ≤ q → A q := fun q h => by rw [← hAe]; exact Or.inr h
  have hS : va_S A s.heap s.heap [] := va_S.rf
  have hl := lv_entry ([.ref (a 0), .int p0, .int p1, .int p2]) (n := 7) (Nat.le_of_ble_eq_true rfl)
  rw [lg_entry_eq]
  generalize (lg_sl ([.ref (a 0), .int p0, .int p1, .int p2]) ++ List.replicate (7 - (lg_sl ([.ref (a 0), .int p0, .int p1, .int p2])).length) Slot.unset).toArray = ls at hl ⊢
  have hl : lv_has ls 7 [(0, .ref (a 0)), (1, .int p0), (2, .int p1), (3, .int p2)] := hl
  refine lv_aload_n hx hb dX8_judge_0 rfl (lv_at hl 0 rfl) ?_
  refine lv_iload_n hx hb dX8_judge_1 rfl (lv_at hl 1 rfl) ?_
  refine ro_i (D := D) (va_runV (As := [.int p0]) (rest := []) ⟨hx, hb, hml, hown, hts⟩ ((n_isStreet l D k st lo a tx t0 we rd ru rw ca fp wd nu na ts df db sd dn p0 hdn) s.heap.size) (cwV 1 hts (gV tw_1189 tw_1191 tw_38 tw_87 tw_1192) rfl rfl rfl (by decide +kernel) ⟨Nat.le_of_ble_eq_true rfl, Nat.le_of_ble_eq_true rfl⟩) (pV hS hAlo hlo hP hK (va_Dlo hD hAlo) hZ [0, 1] (by decide) rfl (ci := 8) (q := (RX8, TX8, 44)) (q0 := 0) rfl rfl) rfl rfl hl.1 rfl (lv_room (Nat.le_of_ble_eq_true rfl)) dX8_judge_2 ⟨Nat.le_of_ble_eq_true rfl, Nat.le_of_ble_eq_true rfl⟩) hS hA hP (fun r_1 H locs hw_1 hP hS => ?_)
  try dsimp only at hw_1
  rcases hw_1 with ⟨rfl, j_2, hj_2, rfl, hw_1⟩ | ⟨rfl, hw_1⟩
  · have hdj_2 := hdn j_2
    have htj_2 := htm j_2
    refine lv_if_ne (tgt := 12) hx hb dX8_judge_5 (by decide) (fun _ => ?_) (fun h => absurd h (by decide))
    refine lv_aload_n hx hb dX8_judge_12 rfl (lv_at hl 0 rfl) ?_
    refine lv_iload_n hx hb dX8_judge_13 rfl (lv_at hl 1 rfl) ?_
    refine lv_iload_n hx hb dX8_judge_14 rfl (lv_at hl 2 rfl) ?_
    refine ro_i (D := D) (va_runV (As := [.int (nI j_2), .int p1]) (rest := []) ⟨hx, hb, hml, hown, hts⟩ ((n_isRound l D k st lo a tx t0 we rd ru rw ca fp wd nu na ts df db sd se tm gs j_2 p1 htm (by first | assumption | omega)) H.size) (cwV 2 hts (gV tw_1218 tw_1220 tw_42 tw_87 tw_1221) rfl rfl rfl (by decide +kernel) ⟨Nat.le_of_ble_eq_true rfl, Nat.le_of_ble_eq_true rfl⟩) (pV hS hAlo hlo hP hK (va_Dlo hD hAlo) hZ [0, 2] (by decide) rfl (ci := 8) (q := (RX8, TX8, 44)) (q0 := 0) rfl rfl) rfl rfl hl.1 rfl (lv_room (Nat.le_of_ble_eq_true rfl)) dX8_judge_15 ⟨Nat.le_of_ble_eq_true rfl, Nat.le_of_ble_eq_true rfl⟩) hS hA hP (fun r_3 H locs hw_3 hP hS => ?_)
    try dsimp only at hw_3
    rcases hw_3 with ⟨rfl, j_4, hj_4, rfl, hw_3⟩ | ⟨rfl, hw_3⟩
    · refine lv_if_ne (tgt := 25) hx hb dX8_judge_18 (by decide) (fun _ => ?_) (fun h => absurd h (by decide))
      refine lv_aload_n hx hb dX8_judge_25 rfl (lv_at hl 0 rfl) ?_
      refine va_get (D := D) (ci := 8) (v := .int (nI rw)) (C := RX8) (T := TX8) (N := 44) hx hb hts inX8 hown hK hP 0 rfl rfl 30 (by decide) (hts _ tw_1003) (fun _ h9 => h9) rfl dX8_judge_26 ?_
      refine lv_if_eq (tgt := 63) hx hb dX8_judge_29 (by decide) (fun c_5 => ?_) (fun c_5 => ?_)
      · have c_5 := (nI_eq (a := rw) (b := 0) (by omega) (by omega)).mp c_5
        refine lv_sipush (v := (-1003)) hx hb dX8_judge_63 (by decide) ?_
        obtain ⟨hP9, hD9⟩ := pd_sub [((a 0), .inr (8, (fX8 a (nI tx) fp (nI t0) wd (nI we) nu na (nI rd) ts (nI ru) (nI rw) (nI ca) df db sd))), (aI k (a 1) 3 (nF dn)), (aI k (a 4) 27 (sg se tm gs)), (aI k (a 2) 72 ffrees), (aI k (a 3) 72 fprices), (aZ k (a 32) 24 frow), (aI k (a 18) 768 fons), (aI k (a 19) 768 fworths), (aI k (a 20) 5 fstarts), (aI k (a 21) 4 fends), (aZ k (a 22) 4 fgoesRound), (aI k (a 23) 8 fbegin)] [0, 1, 2, 3, 4, 5, 6, 7, 8, 9, 10, 11] hP hD (by decide +kernel) rfl
        exact W.iret (v := (-1003)) hx hb hr (fun t ht hW => ⟨⟨(-1003), (fons, fworths, fstarts, fends, fgoesRound, fbegin), rfl, tq_at (s := j_2) (by omega) (show 0 < dn j_2 by omega) (show jdA (nI j_4) p2 frow rw (sdM dn (sg se tm gs) ffrees fprices j_2) _ from jd_n (by rw [rdM]; exact inr (by omega) (htm _)) (.inl (by omega))), by rw [ht]; exact hP9, hD9⟩, hS.F ht⟩) hS.2.2 dX8_judge_66
      · have c_5 : ¬ (rw = 0) := fun h => c_5 ((nI_eq (a := rw) (b := 0) (by omega) (by omega)).mpr h)
        refine lv_aload_n hx hb dX8_judge_32 rfl (lv_at hl 0 rfl) ?_
        refine va_get (D := D) (ci := 8) (v := .int (nI rw)) (C := RX8) (T := TX8) (N := 44) hx hb hts inX8 hown hK hP 0 rfl rfl 30 (by decide) (hts _ tw_1003) (fun _ h9 => h9) rfl dX8_judge_33 ?_
        refine lv_aload_n hx hb dX8_judge_36 rfl (lv_at hl 0 rfl) ?_
        refine va_get (D := D) (ci := 8) (v := .ref (a 1)) (C := RX8) (T := TX8) (N := 44) hx hb hts inX8 hown hK hP 0 rfl rfl 0 (by decide) (hts _ tw_973) (fun _ h9 => h9) rfl dX8_judge_37 ?_
        refine lv_iload_n hx hb dX8_judge_40 rfl (lv_at hl 1 rfl) ?_
        refine va_iald hx hb hK hP 1 1 rfl rfl (vp_in_nI (by omega) (by decide)) dX8_judge_41 ?_
        refine lv_ti (y := (nI (dn j_2))) (by rw [nI_clamp (by omega)]; rfl) ?_
        refine lv_icmp_gt (tgt := 63) hx hb dX8_judge_42 (by decide) (fun c_6 => ?_) (fun c_6 => ?_)
        · have c_6 := (nI_ltI (a := (dn j_2)) (b := rw) (by omega) (by omega)).mp c_6
          refine lv_sipush (v := (-1003)) hx hb dX8_judge_63 (by decide) ?_
          obtain ⟨hP9, hD9⟩ := pd_sub [((a 0), .inr (8, (fX8 a (nI tx) fp (nI t0) wd (nI we) nu na (nI rd) ts (nI ru) (nI rw) (nI ca) df db sd))), (aI k (a 1) 3 (nF dn)), (aI k (a 4) 27 (sg se tm gs)), (aI k (a 2) 72 ffrees), (aI k (a 3) 72 fprices), (aZ k (a 32) 24 frow), (aI k (a 18) 768 fons), (aI k (a 19) 768 fworths), (aI k (a 20) 5 fstarts), (aI k (a 21) 4 fends), (aZ k (a 22) 4 fgoesRound), (aI k (a 23) 8 fbegin)] [0, 1, 2, 3, 4, 5, 6, 7, 8, 9, 10, 11] hP hD (by decide +kernel) rfl
          exact W.iret (v := (-1003)) hx hb hr (fun t ht hW => ⟨⟨(-1003), (fons, fworths, fstarts, fends, fgoesRound, fbegin), rfl, tq_at (s := j_2) (by omega) (show 0 < dn j_2 by omega) (show jdA (nI j_4) p2 frow rw (sdM dn (sg se tm gs) ffrees fprices j_2) _ from jd_n (by rw [rdM]; exact inr (by omega) (htm _)) (.inr (.inl (show dn j_2 < rw by omega)))), by rw [ht]; exact hP9, hD9⟩, hS.F ht⟩) hS.2.2 dX8_judge_66
        · have c_6 : ¬ ((dn j_2) < rw) := fun h => c_6 ((nI_ltI (a := (dn j_2)) (b := rw) (by omega) (by omega)).mpr h)
          refine lv_iload_n hx hb dX8_judge_45 rfl (lv_at hl 3 rfl) ?_
          refine lv_if_eq (tgt := 67) hx hb dX8_judge_46 (by decide) (fun c_7 => ?_) (fun c_7 => ?_)
          · refine lv_aload_n hx hb dX8_judge_67 rfl (lv_at hl 0 rfl) ?_
            refine lv_iload_n hx hb dX8_judge_68 rfl (lv_at hl 1 rfl) ?_
            refine rw_v (D := D) (wr := [(aZ k (a 32) 24 frow)]) (va_runV (As := [.int (nI j_2)]) (rest := []) ⟨hx, hb, hml, hown, hts⟩ ((n_findWay l D k st lo a tx t0 we rd ru rw ca fp wd nu na ts df db sd dn se tm gs ffrees fprices fons fworths fstarts fends fgoesRound fbegin j_2 hdn hse htm (by first | assumption | omega) (by first | assumption | omega)) H.size) (cwV 1 hts (gV tw_1250 tw_1252 tw_49 tw_87 tw_1253) rfl rfl rfl (by decide +kernel) ⟨Nat.le_of_ble_eq_true rfl, Nat.le_of_ble_eq_true rfl⟩) (pV hS hAlo hlo hP hK (va_Dlo hD hAlo) hZ [0, 1, 2, 3, 4, 6, 7, 8, 9, 10, 11] (by decide +kernel) rfl (ci := 8) (q := (RX8, TX8, 44)) (q0 := 0) rfl rfl) rfl rfl hl.1 rfl (lv_room (Nat.le_of_ble_eq_true rfl)) dX8_judge_69 ⟨Nat.le_of_ble_eq_true rfl, Nat.le_of_ble_eq_true rfl⟩) hS hA hP hD [0, 1, 2, 3, 4, 6, 7, 8, 9, 10, 11] [5] rfl rfl (by decide +kernel) (by decide +kernel) (fun u H locs hw_8 hP hD hS => ?_)
            obtain ⟨fons__8, fworths__8, fstarts__8, fends__8, fgoesRound__8, fbegin__8⟩ := u
            have hQ9 := pd_mk [(aZ k (a 32) 24 frow), ((a 0), .inr (8, (fX8 a (nI tx) fp (nI t0) wd (nI we) nu na (nI rd) ts (nI ru) (nI rw) (nI ca) df db sd))), (aI k (a 1) 3 (nF dn)), (aI k (a 4) 27 (sg se tm gs)), (aI k (a 2) 72 ffrees), (aI k (a 3) 72 fprices), (aI k (a 18) 768 fons__8), (aI k (a 19) 768 fworths__8), (aI k (a 20) 5 fstarts__8), (aI k (a 21) 4 fends__8), (aZ k (a 22) 4 fgoesRound__8), (aI k (a 23) 8 fbegin__8)] hP hD
            clear hP hD
            obtain ⟨hP, hD⟩ := hQ9
            try dsimp only at hw_8
            refine lv_iconst (v := 0) hx hb dX8_judge_72 (by decide) ?_
            refine lv_istore (lv' := [(4, .int 0), (0, .ref (a 0)), (1, .int (nI j_2)), (2, .int (nI j_4)), (3, .int p2)]) hx hb dX8_judge_73 hl (by decide) rfl (fun ls hl => ?_)
            refine W_loop (σ := Nat) (fun (n_ : Nat) (ii_9 : Nat) (H : Heap) (locs : List Loc) (ls : Array Slot) => n_ = 25 - ii_9 ∧ (ii_9 ≤ rw ∧ ∀ j, j < ii_9 → ¬ wrg (sdM dn (sg se tm gs) ffrees fprices j_2) j_4 frow rw p2 j) ∧ va_P D classes [(aZ k (a 32) 24 frow), ((a 0), .inr (8, (fX8 a (nI tx) fp (nI t0) wd (nI we) nu na (nI rd) ts (nI ru) (nI rw) (nI ca) df db sd))), (aI k (a 1) 3 (nF dn)), (aI k (a 4) 27 (sg se tm gs)), (aI k (a 2) 72 ffrees), (aI k (a 3) 72 fprices), (aI k (a 18) 768 fons__8), (aI k (a 19) 768 fworths__8), (aI k (a 20) 5 fstarts__8), (aI k (a 21) 4 fends__8), (aZ k (a 22) 4 fgoesRound__8), (aI k (a 23) 8 fbegin__8)] H ∧ va_D A [(aZ k (a 32) 24 frow), ((a 0), .inr (8, (fX8 a (nI tx) fp (nI t0) wd (nI we) nu na (nI rd) ts (nI ru) (nI rw) (nI ca) df db sd))), (aI k (a 1) 3 (nF dn)), (aI k (a 4) 27 (sg se tm gs)), (aI k (a 2) 72 ffrees), (aI k (a 3) 72 fprices), (aI k (a 18) 768 fons__8), (aI k (a 19) 768 fworths__8), (aI k (a 20) 5 fstarts__8), (aI k (a 21) 4 fends__8), (aZ k (a 22) 4 fgoesRound__8), (aI k (a 23) 8 fbegin__8)] ∧ va_S A s.heap H locs ∧ lv_has ls 7 [(4, .int (nI ii_9)), (0, .ref (a 0)), (1, .int (nI j_2)), (2, .int (nI j_4)), (3, .int p2)]) (fun n_9 x_9 H locs ls hI ih_9 => ?_) _ 0 ⟨rfl, ⟨by omega, fun j h => absurd h (Nat.not_lt_zero j)⟩, hP, hD, hS, (lv_sub hl [0, 1, 2, 3, 4] rfl)⟩
            obtain ⟨ii_9, rfl⟩ : ∃ z, z = x_9 := ⟨_, rfl⟩
            obtain ⟨hm_9, hv_9, hP, hD, hS, hl⟩ := hI
            subst hm_9
            refine lv_iload hx hb dX8_judge_75 (lv_at hl 0 rfl) ?_
            refine lv_aload_n hx hb dX8_judge_77 rfl (lv_at hl 1 rfl) ?_
            refine va_get (D := D) (ci := 8) (v := .int (nI rw)) (C := RX8) (T := TX8) (N := 44) hx hb hts inX8 hown hK hP 1 rfl rfl 30 (by decide) (hts _ tw_1003) (fun _ h9 => h9) rfl dX8_judge_78 ?_
            refine lv_icmp_ge (tgt := 207) hx hb dX8_judge_81 (by decide) (fun c_10 => ?_) (fun c_10 => ?_)
            · have c_10 := (nI_leI (a := rw) (b := ii_9) (by omega) (by omega)).mp c_10
              refine lv_iconst (v := (-1)) hx hb dX8_judge_207 (by decide) ?_
              obtain ⟨hP9, hD9⟩ := pd_sub [((a 0), .inr (8, (fX8 a (nI tx) fp (nI t0) wd (nI we) nu na (nI rd) ts (nI ru) (nI rw) (nI ca) df db sd))), (aI k (a 1) 3 (nF dn)), (aI k (a 4) 27 (sg se tm gs)), (aI k (a 2) 72 ffrees), (aI k (a 3) 72 fprices), (aZ k (a 32) 24 frow), (aI k (a 18) 768 fons__8), (aI k (a 19) 768 fworths__8), (aI k (a 20) 5 fstarts__8), (aI k (a 21) 4 fends__8), (aZ k (a 22) 4 fgoesRound__8), (aI k (a 23) 8 fbegin__8)] [1, 2, 3, 4, 5, 0, 6, 7, 8, 9, 10, 11] hP hD (by decide +kernel) rfl
              exact W.iret (v := (-1)) hx hb hr (fun t ht hW => ⟨⟨(-1), (fons__8, fworths__8, fstarts__8, fends__8, fgoesRound__8, fbegin__8), rfl, tq_at (s := j_2) (by omega) (show 0 < dn j_2 by omega) (show jdA (nI j_4) p2 frow rw (sdM dn (sg se tm gs) ffrees fprices j_2) _ from jd_i (by omega) (by rw [rdM]; exact inr (by omega) (htm _)) (not3 (show ¬ rw = 0 by omega) (show ¬ dn j_2 < rw by omega) (fun q => q.1 c_7)) ⟨ii_9, by omega, hv_9.2, .inr ⟨by omega, rfl⟩⟩), by rw [ht]; exact hP9, hD9⟩, hS.F ht⟩) hS.2.2 dX8_judge_208
            · have c_10 : ¬ (rw ≤ ii_9) := fun h => c_10 ((nI_leI (a := rw) (b := ii_9) (by omega) (by omega)).mpr h)
              refine lv_aload_n hx hb dX8_judge_84 rfl (lv_at hl 1 rfl) ?_
              refine va_get (D := D) (ci := 8) (v := .ref (a 32)) (C := RX8) (T := TX8) (N := 44) hx hb hts inX8 hown hK hP 1 rfl rfl 31 (by decide) (hts _ tw_1004) (fun _ h9 => h9) rfl dX8_judge_85 ?_
              refine lv_iload hx hb dX8_judge_88 (lv_at hl 0 rfl) ?_
              refine va_zald hx hb hK hP 0 2 rfl rfl (vp_in_nI (by omega) (by decide)) dX8_judge_90 ?_
              refine lv_ti (y := (frow ii_9)) (by rw [nI_clamp (by omega)]) ?_
              refine lv_if_eq (tgt := 201) hx hb dX8_judge_91 (by decide) (fun c_11 => ?_) (fun c_11 => ?_)
              · refine lv_iinc (v := (nI (ii_9 + 1))) (lv' := [(4, .int (nI (ii_9 + 1))), (0, .ref (a 0)), (1, .int (nI j_2)), (2, .int (nI j_4)), (3, .int p2)]) hx hb dX8_judge_201 hl (k := 0) rfl (nI_add ii_9 1) (by decide) rfl (fun ls hl => ?_)
                refine lv_goto (tgt := 75) hx hb dX8_judge_204 (by decide) ?_
                exact ih_9 _ (ii_9 + 1) _ _ _ (by omega) ⟨rfl, ⟨by omega, la_all (P := fun j => wrg (sdM dn (sg se tm gs) ffrees fprices j_2) j_4 frow rw p2 j) hv_9.2 (fun h => absurd (h.1.symm.trans c_11) (by decide))⟩, hP, hD, hS, (lv_sub hl [0, 1, 2, 3, 4] rfl)⟩
              · refine lv_iload hx hb dX8_judge_94 (lv_at hl 0 rfl) ?_
                refine lv_aload_n hx hb dX8_judge_96 rfl (lv_at hl 1 rfl) ?_
                refine lv_iload_n hx hb dX8_judge_97 rfl (lv_at hl 2 rfl) ?_
                refine lv_iload hx hb dX8_judge_98 (lv_at hl 0 rfl) ?_
                refine ro_i (D := D) (va_runV (As := [.int (nI j_2), .int (nI ii_9)]) (rest := [.int (nI ii_9)]) ⟨hx, hb, hml, hown, hts⟩ ((n_seen l D k st lo a tx t0 we rd ru rw ca fp wd nu na ts df db sd dn se tm gs j_2 ii_9 hdn hse (by first | assumption | omega) (by first | assumption | omega)) H.size) (cwV 2 hts (gV tw_1246 tw_1248 tw_48 tw_87 tw_1249) rfl rfl rfl (by decide +kernel) ⟨Nat.le_of_ble_eq_true rfl, Nat.le_of_ble_eq_true rfl⟩) (pV hS hAlo hlo hP hK (va_Dlo hD hAlo) hZ [1, 2, 3] (by decide) rfl (ci := 8) (q := (RX8, TX8, 44)) (q0 := 0) rfl rfl) rfl rfl hl.1 rfl (lv_room (Nat.le_of_ble_eq_true rfl)) dX8_judge_100 ⟨Nat.le_of_ble_eq_true rfl, Nat.le_of_ble_eq_true rfl⟩) hS hA hP (fun r_12 H locs hw_12 hP hS => ?_)
                try dsimp only at hw_12
                obtain ⟨sv_13, esv_13⟩ : ∃ z : Nat, z = sqN (se j_2) (dn j_2) ii_9 := ⟨_, rfl⟩
                rw [← esv_13] at hw_12
                subst hw_12
                have hsv_13 : sv_13 ≤ 3 ∧ sv_13 ≤ dn j_2 - ii_9 ∧ sv_13 ≤ se j_2 + 1 ∧ (0 < dn j_2 - ii_9 → 1 ≤ sv_13) := by have hse9 := hse j_2; rw [esv_13]; unfold sqN; omega
                have hpv_13 := p8 (show sv_13 ≤ 3 by omega)
                have hpe_13 : 2 ^ sv_13 = 2 ^ sqN (se j_2) (dn j_2) ii_9 := by rw [esv_13]
                refine lv_iadd hx hb dX8_judge_103 ?_
                refine lv_ti (y := (nI (ii_9 + sv_13))) (nI_add ii_9 sv_13) ?_
                refine lv_aload_n hx hb dX8_judge_104 rfl (lv_at hl 1 rfl) ?_
                refine va_get (D := D) (ci := 8) (v := .int (nI rw)) (C := RX8) (T := TX8) (N := 44) hx hb hts inX8 hown hK hP 1 rfl rfl 30 (by decide) (hts _ tw_1003) (fun _ h9 => h9) rfl dX8_judge_105 ?_
                refine lv_icmp_gt (tgt := 201) hx hb dX8_judge_108 (by decide) (fun c_14 => ?_) (fun c_14 => ?_)
                · have c_14 := (nI_ltI (a := rw) (b := (ii_9 + sv_13)) (by omega) (by omega)).mp c_14
                  refine lv_iinc (v := (nI (ii_9 + 1))) (lv' := [(4, .int (nI (ii_9 + 1))), (0, .ref (a 0)), (1, .int (nI j_2)), (2, .int (nI j_4)), (3, .int p2)]) hx hb dX8_judge_201 hl (k := 0) rfl (nI_add ii_9 1) (by decide) rfl (fun ls hl => ?_)
                  refine lv_goto (tgt := 75) hx hb dX8_judge_204 (by decide) ?_
                  exact ih_9 _ (ii_9 + 1) _ _ _ (by omega) ⟨rfl, ⟨by omega, la_all (P := fun j => wrg (sdM dn (sg se tm gs) ffrees fprices j_2) j_4 frow rw p2 j) hv_9.2 (fun h => absurd (show ii_9 + sqN (seD (sdM dn (sg se tm gs) ffrees fprices j_2)) (dn j_2) ii_9 ≤ rw from h.2.1) (by rw [seM (hse _)]; omega))⟩, hP, hD, hS, (lv_sub hl [0, 1, 2, 3, 4] rfl)⟩
                · have c_14 : ¬ (rw < (ii_9 + sv_13)) := fun h => c_14 ((nI_ltI (a := rw) (b := (ii_9 + sv_13)) (by omega) (by omega)).mpr h)
                  refine lv_iconst (v := 0) hx hb dX8_judge_111 (by decide) ?_
                  refine lv_istore (lv' := [(5, .int 0), (4, .int (nI ii_9)), (0, .ref (a 0)), (1, .int (nI j_2)), (2, .int (nI j_4)), (3, .int p2)]) hx hb dX8_judge_112 hl (by decide) rfl (fun ls hl => ?_)
                  refine lv_iconst (v := 0) hx hb dX8_judge_114 (by decide) ?_
                  refine lv_istore (lv' := [(6, .int 0), (5, .int 0), (4, .int (nI ii_9)), (0, .ref (a 0)), (1, .int (nI j_2)), (2, .int (nI j_4)), (3, .int p2)]) hx hb dX8_judge_115 hl (by decide) rfl (fun ls hl => ?_)
                  refine W_loop (σ := Nat × Nat) (fun (n_ : Nat) (x_ : Nat × Nat) (H : Heap) (locs : List Loc) (ls : Array Slot) => match x_ with | (kk_15, g2_15) => n_ = sv_13 - kk_15 ∧ (kk_15 ≤ sv_13 ∧ g2_15 = rowN (fun k => frow (ii_9 + k)) kk_15) ∧ va_P D classes [(aZ k (a 32) 24 frow), ((a 0), .inr (8, (fX8 a (nI tx) fp (nI t0) wd (nI we) nu na (nI rd) ts (nI ru) (nI rw) (nI ca) df db sd))), (aI k (a 1) 3 (nF dn)), (aI k (a 4) 27 (sg se tm gs)), (aI k (a 2) 72 ffrees), (aI k (a 3) 72 fprices), (aI k (a 18) 768 fons__8), (aI k (a 19) 768 fworths__8), (aI k (a 20) 5 fstarts__8), (aI k (a 21) 4 fends__8), (aZ k (a 22) 4 fgoesRound__8), (aI k (a 23) 8 fbegin__8)] H ∧ va_D A [(aZ k (a 32) 24 frow), ((a 0), .inr (8, (fX8 a (nI tx) fp (nI t0) wd (nI we) nu na (nI rd) ts (nI ru) (nI rw) (nI ca) df db sd))), (aI k (a 1) 3 (nF dn)), (aI k (a 4) 27 (sg se tm gs)), (aI k (a 2) 72 ffrees), (aI k (a 3) 72 fprices), (aI k (a 18) 768 fons__8), (aI k (a 19) 768 fworths__8), (aI k (a 20) 5 fstarts__8), (aI k (a 21) 4 fends__8), (aZ k (a 22) 4 fgoesRound__8), (aI k (a 23) 8 fbegin__8)] ∧ va_S A s.heap H locs ∧ lv_has ls 7 [(6, .int (nI kk_15)), (5, .int (nI g2_15)), (4, .int (nI ii_9)), (0, .ref (a 0)), (1, .int (nI j_2)), (2, .int (nI j_4)), (3, .int p2)]) (fun n_15 x_15 H locs ls hI ih_15 => ?_) _ (0, 0) ⟨rfl, ⟨by omega, rfl⟩, hP, hD, hS, (lv_sub hl [0, 1, 2, 3, 4, 5, 6] rfl)⟩
                  obtain ⟨kk_15, g2_15⟩ := x_15
                  obtain ⟨hm_15, hv_15, hP, hD, hS, hl⟩ := hI
                  subst hm_15
                  refine lv_iload hx hb dX8_judge_117 (lv_at hl 0 rfl) ?_
                  refine lv_aload_n hx hb dX8_judge_119 rfl (lv_at hl 3 rfl) ?_
                  refine lv_iload_n hx hb dX8_judge_120 rfl (lv_at hl 4 rfl) ?_
                  refine lv_iload hx hb dX8_judge_121 (lv_at hl 2 rfl) ?_
                  refine ro_i (D := D) (va_runV (As := [.int (nI j_2), .int (nI ii_9)]) (rest := [.int (nI kk_15)]) ⟨hx, hb, hml, hown, hts⟩ ((n_seen l D k st lo a tx t0 we rd ru rw ca fp wd nu na ts df db sd dn se tm gs j_2 ii_9 hdn hse (by first | assumption | omega) (by first | assumption | omega)) H.size) (cwV 2 hts (gV tw_1246 tw_1248 tw_48 tw_87 tw_1249) rfl rfl rfl (by decide +kernel) ⟨Nat.le_of_ble_eq_true rfl, Nat.le_of_ble_eq_true rfl⟩) (pV hS hAlo hlo hP hK (va_Dlo hD hAlo) hZ [1, 2, 3] (by decide) rfl (ci := 8) (q := (RX8, TX8, 44)) (q0 := 0) rfl rfl) rfl rfl hl.1 rfl (lv_room (Nat.le_of_ble_eq_true rfl)) dX8_judge_123 ⟨Nat.le_of_ble_eq_true rfl, Nat.le_of_ble_eq_true rfl⟩) hS hA hP (fun r_16 H locs hw_16 hP hS => ?_)
                  try dsimp only at hw_16
                  obtain ⟨sv_17, esv_17⟩ : ∃ z : Nat, z = sqN (se j_2) (dn j_2) ii_9 := ⟨_, rfl⟩
                  rw [← esv_17] at hw_16
                  subst hw_16
                  have hsv_17 : sv_17 ≤ 3 ∧ sv_17 ≤ dn j_2 - ii_9 ∧ sv_17 ≤ se j_2 + 1 ∧ (0 < dn j_2 - ii_9 → 1 ≤ sv_17) := by have hse9 := hse j_2; rw [esv_17]; unfold sqN; omega
                  have hpv_17 := p8 (show sv_17 ≤ 3 by omega)
                  have hpe_17 : 2 ^ sv_17 = 2 ^ sqN (se j_2) (dn j_2) ii_9 := by rw [esv_17]
                  refine lv_icmp_ge (tgt := 161) hx hb dX8_judge_126 (by decide) (fun c_18 => ?_) (fun c_18 => ?_)
                  · have c_18 := (nI_leI (a := sv_17) (b := kk_15) (by omega) (by omega)).mp c_18
                    have egg_19 : g2_15 = rowN (fun k => frow (ii_9 + k)) (sqN (se j_2) (dn j_2) ii_9) := by rw [hv_15.2, show kk_15 = sqN (se j_2) (dn j_2) ii_9 by omega]
                    have hgq_19 : g2_15 < 2 ^ sqN (se j_2) (dn j_2) ii_9 := by rw [egg_19]; exact rowN_lt _ _
                    have hgp_19 := p8 (show sqN (se j_2) (dn j_2) ii_9 ≤ 3 by omega)
                    have hg8_19 : g2_15 < 8 := by omega
                    have hgo_19 : g2_15 % 2 = 1 := by rw [egg_19]; exact rowN_odd (by omega) ((hfr _ (by omega)).resolve_left c_11)
                    have hT_19 : fM_taking dn se tm gs fprices j_2 ii_9 (nI j_4) ≤ fons__8 (192 * j_4 + 8 * ii_9 + g2_15) ↔ pTake (sdM dn (sg se tm gs) ffrees fprices j_2) j_4 ii_9 ≤ wayO (sdM dn (sg se tm gs) ffrees fprices j_2) j_4 ii_9 (rowN (fun k => frow (ii_9 + k)) (sqN (seD (sdM dn (sg se tm gs) ffrees fprices j_2)) (sdM dn (sg se tm gs) ffrees fprices j_2).1 ii_9)) := by rw [seM (hse _), mTake (ffr := ffrees) (show ii_9 < dn j_2 by omega), (wmw_of (wm_of (hse _) (htm _) hw_8) (show j_4 ≤ tmD (sdM dn (sg se tm gs) ffrees fprices j_2) by rw [tmM (htm _)]; omega) (show ii_9 < dn j_2 by omega) (show g2_15 < 2 ^ sqN (seD (sdM dn (sg se tm gs) ffrees fprices j_2)) (dn j_2) ii_9 by rw [seM (hse _)]; exact hgq_19)).2, egg_19]; exact Iff.rfl
                    refine lv_iload_n hx hb dX8_judge_161 rfl (lv_at hl 6 rfl) ?_
                    refine lv_if_eq (tgt := 180) hx hb dX8_judge_162 (by decide) (fun c_20 => ?_) (fun c_20 => ?_)
                    · refine lv_iconst (v := 0) hx hb dX8_judge_180 (by decide) ?_
                      refine lv_istore (lv' := [(6, .int 0), (5, .int (nI g2_15)), (4, .int (nI ii_9)), (0, .ref (a 0)), (1, .int (nI j_2)), (2, .int (nI j_4)), (3, .int p2)]) hx hb dX8_judge_181 hl (by decide) rfl (fun ls hl => ?_)
                      refine lv_aload_n hx hb dX8_judge_183 rfl (lv_at hl 3 rfl) ?_
                      refine lv_iload_n hx hb dX8_judge_184 rfl (lv_at hl 4 rfl) ?_
                      refine lv_iload_n hx hb dX8_judge_185 rfl (lv_at hl 5 rfl) ?_
                      refine lv_iload hx hb dX8_judge_186 (lv_at hl 2 rfl) ?_
                      refine lv_iload hx hb dX8_judge_188 (lv_at hl 1 rfl) ?_
                      refine ro_i (D := D) (va_runV (As := [.int (nI j_2), .int (nI j_4), .int (nI ii_9), .int (nI g2_15)]) (rest := []) ⟨hx, hb, hml, hown, hts⟩ ((n_isTaking l D k st lo a tx t0 we rd ru rw ca fp wd nu na ts df db sd dn se tm gs fprices fons__8 j_2 j_4 ii_9 g2_15 (by first | assumption | omega) (by first | assumption | omega) (by first | assumption | omega) (by first | assumption | omega)) H.size) (cwV 4 hts (gV tw_1285 tw_1287 tw_54 tw_87 tw_1288) rfl rfl rfl (by decide +kernel) ⟨Nat.le_of_ble_eq_true rfl, Nat.le_of_ble_eq_true rfl⟩) (pV hS hAlo hlo hP hK (va_Dlo hD hAlo) hZ [1, 2, 3, 5, 6] (by decide) rfl (ci := 8) (q := (RX8, TX8, 44)) (q0 := 0) rfl rfl) rfl rfl hl.1 rfl (lv_room (Nat.le_of_ble_eq_true rfl)) dX8_judge_190 ⟨Nat.le_of_ble_eq_true rfl, Nat.le_of_ble_eq_true rfl⟩) hS hA hP (fun r_21 H locs hw_21 hP hS => ?_)
                      try dsimp only at hw_21
                      rcases hw_21 with ⟨rfl, hw_21⟩ | ⟨rfl, hw_21⟩
                      · refine lv_iload hx hb dX8_judge_193 (lv_at hl 0 rfl) ?_
                        refine lv_icmp_eq (tgt := 201) hx hb dX8_judge_195 (by decide) (fun h => absurd h (by decide)) (fun _ => ?_)
                        refine lv_iload hx hb dX8_judge_198 (lv_at hl 2 rfl) ?_
                        obtain ⟨hP9, hD9⟩ := pd_sub [((a 0), .inr (8, (fX8 a (nI tx) fp (nI t0) wd (nI we) nu na (nI rd) ts (nI ru) (nI rw) (nI ca) df db sd))), (aI k (a 1) 3 (nF dn)), (aI k (a 4) 27 (sg se tm gs)), (aI k (a 2) 72 ffrees), (aI k (a 3) 72 fprices), (aZ k (a 32) 24 frow), (aI k (a 18) 768 fons__8), (aI k (a 19) 768 fworths__8), (aI k (a 20) 5 fstarts__8), (aI k (a 21) 4 fends__8), (aZ k (a 22) 4 fgoesRound__8), (aI k (a 23) 8 fbegin__8)] [1, 2, 3, 4, 5, 0, 6, 7, 8, 9, 10, 11] hP hD (by decide +kernel) rfl
                        exact W.iret (v := (nI ii_9)) hx hb hr (fun t ht hW => ⟨⟨(nI ii_9), (fons__8, fworths__8, fstarts__8, fends__8, fgoesRound__8, fbegin__8), rfl, tq_at (s := j_2) (by omega) (show 0 < dn j_2 by omega) (show jdA (nI j_4) p2 frow rw (sdM dn (sg se tm gs) ffrees fprices j_2) _ from jd_i (by omega) (by rw [rdM]; exact inr (by omega) (htm _)) (not3 (show ¬ rw = 0 by omega) (show ¬ dn j_2 < rw by omega) (fun q => q.1 c_7)) ⟨ii_9, by omega, hv_9.2, .inl ⟨by omega, ⟨((hfr _ (by omega)).resolve_left c_11), (show ii_9 + sqN (seD (sdM dn (sg se tm gs) ffrees fprices j_2)) (dn j_2) ii_9 ≤ rw by rw [seM (hse _)]; omega), (fun q => (fun q => q.1 c_20) (q.mp (hT_19.mp hw_21.2)))⟩, rfl⟩⟩), by rw [ht]; exact hP9, hD9⟩, hS.F ht⟩) hS.2.2 dX8_judge_200
                      · refine lv_iload hx hb dX8_judge_193 (lv_at hl 0 rfl) ?_
                        refine lv_icmp_eq (tgt := 201) hx hb dX8_judge_195 (by decide) (fun _ => ?_) (fun h => absurd (by decide) h)
                        refine lv_iinc (v := (nI (ii_9 + 1))) (lv' := [(4, .int (nI (ii_9 + 1))), (6, .int 0), (5, .int (nI g2_15)), (0, .ref (a 0)), (1, .int (nI j_2)), (2, .int (nI j_4)), (3, .int p2)]) hx hb dX8_judge_201 hl (k := 2) rfl (nI_add ii_9 1) (by decide) rfl (fun ls hl => ?_)
                        refine lv_goto (tgt := 75) hx hb dX8_judge_204 (by decide) ?_
                        exact ih_9 _ (ii_9 + 1) _ _ _ (by omega) ⟨rfl, ⟨by omega, la_all (P := fun j => wrg (sdM dn (sg se tm gs) ffrees fprices j_2) j_4 frow rw p2 j) hv_9.2 (fun h => h.2.2 ⟨fun q => absurd q (fun q => hw_21 ⟨hgo_19, hT_19.mpr q⟩), fun q => absurd q (fun q => q.1 c_20)⟩)⟩, hP, hD, hS, (lv_sub hl [0, 3, 4, 5, 6] rfl)⟩
                    · refine lv_iload hx hb dX8_judge_165 (lv_at hl 2 rfl) ?_
                      refine lv_aload_n hx hb dX8_judge_167 rfl (lv_at hl 3 rfl) ?_
                      refine va_get (D := D) (ci := 8) (v := .int (nI rw)) (C := RX8) (T := TX8) (N := 44) hx hb hts inX8 hown hK hP 1 rfl rfl 30 (by decide) (hts _ tw_1003) (fun _ h9 => h9) rfl dX8_judge_168 ?_
                      refine lv_iconst (v := 1) hx hb dX8_judge_171 (by decide) ?_
                      refine lv_isub hx hb dX8_judge_172 ?_
                      refine lv_ti (y := (nI (rw - 1))) (pk_sub (a := rw) (b := 1) (by omega)) ?_
                      refine lv_icmp_ne (tgt := 180) hx hb dX8_judge_173 (by decide) (fun c_22 => ?_) (fun c_22 => ?_)
                      · have c_22 : ¬ (ii_9 = (rw - 1)) := fun h => c_22 ((nI_eq (a := ii_9) (b := (rw - 1)) (by omega) (by omega)).mpr h)
                        refine lv_iconst (v := 0) hx hb dX8_judge_180 (by decide) ?_
                        refine lv_istore (lv' := [(6, .int 0), (5, .int (nI g2_15)), (4, .int (nI ii_9)), (0, .ref (a 0)), (1, .int (nI j_2)), (2, .int (nI j_4)), (3, .int p2)]) hx hb dX8_judge_181 hl (by decide) rfl (fun ls hl => ?_)
                        refine lv_aload_n hx hb dX8_judge_183 rfl (lv_at hl 3 rfl) ?_
                        refine lv_iload_n hx hb dX8_judge_184 rfl (lv_at hl 4 rfl) ?_
                        refine lv_iload_n hx hb dX8_judge_185 rfl (lv_at hl 5 rfl) ?_
                        refine lv_iload hx hb dX8_judge_186 (lv_at hl 2 rfl) ?_
                        refine lv_iload hx hb dX8_judge_188 (lv_at hl 1 rfl) ?_
                        refine ro_i (D := D) (va_runV (As := [.int (nI j_2), .int (nI j_4), .int (nI ii_9), .int (nI g2_15)]) (rest := []) ⟨hx, hb, hml, hown, hts⟩ ((n_isTaking l D k st lo a tx t0 we rd ru rw ca fp wd nu na ts df db sd dn se tm gs fprices fons__8 j_2 j_4 ii_9 g2_15 (by first | assumption | omega) (by first | assumption | omega) (by first | assumption | omega) (by first | assumption | omega)) H.size) (cwV 4 hts (gV tw_1285 tw_1287 tw_54 tw_87 tw_1288) rfl rfl rfl (by decide +kernel) ⟨Nat.le_of_ble_eq_true rfl, Nat.le_of_ble_eq_true rfl⟩) (pV hS hAlo hlo hP hK (va_Dlo hD hAlo) hZ [1, 2, 3, 5, 6] (by decide) rfl (ci := 8) (q := (RX8, TX8, 44)) (q0 := 0) rfl rfl) rfl rfl hl.1 rfl (lv_room (Nat.le_of_ble_eq_true rfl)) dX8_judge_190 ⟨Nat.le_of_ble_eq_true rfl, Nat.le_of_ble_eq_true rfl⟩) hS hA hP (fun r_23 H locs hw_23 hP hS => ?_)
                        try dsimp only at hw_23
                        rcases hw_23 with ⟨rfl, hw_23⟩ | ⟨rfl, hw_23⟩
                        · refine lv_iload hx hb dX8_judge_193 (lv_at hl 0 rfl) ?_
                          refine lv_icmp_eq (tgt := 201) hx hb dX8_judge_195 (by decide) (fun h => absurd h (by decide)) (fun _ => ?_)
                          refine lv_iload hx hb dX8_judge_198 (lv_at hl 2 rfl) ?_
                          obtain ⟨hP9, hD9⟩ := pd_sub [((a 0), .inr (8, (fX8 a (nI tx) fp (nI t0) wd (nI we) nu na (nI rd) ts (nI ru) (nI rw) (nI ca) df db sd))), (aI k (a 1) 3 (nF dn)), (aI k (a 4) 27 (sg se tm gs)), (aI k (a 2) 72 ffrees), (aI k (a 3) 72 fprices), (aZ k (a 32) 24 frow), (aI k (a 18) 768 fons__8), (aI k (a 19) 768 fworths__8), (aI k (a 20) 5 fstarts__8), (aI k (a 21) 4 fends__8), (aZ k (a 22) 4 fgoesRound__8), (aI k (a 23) 8 fbegin__8)] [1, 2, 3, 4, 5, 0, 6, 7, 8, 9, 10, 11] hP hD (by decide +kernel) rfl
                          exact W.iret (v := (nI ii_9)) hx hb hr (fun t ht hW => ⟨⟨(nI ii_9), (fons__8, fworths__8, fstarts__8, fends__8, fgoesRound__8, fbegin__8), rfl, tq_at (s := j_2) (by omega) (show 0 < dn j_2 by omega) (show jdA (nI j_4) p2 frow rw (sdM dn (sg se tm gs) ffrees fprices j_2) _ from jd_i (by omega) (by rw [rdM]; exact inr (by omega) (htm _)) (not3 (show ¬ rw = 0 by omega) (show ¬ dn j_2 < rw by omega) (fun q => q.1 c_7)) ⟨ii_9, by omega, hv_9.2, .inl ⟨by omega, ⟨((hfr _ (by omega)).resolve_left c_11), (show ii_9 + sqN (seD (sdM dn (sg se tm gs) ffrees fprices j_2)) (dn j_2) ii_9 ≤ rw by rw [seM (hse _)]; omega), (fun q => (fun q => absurd q.2 (by omega)) (q.mp (hT_19.mp hw_23.2)))⟩, rfl⟩⟩), by rw [ht]; exact hP9, hD9⟩, hS.F ht⟩) hS.2.2 dX8_judge_200
                        · refine lv_iload hx hb dX8_judge_193 (lv_at hl 0 rfl) ?_
                          refine lv_icmp_eq (tgt := 201) hx hb dX8_judge_195 (by decide) (fun _ => ?_) (fun h => absurd (by decide) h)
                          refine lv_iinc (v := (nI (ii_9 + 1))) (lv' := [(4, .int (nI (ii_9 + 1))), (6, .int 0), (5, .int (nI g2_15)), (0, .ref (a 0)), (1, .int (nI j_2)), (2, .int (nI j_4)), (3, .int p2)]) hx hb dX8_judge_201 hl (k := 2) rfl (nI_add ii_9 1) (by decide) rfl (fun ls hl => ?_)
                          refine lv_goto (tgt := 75) hx hb dX8_judge_204 (by decide) ?_
                          exact ih_9 _ (ii_9 + 1) _ _ _ (by omega) ⟨rfl, ⟨by omega, la_all (P := fun j => wrg (sdM dn (sg se tm gs) ffrees fprices j_2) j_4 frow rw p2 j) hv_9.2 (fun h => h.2.2 ⟨fun q => absurd q (fun q => hw_23 ⟨hgo_19, hT_19.mpr q⟩), fun q => absurd q (fun q => absurd q.2 (by omega))⟩)⟩, hP, hD, hS, (lv_sub hl [0, 3, 4, 5, 6] rfl)⟩
                      · have c_22 := (nI_eq (a := ii_9) (b := (rw - 1)) (by omega) (by omega)).mp c_22
                        refine lv_iconst (v := 1) hx hb dX8_judge_176 (by decide) ?_
                        refine lv_goto (tgt := 181) hx hb dX8_judge_177 (by decide) ?_
                        refine lv_istore (lv' := [(6, .int 1), (5, .int (nI g2_15)), (4, .int (nI ii_9)), (0, .ref (a 0)), (1, .int (nI j_2)), (2, .int (nI j_4)), (3, .int p2)]) hx hb dX8_judge_181 hl (by decide) rfl (fun ls hl => ?_)
                        refine lv_aload_n hx hb dX8_judge_183 rfl (lv_at hl 3 rfl) ?_
                        refine lv_iload_n hx hb dX8_judge_184 rfl (lv_at hl 4 rfl) ?_
                        refine lv_iload_n hx hb dX8_judge_185 rfl (lv_at hl 5 rfl) ?_
                        refine lv_iload hx hb dX8_judge_186 (lv_at hl 2 rfl) ?_
                        refine lv_iload hx hb dX8_judge_188 (lv_at hl 1 rfl) ?_
                        refine ro_i (D := D) (va_runV (As := [.int (nI j_2), .int (nI j_4), .int (nI ii_9), .int (nI g2_15)]) (rest := []) ⟨hx, hb, hml, hown, hts⟩ ((n_isTaking l D k st lo a tx t0 we rd ru rw ca fp wd nu na ts df db sd dn se tm gs fprices fons__8 j_2 j_4 ii_9 g2_15 (by first | assumption | omega) (by first | assumption | omega) (by first | assumption | omega) (by first | assumption | omega)) H.size) (cwV 4 hts (gV tw_1285 tw_1287 tw_54 tw_87 tw_1288) rfl rfl rfl (by decide +kernel) ⟨Nat.le_of_ble_eq_true rfl, Nat.le_of_ble_eq_true rfl⟩) (pV hS hAlo hlo hP hK (va_Dlo hD hAlo) hZ [1, 2, 3, 5, 6] (by decide) rfl (ci := 8) (q := (RX8, TX8, 44)) (q0 := 0) rfl rfl) rfl rfl hl.1 rfl (lv_room (Nat.le_of_ble_eq_true rfl)) dX8_judge_190 ⟨Nat.le_of_ble_eq_true rfl, Nat.le_of_ble_eq_true rfl⟩) hS hA hP (fun r_24 H locs hw_24 hP hS => ?_)
                        try dsimp only at hw_24
                        rcases hw_24 with ⟨rfl, hw_24⟩ | ⟨rfl, hw_24⟩
                        · refine lv_iload hx hb dX8_judge_193 (lv_at hl 0 rfl) ?_
                          refine lv_icmp_eq (tgt := 201) hx hb dX8_judge_195 (by decide) (fun _ => ?_) (fun h => absurd (by decide) h)
                          refine lv_iinc (v := (nI (ii_9 + 1))) (lv' := [(4, .int (nI (ii_9 + 1))), (6, .int 1), (5, .int (nI g2_15)), (0, .ref (a 0)), (1, .int (nI j_2)), (2, .int (nI j_4)), (3, .int p2)]) hx hb dX8_judge_201 hl (k := 2) rfl (nI_add ii_9 1) (by decide) rfl (fun ls hl => ?_)
                          refine lv_goto (tgt := 75) hx hb dX8_judge_204 (by decide) ?_
                          exact ih_9 _ (ii_9 + 1) _ _ _ (by omega) ⟨rfl, ⟨by omega, la_all (P := fun j => wrg (sdM dn (sg se tm gs) ffrees fprices j_2) j_4 frow rw p2 j) hv_9.2 (fun h => h.2.2 ⟨fun _ => ⟨c_20, by omega⟩, fun _ => hT_19.mp hw_24.2⟩)⟩, hP, hD, hS, (lv_sub hl [0, 3, 4, 5, 6] rfl)⟩
                        · refine lv_iload hx hb dX8_judge_193 (lv_at hl 0 rfl) ?_
                          refine lv_icmp_eq (tgt := 201) hx hb dX8_judge_195 (by decide) (fun h => absurd h (by decide)) (fun _ => ?_)
                          refine lv_iload hx hb dX8_judge_198 (lv_at hl 2 rfl) ?_
                          obtain ⟨hP9, hD9⟩ := pd_sub [((a 0), .inr (8, (fX8 a (nI tx) fp (nI t0) wd (nI we) nu na (nI rd) ts (nI ru) (nI rw) (nI ca) df db sd))), (aI k (a 1) 3 (nF dn)), (aI k (a 4) 27 (sg se tm gs)), (aI k (a 2) 72 ffrees), (aI k (a 3) 72 fprices), (aZ k (a 32) 24 frow), (aI k (a 18) 768 fons__8), (aI k (a 19) 768 fworths__8), (aI k (a 20) 5 fstarts__8), (aI k (a 21) 4 fends__8), (aZ k (a 22) 4 fgoesRound__8), (aI k (a 23) 8 fbegin__8)] [1, 2, 3, 4, 5, 0, 6, 7, 8, 9, 10, 11] hP hD (by decide +kernel) rfl
                          exact W.iret (v := (nI ii_9)) hx hb hr (fun t ht hW => ⟨⟨(nI ii_9), (fons__8, fworths__8, fstarts__8, fends__8, fgoesRound__8, fbegin__8), rfl, tq_at (s := j_2) (by omega) (show 0 < dn j_2 by omega) (show jdA (nI j_4) p2 frow rw (sdM dn (sg se tm gs) ffrees fprices j_2) _ from jd_i (by omega) (by rw [rdM]; exact inr (by omega) (htm _)) (not3 (show ¬ rw = 0 by omega) (show ¬ dn j_2 < rw by omega) (fun q => q.1 c_7)) ⟨ii_9, by omega, hv_9.2, .inl ⟨by omega, ⟨((hfr _ (by omega)).resolve_left c_11), (show ii_9 + sqN (seD (sdM dn (sg se tm gs) ffrees fprices j_2)) (dn j_2) ii_9 ≤ rw by rw [seM (hse _)]; omega), (fun q => (fun q => hw_24 ⟨hgo_19, hT_19.mpr q⟩) (q.mpr ⟨c_20, by omega⟩))⟩, rfl⟩⟩), by rw [ht]; exact hP9, hD9⟩, hS.F ht⟩) hS.2.2 dX8_judge_200
                  · have c_18 : ¬ (sv_17 ≤ kk_15) := fun h => c_18 ((nI_leI (a := sv_17) (b := kk_15) (by omega) (by omega)).mpr h)
                    refine lv_iload hx hb dX8_judge_129 (lv_at hl 1 rfl) ?_
                    refine lv_aload_n hx hb dX8_judge_131 rfl (lv_at hl 3 rfl) ?_
                    refine va_get (D := D) (ci := 8) (v := .ref (a 32)) (C := RX8) (T := TX8) (N := 44) hx hb hts inX8 hown hK hP 1 rfl rfl 31 (by decide) (hts _ tw_1004) (fun _ h9 => h9) rfl dX8_judge_132 ?_
                    refine lv_iload hx hb dX8_judge_135 (lv_at hl 2 rfl) ?_
                    refine lv_iload hx hb dX8_judge_137 (lv_at hl 0 rfl) ?_
                    refine lv_iadd hx hb dX8_judge_139 ?_
                    refine lv_ti (y := (nI (ii_9 + kk_15))) (nI_add ii_9 kk_15) ?_
                    refine va_zald hx hb hK hP 0 2 rfl rfl (vp_in_nI (by omega) (by decide)) dX8_judge_140 ?_
                    refine lv_ti (y := (frow (ii_9 + kk_15))) (by rw [nI_clamp (by omega)]) ?_
                    refine lv_if_eq (tgt := 151) hx hb dX8_judge_141 (by decide) (fun c_25 => ?_) (fun c_25 => ?_)
                    · refine lv_iconst (v := 0) hx hb dX8_judge_151 (by decide) ?_
                      have hgl_15 : g2_15 < 2 ^ kk_15 := by rw [hv_15.2]; exact rowN_lt _ _
                      refine lv_ior hx hb dX8_judge_152 ?_
                      refine lv_ti (y := (nI g2_15)) (show nI g2_15 ||| (0 : Int32) = nI g2_15 from Int32.or_zero) ?_
                      refine lv_istore (lv' := [(5, .int (nI g2_15)), (6, .int (nI kk_15)), (4, .int (nI ii_9)), (0, .ref (a 0)), (1, .int (nI j_2)), (2, .int (nI j_4)), (3, .int p2)]) hx hb dX8_judge_153 hl (by decide) rfl (fun ls hl => ?_)
                      refine lv_iinc (v := (nI (kk_15 + 1))) (lv' := [(6, .int (nI (kk_15 + 1))), (5, .int (nI g2_15)), (4, .int (nI ii_9)), (0, .ref (a 0)), (1, .int (nI j_2)), (2, .int (nI j_4)), (3, .int p2)]) hx hb dX8_judge_155 hl (k := 1) rfl (nI_add kk_15 1) (by decide) rfl (fun ls hl => ?_)
                      refine lv_goto (tgt := 117) hx hb dX8_judge_158 (by decide) ?_
                      exact ih_15 _ (kk_15 + 1, g2_15) _ _ _ (by omega) ⟨rfl, ⟨by omega, (by show _ = rowN (fun k => frow (ii_9 + k)) kk_15 + (if frow (ii_9 + kk_15) = 1 then 2 ^ kk_15 else 0); rw [if_neg (by rw [c_25]; decide), Nat.add_zero]; exact hv_15.2)⟩, hP, hD, hS, (lv_sub hl [0, 1, 2, 3, 4, 5, 6] rfl)⟩
                    · refine lv_iconst (v := 1) hx hb dX8_judge_144 (by decide) ?_
                      refine lv_iload hx hb dX8_judge_145 (lv_at hl 0 rfl) ?_
                      refine lv_ishl hx hb dX8_judge_147 ?_
                      refine lv_ti (y := (nI (2 ^ kk_15))) (shl1 kk_15 (by omega)) ?_
                      refine lv_goto (tgt := 152) hx hb dX8_judge_148 (by decide) ?_
                      have hgl_15 : g2_15 < 2 ^ kk_15 := by rw [hv_15.2]; exact rowN_lt _ _
                      refine lv_ior hx hb dX8_judge_152 ?_
                      refine lv_ti (y := (nI (g2_15 + 2 ^ kk_15))) (or_nb (by omega) hgl_15) ?_
                      refine lv_istore (lv' := [(5, .int (nI (g2_15 + 2 ^ kk_15))), (6, .int (nI kk_15)), (4, .int (nI ii_9)), (0, .ref (a 0)), (1, .int (nI j_2)), (2, .int (nI j_4)), (3, .int p2)]) hx hb dX8_judge_153 hl (by decide) rfl (fun ls hl => ?_)
                      refine lv_iinc (v := (nI (kk_15 + 1))) (lv' := [(6, .int (nI (kk_15 + 1))), (5, .int (nI (g2_15 + 2 ^ kk_15))), (4, .int (nI ii_9)), (0, .ref (a 0)), (1, .int (nI j_2)), (2, .int (nI j_4)), (3, .int p2)]) hx hb dX8_judge_155 hl (k := 1) rfl (nI_add kk_15 1) (by decide) rfl (fun ls hl => ?_)
                      refine lv_goto (tgt := 117) hx hb dX8_judge_158 (by decide) ?_
                      exact ih_15 _ (kk_15 + 1, g2_15 + 2 ^ kk_15) _ _ _ (by omega) ⟨rfl, ⟨by omega, (by show _ = rowN (fun k => frow (ii_9 + k)) kk_15 + (if frow (ii_9 + kk_15) = 1 then 2 ^ kk_15 else 0); rw [if_pos ((hfr _ (by omega)).resolve_left c_25), ← hv_15.2])⟩, hP, hD, hS, (lv_sub hl [0, 1, 2, 3, 4, 5, 6] rfl)⟩
          · refine lv_aload_n hx hb dX8_judge_49 rfl (lv_at hl 0 rfl) ?_
            refine va_get (D := D) (ci := 8) (v := .ref (a 32)) (C := RX8) (T := TX8) (N := 44) hx hb hts inX8 hown hK hP 0 rfl rfl 31 (by decide) (hts _ tw_1004) (fun _ h9 => h9) rfl dX8_judge_50 ?_
            refine lv_aload_n hx hb dX8_judge_53 rfl (lv_at hl 0 rfl) ?_
            refine va_get (D := D) (ci := 8) (v := .int (nI rw)) (C := RX8) (T := TX8) (N := 44) hx hb hts inX8 hown hK hP 0 rfl rfl 30 (by decide) (hts _ tw_1003) (fun _ h9 => h9) rfl dX8_judge_54 ?_
            refine lv_iconst (v := 1) hx hb dX8_judge_57 (by decide) ?_
            refine lv_isub hx hb dX8_judge_58 ?_
            refine lv_ti (y := (nI (rw - 1))) (pk_sub (a := rw) (b := 1) (by omega)) ?_
            refine va_zald hx hb hK hP 5 2 rfl rfl (vp_in_nI (by omega) (by decide)) dX8_judge_59 ?_
            refine lv_ti (y := (frow (rw - 1))) (by rw [nI_clamp (by omega)]) ?_
            refine lv_if_ne (tgt := 67) hx hb dX8_judge_60 (by decide) (fun c_26 => ?_) (fun c_26 => ?_)
            · refine lv_aload_n hx hb dX8_judge_67 rfl (lv_at hl 0 rfl) ?_
              refine lv_iload_n hx hb dX8_judge_68 rfl (lv_at hl 1 rfl) ?_
              refine rw_v (D := D) (wr := [(aZ k (a 32) 24 frow)]) (va_runV (As := [.int (nI j_2)]) (rest := []) ⟨hx, hb, hml, hown, hts⟩ ((n_findWay l D k st lo a tx t0 we rd ru rw ca fp wd nu na ts df db sd dn se tm gs ffrees fprices fons fworths fstarts fends fgoesRound fbegin j_2 hdn hse htm (by first | assumption | omega) (by first | assumption | omega)) H.size) (cwV 1 hts (gV tw_1250 tw_1252 tw_49 tw_87 tw_1253) rfl rfl rfl (by decide +kernel) ⟨Nat.le_of_ble_eq_true rfl, Nat.le_of_ble_eq_true rfl⟩) (pV hS hAlo hlo hP hK (va_Dlo hD hAlo) hZ [0, 1, 2, 3, 4, 6, 7, 8, 9, 10, 11] (by decide +kernel) rfl (ci := 8) (q := (RX8, TX8, 44)) (q0 := 0) rfl rfl) rfl rfl hl.1 rfl (lv_room (Nat.le_of_ble_eq_true rfl)) dX8_judge_69 ⟨Nat.le_of_ble_eq_true rfl, Nat.le_of_ble_eq_true rfl⟩) hS hA hP hD [0, 1, 2, 3, 4, 6, 7, 8, 9, 10, 11] [5] rfl rfl (by decide +kernel) (by decide +kernel) (fun u H locs hw_27 hP hD hS => ?_)
              obtain ⟨fons__27, fworths__27, fstarts__27, fends__27, fgoesRound__27, fbegin__27⟩ := u
              have hQ9 := pd_mk [(aZ k (a 32) 24 frow), ((a 0), .inr (8, (fX8 a (nI tx) fp (nI t0) wd (nI we) nu na (nI rd) ts (nI ru) (nI rw) (nI ca) df db sd))), (aI k (a 1) 3 (nF dn)), (aI k (a 4) 27 (sg se tm gs)), (aI k (a 2) 72 ffrees), (aI k (a 3) 72 fprices), (aI k (a 18) 768 fons__27), (aI k (a 19) 768 fworths__27), (aI k (a 20) 5 fstarts__27), (aI k (a 21) 4 fends__27), (aZ k (a 22) 4 fgoesRound__27), (aI k (a 23) 8 fbegin__27)] hP hD
              clear hP hD
              obtain ⟨hP, hD⟩ := hQ9
              try dsimp only at hw_27
              refine lv_iconst (v := 0) hx hb dX8_judge_72 (by decide) ?_
              refine lv_istore (lv' := [(4, .int 0), (0, .ref (a 0)), (1, .int (nI j_2)), (2, .int (nI j_4)), (3, .int p2)]) hx hb dX8_judge_73 hl (by decide) rfl (fun ls hl => ?_)
              refine W_loop (σ := Nat) (fun (n_ : Nat) (ii_28 : Nat) (H : Heap) (locs : List Loc) (ls : Array Slot) => n_ = 25 - ii_28 ∧ (ii_28 ≤ rw ∧ ∀ j, j < ii_28 → ¬ wrg (sdM dn (sg se tm gs) ffrees fprices j_2) j_4 frow rw p2 j) ∧ va_P D classes [(aZ k (a 32) 24 frow), ((a 0), .inr (8, (fX8 a (nI tx) fp (nI t0) wd (nI we) nu na (nI rd) ts (nI ru) (nI rw) (nI ca) df db sd))), (aI k (a 1) 3 (nF dn)), (aI k (a 4) 27 (sg se tm gs)), (aI k (a 2) 72 ffrees), (aI k (a 3) 72 fprices), (aI k (a 18) 768 fons__27), (aI k (a 19) 768 fworths__27), (aI k (a 20) 5 fstarts__27), (aI k (a 21) 4 fends__27), (aZ k (a 22) 4 fgoesRound__27), (aI k (a 23) 8 fbegin__27)] H ∧ va_D A [(aZ k (a 32) 24 frow), ((a 0), .inr (8, (fX8 a (nI tx) fp (nI t0) wd (nI we) nu na (nI rd) ts (nI ru) (nI rw) (nI ca) df db sd))), (aI k (a 1) 3 (nF dn)), (aI k (a 4) 27 (sg se tm gs)), (aI k (a 2) 72 ffrees), (aI k (a 3) 72 fprices), (aI k (a 18) 768 fons__27), (aI k (a 19) 768 fworths__27), (aI k (a 20) 5 fstarts__27), (aI k (a 21) 4 fends__27), (aZ k (a 22) 4 fgoesRound__27), (aI k (a 23) 8 fbegin__27)] ∧ va_S A s.heap H locs ∧ lv_has ls 7 [(4, .int (nI ii_28)), (0, .ref (a 0)), (1, .int (nI j_2)), (2, .int (nI j_4)), (3, .int p2)]) (fun n_28 x_28 H locs ls hI ih_28 => ?_) _ 0 ⟨rfl, ⟨by omega, fun j h => absurd h (Nat.not_lt_zero j)⟩, hP, hD, hS, (lv_sub hl [0, 1, 2, 3, 4] rfl)⟩
              obtain ⟨ii_28, rfl⟩ : ∃ z, z = x_28 := ⟨_, rfl⟩
              obtain ⟨hm_28, hv_28, hP, hD, hS, hl⟩ := hI
              subst hm_28
              refine lv_iload hx hb dX8_judge_75 (lv_at hl 0 rfl) ?_
              refine lv_aload_n hx hb dX8_judge_77 rfl (lv_at hl 1 rfl) ?_
              refine va_get (D := D) (ci := 8) (v := .int (nI rw)) (C := RX8) (T := TX8) (N := 44) hx hb hts inX8 hown hK hP 1 rfl rfl 30 (by decide) (hts _ tw_1003) (fun _ h9 => h9) rfl dX8_judge_78 ?_
              refine lv_icmp_ge (tgt := 207) hx hb dX8_judge_81 (by decide) (fun c_29 => ?_) (fun c_29 => ?_)
              · have c_29 := (nI_leI (a := rw) (b := ii_28) (by omega) (by omega)).mp c_29
                refine lv_iconst (v := (-1)) hx hb dX8_judge_207 (by decide) ?_
                obtain ⟨hP9, hD9⟩ := pd_sub [((a 0), .inr (8, (fX8 a (nI tx) fp (nI t0) wd (nI we) nu na (nI rd) ts (nI ru) (nI rw) (nI ca) df db sd))), (aI k (a 1) 3 (nF dn)), (aI k (a 4) 27 (sg se tm gs)), (aI k (a 2) 72 ffrees), (aI k (a 3) 72 fprices), (aZ k (a 32) 24 frow), (aI k (a 18) 768 fons__27), (aI k (a 19) 768 fworths__27), (aI k (a 20) 5 fstarts__27), (aI k (a 21) 4 fends__27), (aZ k (a 22) 4 fgoesRound__27), (aI k (a 23) 8 fbegin__27)] [1, 2, 3, 4, 5, 0, 6, 7, 8, 9, 10, 11] hP hD (by decide +kernel) rfl
                exact W.iret (v := (-1)) hx hb hr (fun t ht hW => ⟨⟨(-1), (fons__27, fworths__27, fstarts__27, fends__27, fgoesRound__27, fbegin__27), rfl, tq_at (s := j_2) (by omega) (show 0 < dn j_2 by omega) (show jdA (nI j_4) p2 frow rw (sdM dn (sg se tm gs) ffrees fprices j_2) _ from jd_i (by omega) (by rw [rdM]; exact inr (by omega) (htm _)) (not3 (show ¬ rw = 0 by omega) (show ¬ dn j_2 < rw by omega) (fun q => q.2 ((hfr _ (by omega)).resolve_left c_26))) ⟨ii_28, by omega, hv_28.2, .inr ⟨by omega, rfl⟩⟩), by rw [ht]; exact hP9, hD9⟩, hS.F ht⟩) hS.2.2 dX8_judge_208
              · have c_29 : ¬ (rw ≤ ii_28) := fun h => c_29 ((nI_leI (a := rw) (b := ii_28) (by omega) (by omega)).mpr h)
                refine lv_aload_n hx hb dX8_judge_84 rfl (lv_at hl 1 rfl) ?_
                refine va_get (D := D) (ci := 8) (v := .ref (a 32)) (C := RX8) (T := TX8) (N := 44) hx hb hts inX8 hown hK hP 1 rfl rfl 31 (by decide) (hts _ tw_1004) (fun _ h9 => h9) rfl dX8_judge_85 ?_
                refine lv_iload hx hb dX8_judge_88 (lv_at hl 0 rfl) ?_
                refine va_zald hx hb hK hP 0 2 rfl rfl (vp_in_nI (by omega) (by decide)) dX8_judge_90 ?_
                refine lv_ti (y := (frow ii_28)) (by rw [nI_clamp (by omega)]) ?_
                refine lv_if_eq (tgt := 201) hx hb dX8_judge_91 (by decide) (fun c_30 => ?_) (fun c_30 => ?_)
                · refine lv_iinc (v := (nI (ii_28 + 1))) (lv' := [(4, .int (nI (ii_28 + 1))), (0, .ref (a 0)), (1, .int (nI j_2)), (2, .int (nI j_4)), (3, .int p2)]) hx hb dX8_judge_201 hl (k := 0) rfl (nI_add ii_28 1) (by decide) rfl (fun ls hl => ?_)
                  refine lv_goto (tgt := 75) hx hb dX8_judge_204 (by decide) ?_
                  exact ih_28 _ (ii_28 + 1) _ _ _ (by omega) ⟨rfl, ⟨by omega, la_all (P := fun j => wrg (sdM dn (sg se tm gs) ffrees fprices j_2) j_4 frow rw p2 j) hv_28.2 (fun h => absurd (h.1.symm.trans c_30) (by decide))⟩, hP, hD, hS, (lv_sub hl [0, 1, 2, 3, 4] rfl)⟩
                · refine lv_iload hx hb dX8_judge_94 (lv_at hl 0 rfl) ?_
                  refine lv_aload_n hx hb dX8_judge_96 rfl (lv_at hl 1 rfl) ?_
                  refine lv_iload_n hx hb dX8_judge_97 rfl (lv_at hl 2 rfl) ?_
                  refine lv_iload hx hb dX8_judge_98 (lv_at hl 0 rfl) ?_
                  refine ro_i (D := D) (va_runV (As := [.int (nI j_2), .int (nI ii_28)]) (rest := [.int (nI ii_28)]) ⟨hx, hb, hml, hown, hts⟩ ((n_seen l D k st lo a tx t0 we rd ru rw ca fp wd nu na ts df db sd dn se tm gs j_2 ii_28 hdn hse (by first | assumption | omega) (by first | assumption | omega)) H.size) (cwV 2 hts (gV tw_1246 tw_1248 tw_48 tw_87 tw_1249) rfl rfl rfl (by decide +kernel) ⟨Nat.le_of_ble_eq_true rfl, Nat.le_of_ble_eq_true rfl⟩) (pV hS hAlo hlo hP hK (va_Dlo hD hAlo) hZ [1, 2, 3] (by decide) rfl (ci := 8) (q := (RX8, TX8, 44)) (q0 := 0) rfl rfl) rfl rfl hl.1 rfl (lv_room (Nat.le_of_ble_eq_true rfl)) dX8_judge_100 ⟨Nat.le_of_ble_eq_true rfl, Nat.le_of_ble_eq_true rfl⟩) hS hA hP (fun r_31 H locs hw_31 hP hS => ?_)
                  try dsimp only at hw_31
                  obtain ⟨sv_32, esv_32⟩ : ∃ z : Nat, z = sqN (se j_2) (dn j_2) ii_28 := ⟨_, rfl⟩
                  rw [← esv_32] at hw_31
                  subst hw_31
                  have hsv_32 : sv_32 ≤ 3 ∧ sv_32 ≤ dn j_2 - ii_28 ∧ sv_32 ≤ se j_2 + 1 ∧ (0 < dn j_2 - ii_28 → 1 ≤ sv_32) := by have hse9 := hse j_2; rw [esv_32]; unfold sqN; omega
                  have hpv_32 := p8 (show sv_32 ≤ 3 by omega)
                  have hpe_32 : 2 ^ sv_32 = 2 ^ sqN (se j_2) (dn j_2) ii_28 := by rw [esv_32]
                  refine lv_iadd hx hb dX8_judge_103 ?_
                  refine lv_ti (y := (nI (ii_28 + sv_32))) (nI_add ii_28 sv_32) ?_
                  refine lv_aload_n hx hb dX8_judge_104 rfl (lv_at hl 1 rfl) ?_
                  refine va_get (D := D) (ci := 8) (v := .int (nI rw)) (C := RX8) (T := TX8) (N := 44) hx hb hts inX8 hown hK hP 1 rfl rfl 30 (by decide) (hts _ tw_1003) (fun _ h9 => h9) rfl dX8_judge_105 ?_
                  refine lv_icmp_gt (tgt := 201) hx hb dX8_judge_108 (by decide) (fun c_33 => ?_) (fun c_33 => ?_)
                  · have c_33 := (nI_ltI (a := rw) (b := (ii_28 + sv_32)) (by omega) (by omega)).mp c_33
                    refine lv_iinc (v := (nI (ii_28 + 1))) (lv' := [(4, .int (nI (ii_28 + 1))), (0, .ref (a 0)), (1, .int (nI j_2)), (2, .int (nI j_4)), (3, .int p2)]) hx hb dX8_judge_201 hl (k := 0) rfl (nI_add ii_28 1) (by decide) rfl (fun ls hl => ?_)
                    refine lv_goto (tgt := 75) hx hb dX8_judge_204 (by decide) ?_
                    exact ih_28 _ (ii_28 + 1) _ _ _ (by omega) ⟨rfl, ⟨by omega, la_all (P := fun j => wrg (sdM dn (sg se tm gs) ffrees fprices j_2) j_4 frow rw p2 j) hv_28.2 (fun h => absurd (show ii_28 + sqN (seD (sdM dn (sg se tm gs) ffrees fprices j_2)) (dn j_2) ii_28 ≤ rw from h.2.1) (by rw [seM (hse _)]; omega))⟩, hP, hD, hS, (lv_sub hl [0, 1, 2, 3, 4] rfl)⟩
                  · have c_33 : ¬ (rw < (ii_28 + sv_32)) := fun h => c_33 ((nI_ltI (a := rw) (b := (ii_28 + sv_32)) (by omega) (by omega)).mpr h)
                    refine lv_iconst (v := 0) hx hb dX8_judge_111 (by decide) ?_
                    refine lv_istore (lv' := [(5, .int 0), (4, .int (nI ii_28)), (0, .ref (a 0)), (1, .int (nI j_2)), (2, .int (nI j_4)), (3, .int p2)]) hx hb dX8_judge_112 hl (by decide) rfl (fun ls hl => ?_)
                    refine lv_iconst (v := 0) hx hb dX8_judge_114 (by decide) ?_
                    refine lv_istore (lv' := [(6, .int 0), (5, .int 0), (4, .int (nI ii_28)), (0, .ref (a 0)), (1, .int (nI j_2)), (2, .int (nI j_4)), (3, .int p2)]) hx hb dX8_judge_115 hl (by decide) rfl (fun ls hl => ?_)
                    refine W_loop (σ := Nat × Nat) (fun (n_ : Nat) (x_ : Nat × Nat) (H : Heap) (locs : List Loc) (ls : Array Slot) => match x_ with | (kk_34, g2_34) => n_ = sv_32 - kk_34 ∧ (kk_34 ≤ sv_32 ∧ g2_34 = rowN (fun k => frow (ii_28 + k)) kk_34) ∧ va_P D classes [(aZ k (a 32) 24 frow), ((a 0), .inr (8, (fX8 a (nI tx) fp (nI t0) wd (nI we) nu na (nI rd) ts (nI ru) (nI rw) (nI ca) df db sd))), (aI k (a 1) 3 (nF dn)), (aI k (a 4) 27 (sg se tm gs)), (aI k (a 2) 72 ffrees), (aI k (a 3) 72 fprices), (aI k (a 18) 768 fons__27), (aI k (a 19) 768 fworths__27), (aI k (a 20) 5 fstarts__27), (aI k (a 21) 4 fends__27), (aZ k (a 22) 4 fgoesRound__27), (aI k (a 23) 8 fbegin__27)] H ∧ va_D A [(aZ k (a 32) 24 frow), ((a 0), .inr (8, (fX8 a (nI tx) fp (nI t0) wd (nI we) nu na (nI rd) ts (nI ru) (nI rw) (nI ca) df db sd))), (aI k (a 1) 3 (nF dn)), (aI k (a 4) 27 (sg se tm gs)), (aI k (a 2) 72 ffrees), (aI k (a 3) 72 fprices), (aI k (a 18) 768 fons__27), (aI k (a 19) 768 fworths__27), (aI k (a 20) 5 fstarts__27), (aI k (a 21) 4 fends__27), (aZ k (a 22) 4 fgoesRound__27), (aI k (a 23) 8 fbegin__27)] ∧ va_S A s.heap H locs ∧ lv_has ls 7 [(6, .int (nI kk_34)), (5, .int (nI g2_34)), (4, .int (nI ii_28)), (0, .ref (a 0)), (1, .int (nI j_2)), (2, .int (nI j_4)), (3, .int p2)]) (fun n_34 x_34 H locs ls hI ih_34 => ?_) _ (0, 0) ⟨rfl, ⟨by omega, rfl⟩, hP, hD, hS, (lv_sub hl [0, 1, 2, 3, 4, 5, 6] rfl)⟩
                    obtain ⟨kk_34, g2_34⟩ := x_34
                    obtain ⟨hm_34, hv_34, hP, hD, hS, hl⟩ := hI
                    subst hm_34
                    refine lv_iload hx hb dX8_judge_117 (lv_at hl 0 rfl) ?_
                    refine lv_aload_n hx hb dX8_judge_119 rfl (lv_at hl 3 rfl) ?_
                    refine lv_iload_n hx hb dX8_judge_120 rfl (lv_at hl 4 rfl) ?_
                    refine lv_iload hx hb dX8_judge_121 (lv_at hl 2 rfl) ?_
                    refine ro_i (D := D) (va_runV (As := [.int (nI j_2), .int (nI ii_28)]) (rest := [.int (nI kk_34)]) ⟨hx, hb, hml, hown, hts⟩ ((n_seen l D k st lo a tx t0 we rd ru rw ca fp wd nu na ts df db sd dn se tm gs j_2 ii_28 hdn hse (by first | assumption | omega) (by first | assumption | omega)) H.size) (cwV 2 hts (gV tw_1246 tw_1248 tw_48 tw_87 tw_1249) rfl rfl rfl (by decide +kernel) ⟨Nat.le_of_ble_eq_true rfl, Nat.le_of_ble_eq_true rfl⟩) (pV hS hAlo hlo hP hK (va_Dlo hD hAlo) hZ [1, 2, 3] (by decide) rfl (ci := 8) (q := (RX8, TX8, 44)) (q0 := 0) rfl rfl) rfl rfl hl.1 rfl (lv_room (Nat.le_of_ble_eq_true rfl)) dX8_judge_123 ⟨Nat.le_of_ble_eq_true rfl, Nat.le_of_ble_eq_true rfl⟩) hS hA hP (fun r_35 H locs hw_35 hP hS => ?_)
                    try dsimp only at hw_35
                    obtain ⟨sv_36, esv_36⟩ : ∃ z : Nat, z = sqN (se j_2) (dn j_2) ii_28 := ⟨_, rfl⟩
                    rw [← esv_36] at hw_35
                    subst hw_35
                    have hsv_36 : sv_36 ≤ 3 ∧ sv_36 ≤ dn j_2 - ii_28 ∧ sv_36 ≤ se j_2 + 1 ∧ (0 < dn j_2 - ii_28 → 1 ≤ sv_36) := by have hse9 := hse j_2; rw [esv_36]; unfold sqN; omega
                    have hpv_36 := p8 (show sv_36 ≤ 3 by omega)
                    have hpe_36 : 2 ^ sv_36 = 2 ^ sqN (se j_2) (dn j_2) ii_28 := by rw [esv_36]
                    refine lv_icmp_ge (tgt := 161) hx hb dX8_judge_126 (by decide) (fun c_37 => ?_) (fun c_37 => ?_)
                    · have c_37 := (nI_leI (a := sv_36) (b := kk_34) (by omega) (by omega)).mp c_37
                      have egg_38 : g2_34 = rowN (fun k => frow (ii_28 + k)) (sqN (se j_2) (dn j_2) ii_28) := by rw [hv_34.2, show kk_34 = sqN (se j_2) (dn j_2) ii_28 by omega]
                      have hgq_38 : g2_34 < 2 ^ sqN (se j_2) (dn j_2) ii_28 := by rw [egg_38]; exact rowN_lt _ _
                      have hgp_38 := p8 (show sqN (se j_2) (dn j_2) ii_28 ≤ 3 by omega)
                      have hg8_38 : g2_34 < 8 := by omega
                      have hgo_38 : g2_34 % 2 = 1 := by rw [egg_38]; exact rowN_odd (by omega) ((hfr _ (by omega)).resolve_left c_30)
                      have hT_38 : fM_taking dn se tm gs fprices j_2 ii_28 (nI j_4) ≤ fons__27 (192 * j_4 + 8 * ii_28 + g2_34) ↔ pTake (sdM dn (sg se tm gs) ffrees fprices j_2) j_4 ii_28 ≤ wayO (sdM dn (sg se tm gs) ffrees fprices j_2) j_4 ii_28 (rowN (fun k => frow (ii_28 + k)) (sqN (seD (sdM dn (sg se tm gs) ffrees fprices j_2)) (sdM dn (sg se tm gs) ffrees fprices j_2).1 ii_28)) := by rw [seM (hse _), mTake (ffr := ffrees) (show ii_28 < dn j_2 by omega), (wmw_of (wm_of (hse _) (htm _) hw_27) (show j_4 ≤ tmD (sdM dn (sg se tm gs) ffrees fprices j_2) by rw [tmM (htm _)]; omega) (show ii_28 < dn j_2 by omega) (show g2_34 < 2 ^ sqN (seD (sdM dn (sg se tm gs) ffrees fprices j_2)) (dn j_2) ii_28 by rw [seM (hse _)]; exact hgq_38)).2, egg_38]; exact Iff.rfl
                      refine lv_iload_n hx hb dX8_judge_161 rfl (lv_at hl 6 rfl) ?_
                      refine lv_if_eq (tgt := 180) hx hb dX8_judge_162 (by decide) (fun c_39 => ?_) (fun c_39 => ?_)
                      · refine lv_iconst (v := 0) hx hb dX8_judge_180 (by decide) ?_
                        refine lv_istore (lv' := [(6, .int 0), (5, .int (nI g2_34)), (4, .int (nI ii_28)), (0, .ref (a 0)), (1, .int (nI j_2)), (2, .int (nI j_4)), (3, .int p2)]) hx hb dX8_judge_181 hl (by decide) rfl (fun ls hl => ?_)
                        refine lv_aload_n hx hb dX8_judge_183 rfl (lv_at hl 3 rfl) ?_
                        refine lv_iload_n hx hb dX8_judge_184 rfl (lv_at hl 4 rfl) ?_
                        refine lv_iload_n hx hb dX8_judge_185 rfl (lv_at hl 5 rfl) ?_
                        refine lv_iload hx hb dX8_judge_186 (lv_at hl 2 rfl) ?_
                        refine lv_iload hx hb dX8_judge_188 (lv_at hl 1 rfl) ?_
                        refine ro_i (D := D) (va_runV (As := [.int (nI j_2), .int (nI j_4), .int (nI ii_28), .int (nI g2_34)]) (rest := []) ⟨hx, hb, hml, hown, hts⟩ ((n_isTaking l D k st lo a tx t0 we rd ru rw ca fp wd nu na ts df db sd dn se tm gs fprices fons__27 j_2 j_4 ii_28 g2_34 (by first | assumption | omega) (by first | assumption | omega) (by first | assumption | omega) (by first | assumption | omega)) H.size) (cwV 4 hts (gV tw_1285 tw_1287 tw_54 tw_87 tw_1288) rfl rfl rfl (by decide +kernel) ⟨Nat.le_of_ble_eq_true rfl, Nat.le_of_ble_eq_true rfl⟩) (pV hS hAlo hlo hP hK (va_Dlo hD hAlo) hZ [1, 2, 3, 5, 6] (by decide) rfl (ci := 8) (q := (RX8, TX8, 44)) (q0 := 0) rfl rfl) rfl rfl hl.1 rfl (lv_room (Nat.le_of_ble_eq_true rfl)) dX8_judge_190 ⟨Nat.le_of_ble_eq_true rfl, Nat.le_of_ble_eq_true rfl⟩) hS hA hP (fun r_40 H locs hw_40 hP hS => ?_)
                        try dsimp only at hw_40
                        rcases hw_40 with ⟨rfl, hw_40⟩ | ⟨rfl, hw_40⟩
                        · refine lv_iload hx hb dX8_judge_193 (lv_at hl 0 rfl) ?_
                          refine lv_icmp_eq (tgt := 201) hx hb dX8_judge_195 (by decide) (fun h => absurd h (by decide)) (fun _ => ?_)
                          refine lv_iload hx hb dX8_judge_198 (lv_at hl 2 rfl) ?_
                          obtain ⟨hP9, hD9⟩ := pd_sub [((a 0), .inr (8, (fX8 a (nI tx) fp (nI t0) wd (nI we) nu na (nI rd) ts (nI ru) (nI rw) (nI ca) df db sd))), (aI k (a 1) 3 (nF dn)), (aI k (a 4) 27 (sg se tm gs)), (aI k (a 2) 72 ffrees), (aI k (a 3) 72 fprices), (aZ k (a 32) 24 frow), (aI k (a 18) 768 fons__27), (aI k (a 19) 768 fworths__27), (aI k (a 20) 5 fstarts__27), (aI k (a 21) 4 fends__27), (aZ k (a 22) 4 fgoesRound__27), (aI k (a 23) 8 fbegin__27)] [1, 2, 3, 4, 5, 0, 6, 7, 8, 9, 10, 11] hP hD (by decide +kernel) rfl
                          exact W.iret (v := (nI ii_28)) hx hb hr (fun t ht hW => ⟨⟨(nI ii_28), (fons__27, fworths__27, fstarts__27, fends__27, fgoesRound__27, fbegin__27), rfl, tq_at (s := j_2) (by omega) (show 0 < dn j_2 by omega) (show jdA (nI j_4) p2 frow rw (sdM dn (sg se tm gs) ffrees fprices j_2) _ from jd_i (by omega) (by rw [rdM]; exact inr (by omega) (htm _)) (not3 (show ¬ rw = 0 by omega) (show ¬ dn j_2 < rw by omega) (fun q => q.2 ((hfr _ (by omega)).resolve_left c_26))) ⟨ii_28, by omega, hv_28.2, .inl ⟨by omega, ⟨((hfr _ (by omega)).resolve_left c_30), (show ii_28 + sqN (seD (sdM dn (sg se tm gs) ffrees fprices j_2)) (dn j_2) ii_28 ≤ rw by rw [seM (hse _)]; omega), (fun q => (fun q => q.1 c_39) (q.mp (hT_38.mp hw_40.2)))⟩, rfl⟩⟩), by rw [ht]; exact hP9, hD9⟩, hS.F ht⟩) hS.2.2 dX8_judge_200
                        · refine lv_iload hx hb dX8_judge_193 (lv_at hl 0 rfl) ?_
                          refine lv_icmp_eq (tgt := 201) hx hb dX8_judge_195 (by decide) (fun _ => ?_) (fun h => absurd (by decide) h)
                          refine lv_iinc (v := (nI (ii_28 + 1))) (lv' := [(4, .int (nI (ii_28 + 1))), (6, .int 0), (5, .int (nI g2_34)), (0, .ref (a 0)), (1, .int (nI j_2)), (2, .int (nI j_4)), (3, .int p2)]) hx hb dX8_judge_201 hl (k := 2) rfl (nI_add ii_28 1) (by decide) rfl (fun ls hl => ?_)
                          refine lv_goto (tgt := 75) hx hb dX8_judge_204 (by decide) ?_
                          exact ih_28 _ (ii_28 + 1) _ _ _ (by omega) ⟨rfl, ⟨by omega, la_all (P := fun j => wrg (sdM dn (sg se tm gs) ffrees fprices j_2) j_4 frow rw p2 j) hv_28.2 (fun h => h.2.2 ⟨fun q => absurd q (fun q => hw_40 ⟨hgo_38, hT_38.mpr q⟩), fun q => absurd q (fun q => q.1 c_39)⟩)⟩, hP, hD, hS, (lv_sub hl [0, 3, 4, 5, 6] rfl)⟩
                      · refine lv_iload hx hb dX8_judge_165 (lv_at hl 2 rfl) ?_
                        refine lv_aload_n hx hb dX8_judge_167 rfl (lv_at hl 3 rfl) ?_
                        refine va_get (D := D) (ci := 8) (v := .int (nI rw)) (C := RX8) (T := TX8) (N := 44) hx hb hts inX8 hown hK hP 1 rfl rfl 30 (by decide) (hts _ tw_1003) (fun _ h9 => h9) rfl dX8_judge_168 ?_
                        refine lv_iconst (v := 1) hx hb dX8_judge_171 (by decide) ?_
                        refine lv_isub hx hb dX8_judge_172 ?_
                        refine lv_ti (y := (nI (rw - 1))) (pk_sub (a := rw) (b := 1) (by omega)) ?_
                        refine lv_icmp_ne (tgt := 180) hx hb dX8_judge_173 (by decide) (fun c_41 => ?_) (fun c_41 => ?_)
                        · have c_41 : ¬ (ii_28 = (rw - 1)) := fun h => c_41 ((nI_eq (a := ii_28) (b := (rw - 1)) (by omega) (by omega)).mpr h)
                          refine lv_iconst (v := 0) hx hb dX8_judge_180 (by decide) ?_
                          refine lv_istore (lv' := [(6, .int 0), (5, .int (nI g2_34)), (4, .int (nI ii_28)), (0, .ref (a 0)), (1, .int (nI j_2)), (2, .int (nI j_4)), (3, .int p2)]) hx hb dX8_judge_181 hl (by decide) rfl (fun ls hl => ?_)
                          refine lv_aload_n hx hb dX8_judge_183 rfl (lv_at hl 3 rfl) ?_
                          refine lv_iload_n hx hb dX8_judge_184 rfl (lv_at hl 4 rfl) ?_
                          refine lv_iload_n hx hb dX8_judge_185 rfl (lv_at hl 5 rfl) ?_
                          refine lv_iload hx hb dX8_judge_186 (lv_at hl 2 rfl) ?_
                          refine lv_iload hx hb dX8_judge_188 (lv_at hl 1 rfl) ?_
                          refine ro_i (D := D) (va_runV (As := [.int (nI j_2), .int (nI j_4), .int (nI ii_28), .int (nI g2_34)]) (rest := []) ⟨hx, hb, hml, hown, hts⟩ ((n_isTaking l D k st lo a tx t0 we rd ru rw ca fp wd nu na ts df db sd dn se tm gs fprices fons__27 j_2 j_4 ii_28 g2_34 (by first | assumption | omega) (by first | assumption | omega) (by first | assumption | omega) (by first | assumption | omega)) H.size) (cwV 4 hts (gV tw_1285 tw_1287 tw_54 tw_87 tw_1288) rfl rfl rfl (by decide +kernel) ⟨Nat.le_of_ble_eq_true rfl, Nat.le_of_ble_eq_true rfl⟩) (pV hS hAlo hlo hP hK (va_Dlo hD hAlo) hZ [1, 2, 3, 5, 6] (by decide) rfl (ci := 8) (q := (RX8, TX8, 44)) (q0 := 0) rfl rfl) rfl rfl hl.1 rfl (lv_room (Nat.le_of_ble_eq_true rfl)) dX8_judge_190 ⟨Nat.le_of_ble_eq_true rfl, Nat.le_of_ble_eq_true rfl⟩) hS hA hP (fun r_42 H locs hw_42 hP hS => ?_)
                          try dsimp only at hw_42
                          rcases hw_42 with ⟨rfl, hw_42⟩ | ⟨rfl, hw_42⟩
                          · refine lv_iload hx hb dX8_judge_193 (lv_at hl 0 rfl) ?_
                            refine lv_icmp_eq (tgt := 201) hx hb dX8_judge_195 (by decide) (fun h => absurd h (by decide)) (fun _ => ?_)
                            refine lv_iload hx hb dX8_judge_198 (lv_at hl 2 rfl) ?_
                            obtain ⟨hP9, hD9⟩ := pd_sub [((a 0), .inr (8, (fX8 a (nI tx) fp (nI t0) wd (nI we) nu na (nI rd) ts (nI ru) (nI rw) (nI ca) df db sd))), (aI k (a 1) 3 (nF dn)), (aI k (a 4) 27 (sg se tm gs)), (aI k (a 2) 72 ffrees), (aI k (a 3) 72 fprices), (aZ k (a 32) 24 frow), (aI k (a 18) 768 fons__27), (aI k (a 19) 768 fworths__27), (aI k (a 20) 5 fstarts__27), (aI k (a 21) 4 fends__27), (aZ k (a 22) 4 fgoesRound__27), (aI k (a 23) 8 fbegin__27)] [1, 2, 3, 4, 5, 0, 6, 7, 8, 9, 10, 11] hP hD (by decide +kernel) rfl
                            exact W.iret (v := (nI ii_28)) hx hb hr (fun t ht hW => ⟨⟨(nI ii_28), (fons__27, fworths__27, fstarts__27, fends__27, fgoesRound__27, fbegin__27), rfl, tq_at (s := j_2) (by omega) (show 0 < dn j_2 by omega) (show jdA (nI j_4) p2 frow rw (sdM dn (sg se tm gs) ffrees fprices j_2) _ from jd_i (by omega) (by rw [rdM]; exact inr (by omega) (htm _)) (not3 (show ¬ rw = 0 by omega) (show ¬ dn j_2 < rw by omega) (fun q => q.2 ((hfr _ (by omega)).resolve_left c_26))) ⟨ii_28, by omega, hv_28.2, .inl ⟨by omega, ⟨((hfr _ (by omega)).resolve_left c_30), (show ii_28 + sqN (seD (sdM dn (sg se tm gs) ffrees fprices j_2)) (dn j_2) ii_28 ≤ rw by rw [seM (hse _)]; omega), (fun q => (fun q => absurd q.2 (by omega)) (q.mp (hT_38.mp hw_42.2)))⟩, rfl⟩⟩), by rw [ht]; exact hP9, hD9⟩, hS.F ht⟩) hS.2.2 dX8_judge_200
                          · refine lv_iload hx hb dX8_judge_193 (lv_at hl 0 rfl) ?_
                            refine lv_icmp_eq (tgt := 201) hx hb dX8_judge_195 (by decide) (fun _ => ?_) (fun h => absurd (by decide) h)
                            refine lv_iinc (v := (nI (ii_28 + 1))) (lv' := [(4, .int (nI (ii_28 + 1))), (6, .int 0), (5, .int (nI g2_34)), (0, .ref (a 0)), (1, .int (nI j_2)), (2, .int (nI j_4)), (3, .int p2)]) hx hb dX8_judge_201 hl (k := 2) rfl (nI_add ii_28 1) (by decide) rfl (fun ls hl => ?_)
                            refine lv_goto (tgt := 75) hx hb dX8_judge_204 (by decide) ?_
                            exact ih_28 _ (ii_28 + 1) _ _ _ (by omega) ⟨rfl, ⟨by omega, la_all (P := fun j => wrg (sdM dn (sg se tm gs) ffrees fprices j_2) j_4 frow rw p2 j) hv_28.2 (fun h => h.2.2 ⟨fun q => absurd q (fun q => hw_42 ⟨hgo_38, hT_38.mpr q⟩), fun q => absurd q (fun q => absurd q.2 (by omega))⟩)⟩, hP, hD, hS, (lv_sub hl [0, 3, 4, 5, 6] rfl)⟩
                        · have c_41 := (nI_eq (a := ii_28) (b := (rw - 1)) (by omega) (by omega)).mp c_41
                          refine lv_iconst (v := 1) hx hb dX8_judge_176 (by decide) ?_
                          refine lv_goto (tgt := 181) hx hb dX8_judge_177 (by decide) ?_
                          refine lv_istore (lv' := [(6, .int 1), (5, .int (nI g2_34)), (4, .int (nI ii_28)), (0, .ref (a 0)), (1, .int (nI j_2)), (2, .int (nI j_4)), (3, .int p2)]) hx hb dX8_judge_181 hl (by decide) rfl (fun ls hl => ?_)
                          refine lv_aload_n hx hb dX8_judge_183 rfl (lv_at hl 3 rfl) ?_
                          refine lv_iload_n hx hb dX8_judge_184 rfl (lv_at hl 4 rfl) ?_
                          refine lv_iload_n hx hb dX8_judge_185 rfl (lv_at hl 5 rfl) ?_
                          refine lv_iload hx hb dX8_judge_186 (lv_at hl 2 rfl) ?_
                          refine lv_iload hx hb dX8_judge_188 (lv_at hl 1 rfl) ?_
                          refine ro_i (D := D) (va_runV (As := [.int (nI j_2), .int (nI j_4), .int (nI ii_28), .int (nI g2_34)]) (rest := []) ⟨hx, hb, hml, hown, hts⟩ ((n_isTaking l D k st lo a tx t0 we rd ru rw ca fp wd nu na ts df db sd dn se tm gs fprices fons__27 j_2 j_4 ii_28 g2_34 (by first | assumption | omega) (by first | assumption | omega) (by first | assumption | omega) (by first | assumption | omega)) H.size) (cwV 4 hts (gV tw_1285 tw_1287 tw_54 tw_87 tw_1288) rfl rfl rfl (by decide +kernel) ⟨Nat.le_of_ble_eq_true rfl, Nat.le_of_ble_eq_true rfl⟩) (pV hS hAlo hlo hP hK (va_Dlo hD hAlo) hZ [1, 2, 3, 5, 6] (by decide) rfl (ci := 8) (q := (RX8, TX8, 44)) (q0 := 0) rfl rfl) rfl rfl hl.1 rfl (lv_room (Nat.le_of_ble_eq_true rfl)) dX8_judge_190 ⟨Nat.le_of_ble_eq_true rfl, Nat.le_of_ble_eq_true rfl⟩) hS hA hP (fun r_43 H locs hw_43 hP hS => ?_)
                          try dsimp only at hw_43
                          rcases hw_43 with ⟨rfl, hw_43⟩ | ⟨rfl, hw_43⟩
                          · refine lv_iload hx hb dX8_judge_193 (lv_at hl 0 rfl) ?_
                            refine lv_icmp_eq (tgt := 201) hx hb dX8_judge_195 (by decide) (fun _ => ?_) (fun h => absurd (by decide) h)
                            refine lv_iinc (v := (nI (ii_28 + 1))) (lv' := [(4, .int (nI (ii_28 + 1))), (6, .int 1), (5, .int (nI g2_34)), (0, .ref (a 0)), (1, .int (nI j_2)), (2, .int (nI j_4)), (3, .int p2)]) hx hb dX8_judge_201 hl (k := 2) rfl (nI_add ii_28 1) (by decide) rfl (fun ls hl => ?_)
                            refine lv_goto (tgt := 75) hx hb dX8_judge_204 (by decide) ?_
                            exact ih_28 _ (ii_28 + 1) _ _ _ (by omega) ⟨rfl, ⟨by omega, la_all (P := fun j => wrg (sdM dn (sg se tm gs) ffrees fprices j_2) j_4 frow rw p2 j) hv_28.2 (fun h => h.2.2 ⟨fun _ => ⟨c_39, by omega⟩, fun _ => hT_38.mp hw_43.2⟩)⟩, hP, hD, hS, (lv_sub hl [0, 3, 4, 5, 6] rfl)⟩
                          · refine lv_iload hx hb dX8_judge_193 (lv_at hl 0 rfl) ?_
                            refine lv_icmp_eq (tgt := 201) hx hb dX8_judge_195 (by decide) (fun h => absurd h (by decide)) (fun _ => ?_)
                            refine lv_iload hx hb dX8_judge_198 (lv_at hl 2 rfl) ?_
                            obtain ⟨hP9, hD9⟩ := pd_sub [((a 0), .inr (8, (fX8 a (nI tx) fp (nI t0) wd (nI we) nu na (nI rd) ts (nI ru) (nI rw) (nI ca) df db sd))), (aI k (a 1) 3 (nF dn)), (aI k (a 4) 27 (sg se tm gs)), (aI k (a 2) 72 ffrees), (aI k (a 3) 72 fprices), (aZ k (a 32) 24 frow), (aI k (a 18) 768 fons__27), (aI k (a 19) 768 fworths__27), (aI k (a 20) 5 fstarts__27), (aI k (a 21) 4 fends__27), (aZ k (a 22) 4 fgoesRound__27), (aI k (a 23) 8 fbegin__27)] [1, 2, 3, 4, 5, 0, 6, 7, 8, 9, 10, 11] hP hD (by decide +kernel) rfl
                            exact W.iret (v := (nI ii_28)) hx hb hr (fun t ht hW => ⟨⟨(nI ii_28), (fons__27, fworths__27, fstarts__27, fends__27, fgoesRound__27, fbegin__27), rfl, tq_at (s := j_2) (by omega) (show 0 < dn j_2 by omega) (show jdA (nI j_4) p2 frow rw (sdM dn (sg se tm gs) ffrees fprices j_2) _ from jd_i (by omega) (by rw [rdM]; exact inr (by omega) (htm _)) (not3 (show ¬ rw = 0 by omega) (show ¬ dn j_2 < rw by omega) (fun q => q.2 ((hfr _ (by omega)).resolve_left c_26))) ⟨ii_28, by omega, hv_28.2, .inl ⟨by omega, ⟨((hfr _ (by omega)).resolve_left c_30), (show ii_28 + sqN (seD (sdM dn (sg se tm gs) ffrees fprices j_2)) (dn j_2) ii_28 ≤ rw by rw [seM (hse _)]; omega), (fun q => (fun q => hw_43 ⟨hgo_38, hT_38.mpr q⟩) (q.mpr ⟨c_39, by omega⟩))⟩, rfl⟩⟩), by rw [ht]; exact hP9, hD9⟩, hS.F ht⟩) hS.2.2 dX8_judge_200
                    · have c_37 : ¬ (sv_36 ≤ kk_34) := fun h => c_37 ((nI_leI (a := sv_36) (b := kk_34) (by omega) (by omega)).mpr h)
                      refine lv_iload hx hb dX8_judge_129 (lv_at hl 1 rfl) ?_
                      refine lv_aload_n hx hb dX8_judge_131 rfl (lv_at hl 3 rfl) ?_
                      refine va_get (D := D) (ci := 8) (v := .ref (a 32)) (C := RX8) (T := TX8) (N := 44) hx hb hts inX8 hown hK hP 1 rfl rfl 31 (by decide) (hts _ tw_1004) (fun _ h9 => h9) rfl dX8_judge_132 ?_
                      refine lv_iload hx hb dX8_judge_135 (lv_at hl 2 rfl) ?_
                      refine lv_iload hx hb dX8_judge_137 (lv_at hl 0 rfl) ?_
                      refine lv_iadd hx hb dX8_judge_139 ?_
                      refine lv_ti (y := (nI (ii_28 + kk_34))) (nI_add ii_28 kk_34) ?_
                      refine va_zald hx hb hK hP 0 2 rfl rfl (vp_in_nI (by omega) (by decide)) dX8_judge_140 ?_
                      refine lv_ti (y := (frow (ii_28 + kk_34))) (by rw [nI_clamp (by omega)]) ?_
                      refine lv_if_eq (tgt := 151) hx hb dX8_judge_141 (by decide) (fun c_44 => ?_) (fun c_44 => ?_)
                      · refine lv_iconst (v := 0) hx hb dX8_judge_151 (by decide) ?_
                        have hgl_34 : g2_34 < 2 ^ kk_34 := by rw [hv_34.2]; exact rowN_lt _ _
                        refine lv_ior hx hb dX8_judge_152 ?_
                        refine lv_ti (y := (nI g2_34)) (show nI g2_34 ||| (0 : Int32) = nI g2_34 from Int32.or_zero) ?_
                        refine lv_istore (lv' := [(5, .int (nI g2_34)), (6, .int (nI kk_34)), (4, .int (nI ii_28)), (0, .ref (a 0)), (1, .int (nI j_2)), (2, .int (nI j_4)), (3, .int p2)]) hx hb dX8_judge_153 hl (by decide) rfl (fun ls hl => ?_)
                        refine lv_iinc (v := (nI (kk_34 + 1))) (lv' := [(6, .int (nI (kk_34 + 1))), (5, .int (nI g2_34)), (4, .int (nI ii_28)), (0, .ref (a 0)), (1, .int (nI j_2)), (2, .int (nI j_4)), (3, .int p2)]) hx hb dX8_judge_155 hl (k := 1) rfl (nI_add kk_34 1) (by decide) rfl (fun ls hl => ?_)
                        refine lv_goto (tgt := 117) hx hb dX8_judge_158 (by decide) ?_
                        exact ih_34 _ (kk_34 + 1, g2_34) _ _ _ (by omega) ⟨rfl, ⟨by omega, (by show _ = rowN (fun k => frow (ii_28 + k)) kk_34 + (if frow (ii_28 + kk_34) = 1 then 2 ^ kk_34 else 0); rw [if_neg (by rw [c_44]; decide), Nat.add_zero]; exact hv_34.2)⟩, hP, hD, hS, (lv_sub hl [0, 1, 2, 3, 4, 5, 6] rfl)⟩
                      · refine lv_iconst (v := 1) hx hb dX8_judge_144 (by decide) ?_
                        refine lv_iload hx hb dX8_judge_145 (lv_at hl 0 rfl) ?_
                        refine lv_ishl hx hb dX8_judge_147 ?_
                        refine lv_ti (y := (nI (2 ^ kk_34))) (shl1 kk_34 (by omega)) ?_
                        refine lv_goto (tgt := 152) hx hb dX8_judge_148 (by decide) ?_
                        have hgl_34 : g2_34 < 2 ^ kk_34 := by rw [hv_34.2]; exact rowN_lt _ _
                        refine lv_ior hx hb dX8_judge_152 ?_
                        refine lv_ti (y := (nI (g2_34 + 2 ^ kk_34))) (or_nb (by omega) hgl_34) ?_
                        refine lv_istore (lv' := [(5, .int (nI (g2_34 + 2 ^ kk_34))), (6, .int (nI kk_34)), (4, .int (nI ii_28)), (0, .ref (a 0)), (1, .int (nI j_2)), (2, .int (nI j_4)), (3, .int p2)]) hx hb dX8_judge_153 hl (by decide) rfl (fun ls hl => ?_)
                        refine lv_iinc (v := (nI (kk_34 + 1))) (lv' := [(6, .int (nI (kk_34 + 1))), (5, .int (nI (g2_34 + 2 ^ kk_34))), (4, .int (nI ii_28)), (0, .ref (a 0)), (1, .int (nI j_2)), (2, .int (nI j_4)), (3, .int p2)]) hx hb dX8_judge_155 hl (k := 1) rfl (nI_add kk_34 1) (by decide) rfl (fun ls hl => ?_)
                        refine lv_goto (tgt := 117) hx hb dX8_judge_158 (by decide) ?_
                        exact ih_34 _ (kk_34 + 1, g2_34 + 2 ^ kk_34) _ _ _ (by omega) ⟨rfl, ⟨by omega, (by show _ = rowN (fun k => frow (ii_28 + k)) kk_34 + (if frow (ii_28 + kk_34) = 1 then 2 ^ kk_34 else 0); rw [if_pos ((hfr _ (by omega)).resolve_left c_44), ← hv_34.2])⟩, hP, hD, hS, (lv_sub hl [0, 1, 2, 3, 4, 5, 6] rfl)⟩
            · refine lv_sipush (v := (-1003)) hx hb dX8_judge_63 (by decide) ?_
              obtain ⟨hP9, hD9⟩ := pd_sub [((a 0), .inr (8, (fX8 a (nI tx) fp (nI t0) wd (nI we) nu na (nI rd) ts (nI ru) (nI rw) (nI ca) df db sd))), (aI k (a 1) 3 (nF dn)), (aI k (a 4) 27 (sg se tm gs)), (aI k (a 2) 72 ffrees), (aI k (a 3) 72 fprices), (aZ k (a 32) 24 frow), (aI k (a 18) 768 fons), (aI k (a 19) 768 fworths), (aI k (a 20) 5 fstarts), (aI k (a 21) 4 fends), (aZ k (a 22) 4 fgoesRound), (aI k (a 23) 8 fbegin)] [0, 1, 2, 3, 4, 5, 6, 7, 8, 9, 10, 11] hP hD (by decide +kernel) rfl
              exact W.iret (v := (-1003)) hx hb hr (fun t ht hW => ⟨⟨(-1003), (fons, fworths, fstarts, fends, fgoesRound, fbegin), rfl, tq_at (s := j_2) (by omega) (show 0 < dn j_2 by omega) (show jdA (nI j_4) p2 frow rw (sdM dn (sg se tm gs) ffrees fprices j_2) _ from jd_n (by rw [rdM]; exact inr (by omega) (htm _)) (.inr (.inr ⟨c_7, by rw [c_26]; decide⟩))), by rw [ht]; exact hP9, hD9⟩, hS.F ht⟩) hS.2.2 dX8_judge_66
    · refine lv_if_ne (tgt := 25) hx hb dX8_judge_18 (by decide) (fun h => absurd (by decide) h) (fun _ => ?_)
      refine lv_sipush (v := (-1002)) hx hb dX8_judge_21 (by decide) ?_
      obtain ⟨hP9, hD9⟩ := pd_sub [((a 0), .inr (8, (fX8 a (nI tx) fp (nI t0) wd (nI we) nu na (nI rd) ts (nI ru) (nI rw) (nI ca) df db sd))), (aI k (a 1) 3 (nF dn)), (aI k (a 4) 27 (sg se tm gs)), (aI k (a 2) 72 ffrees), (aI k (a 3) 72 fprices), (aZ k (a 32) 24 frow), (aI k (a 18) 768 fons), (aI k (a 19) 768 fworths), (aI k (a 20) 5 fstarts), (aI k (a 21) 4 fends), (aZ k (a 22) 4 fgoesRound), (aI k (a 23) 8 fbegin)] [0, 1, 2, 3, 4, 5, 6, 7, 8, 9, 10, 11] hP hD (by decide +kernel) rfl
      exact W.iret (v := (-1002)) hx hb hr (fun t ht hW => ⟨⟨(-1002), (fons, fworths, fstarts, fends, fgoesRound, fbegin), rfl, tq_at (s := j_2) (by omega) (show 0 < dn j_2 by omega) (jd_o (by rw [rdM]; exact hw_3)), by rw [ht]; exact hP9, hD9⟩, hS.F ht⟩) hS.2.2 dX8_judge_24
  · refine lv_if_ne (tgt := 12) hx hb dX8_judge_5 (by decide) (fun h => absurd (by decide) h) (fun _ => ?_)
    refine lv_sipush (v := (-1001)) hx hb dX8_judge_8 (by decide) ?_
    obtain ⟨hP9, hD9⟩ := pd_sub [((a 0), .inr (8, (fX8 a (nI tx) fp (nI t0) wd (nI we) nu na (nI rd) ts (nI ru) (nI rw) (nI ca) df db sd))), (aI k (a 1) 3 (nF dn)), (aI k (a 4) 27 (sg se tm gs)), (aI k (a 2) 72 ffrees), (aI k (a 3) 72 fprices), (aZ k (a 32) 24 frow), (aI k (a 18) 768 fons), (aI k (a 19) 768 fworths), (aI k (a 20) 5 fstarts), (aI k (a 21) 4 fends), (aZ k (a 22) 4 fgoesRound), (aI k (a 23) 8 fbegin)] [0, 1, 2, 3, 4, 5, 6, 7, 8, 9, 10, 11] hP hD (by decide +kernel) rfl
    exact W.iret (v := (-1001)) hx hb hr (fun t ht hW => ⟨⟨(-1001), (fons, fworths, fstarts, fends, fgoesRound, fbegin), rfl, tq_no (fun s h1 h2 h3 => hw_1 s h1 h2 h3), by rw [ht]; exact hP9, hD9⟩, hS.F ht⟩) hS.2.2 dX8_judge_11

theorem f_glueP27 : True := trivial
/-! which of two streets it is, by what was seen -/
def pLk (d : SDt) (i : Nat) (a x : Int32) : Int32 := if x = 1 then pChance d i a else 100 - pChance d i a
def pAhd (f : Nat → Int32) (i : Nat) : Int32 := if i = 0 then 0 else b11 (f (i - 1))
def thA (w : Int64) (l : Int32) : Int64 := w * l.toInt64 / 100
def thG (w v : Int64) : Int64 := if v < w then w else v
def thS (x : Int64 × Int64) (la lb : Int32) : Int64 × Int64 := if 0 < thG (thA x.1 la) (thA x.2 lb) then (thA x.1 la * 1000000 / thG (thA x.1 la) (thA x.2 lb), thA x.2 lb * 1000000 / thG (thA x.1 la) (thA x.2 lb)) else (thA x.1 la, thA x.2 lb)
def thN (d e : SDt) (f : Nat → Int32) : Nat → Int64 × Int64
  | 0 => (500000, 500000)
  | i + 1 => thS (thN d e f i) (pLk d i (pAhd f i) (f i)) (pLk e i (pAhd f i) (f i))
def thZ (x : Int64 × Int64) : Int32 := if x.1 + x.2 = 0 then 0 else (x.1 * 1000000 / (x.1 + x.2)).toInt32
def thR (d e : SDt) (f : Nat → Int32) (z : Nat) : Int32 := thZ (thN d e f (min z (min d.1 e.1)))
def mB (w : Int64) : Prop := ∃ a : Nat, a ≤ 1000000 ∧ w.toInt = (a : Int)
theorem thA_b {w : Int64} {l : Int32} (h : mB w) (hl : inB l 0 100) : mB (thA w l) := by
  obtain ⟨a, ha, ea⟩ := h
  obtain ⟨b, hb, eb⟩ : ∃ b : Nat, b ≤ 100 ∧ l.toInt = (b : Int) := by
    have h1 := Int32.le_iff_toInt_le.mp hl.1
    have h2 := Int32.le_iff_toInt_le.mp hl.2
    have e0 : (0 : Int32).toInt = 0 := by decide
    have e1 : (100 : Int32).toInt = 100 := by decide
    exact ⟨l.toInt.toNat, by omega, by omega⟩
  have hm : a * b ≤ 1000000 * 100 := Nat.mul_le_mul ha hb
  have ep : (w * l.toInt64).toInt = ((a * b : Nat) : Int) := by
    rw [Int64.toInt_mul, Int32.toInt_toInt64, ea, eb, ← Int.natCast_mul]
    exact Int.bmod_eq_of_le (by omega) (by omega)
  refine ⟨a * b / 100, by omega, ?_⟩
  show (w * l.toInt64 / 100).toInt = _
  rw [Int64.toInt_div_of_ne_right _ _ (by decide), ep, show (100 : Int64).toInt = ((100 : Nat) : Int) by decide]
  rfl
theorem thD_b {w g : Int64} {a c : Nat} (ea : w.toInt = (a : Int)) (ec : g.toInt = (c : Int)) (h : a ≤ c) (hc : c ≤ 1000000) (h0 : 0 < c) : mB (w * 1000000 / g) := by
  have hm : a * 1000000 ≤ c * 1000000 := Nat.mul_le_mul_right _ h
  have ep : (w * 1000000).toInt = ((a * 1000000 : Nat) : Int) := by
    rw [Int64.toInt_mul, ea, show (1000000 : Int64).toInt = ((1000000 : Nat) : Int) by decide, ← Int.natCast_mul]
    exact Int.bmod_eq_of_le (by omega) (by omega)
  have e1 : (-1 : Int64).toInt = -1 := by decide
  refine ⟨a * 1000000 / c, Nat.le_trans (Nat.div_le_div_right hm) (Nat.le_of_eq (Nat.mul_div_cancel_left _ h0)), ?_⟩
  rw [Int64.toInt_div_of_ne_right _ _ (fun e => by rw [e, e1] at ec; omega), ep, ec]
  rfl
theorem thS_b {x : Int64 × Int64} {la lb : Int32} (h : mB x.1 ∧ mB x.2) (ha : inB la 0 100) (hb : inB lb 0 100) : mB (thS x la lb).1 ∧ mB (thS x la lb).2 := by
  have h1 := thA_b h.1 ha
  have h2 := thA_b h.2 hb
  unfold thS
  by_cases c : 0 < thG (thA x.1 la) (thA x.2 lb)
  · rw [if_pos c]
    obtain ⟨a, a1, ea⟩ := h1
    obtain ⟨b, b1, eb⟩ := h2
    have k := Int64.lt_iff_toInt_lt.mp c
    have e0 : (0 : Int64).toInt = 0 := by decide
    obtain ⟨g, hg1, hg2, hg3, eg⟩ : ∃ g : Nat, a ≤ g ∧ b ≤ g ∧ g ≤ 1000000 ∧ (thG (thA x.1 la) (thA x.2 lb)).toInt = (g : Int) := by
      unfold thG
      by_cases q : thA x.2 lb < thA x.1 la
      · have q1 := Int64.lt_iff_toInt_lt.mp q
        rw [if_pos q]
        exact ⟨a, by omega, by omega, a1, ea⟩
      · have q1 : ¬ (thA x.2 lb).toInt < (thA x.1 la).toInt := fun z => q (Int64.lt_iff_toInt_lt.mpr z)
        rw [if_neg q]
        exact ⟨b, by omega, by omega, b1, eb⟩
    rw [eg, e0] at k
    exact ⟨thD_b ea eg hg1 hg3 (by omega), thD_b eb eg hg2 hg3 (by omega)⟩
  · rw [if_neg c]
    exact ⟨h1, h2⟩
theorem pCl_b {v : Int32} : inB (pCl v) 0 100 := by
  unfold pCl
  by_cases h : 0 ≤ v
  · rw [if_pos h]
    by_cases g : v ≤ 100
    · rw [if_pos g]
      exact ⟨h, g⟩
    · rw [if_neg g]
      exact ⟨by decide, by decide⟩
  · rw [if_neg h]
    exact ⟨by decide, by decide⟩
theorem pLk_b {d : SDt} {i : Nat} {a x : Int32} : inB (pLk d i a x) 0 100 := by
  have h : inB (pChance d i a) 0 100 := pCl_b
  unfold pLk
  by_cases c : x = 1
  · rw [if_pos c]
    exact h
  · rw [if_neg c]
    have h1 := Int32.le_iff_toInt_le.mp h.1
    have h2 := Int32.le_iff_toInt_le.mp h.2
    have e0 : (0 : Int32).toInt = 0 := by decide
    have e1 : (100 : Int32).toInt = 100 := by decide
    have e : (100 - pChance d i a).toInt = 100 - (pChance d i a).toInt := by
      rw [Int32.toInt_sub, e1]
      exact Int.bmod_eq_of_le (by omega) (by omega)
    exact ⟨Int32.le_iff_toInt_le.mpr (by omega), Int32.le_iff_toInt_le.mpr (by omega)⟩
theorem thN_b {d e : SDt} {f : Nat → Int32} : ∀ i, mB (thN d e f i).1 ∧ mB (thN d e f i).2 := by
  intro i
  induction i with
  | zero => exact ⟨⟨500000, by decide, (by decide : (500000 : Int64).toInt = ((500000 : Nat) : Int))⟩, ⟨500000, by decide, (by decide : (500000 : Int64).toInt = ((500000 : Nat) : Int))⟩⟩
  | succ i ih => exact thS_b ih pLk_b pLk_b
theorem lgle0 {x : Int64} (h : lg_cmp x 0 ≤ 0) : ¬ 0 < x := fun q => absurd h (Int32.not_le.mpr ((lg_cmp_gt _ _).mpr q))
theorem lggt0 {x : Int64} (h : ¬ lg_cmp x 0 ≤ 0) : 0 < x := (lg_cmp_gt _ _).mp (Int32.not_le.mp h)
theorem thg_le {a b : Int64} (c : lg_cmp a b ≤ 0) : b = thG a b := (if_neg (fun q => absurd c (Int32.not_le.mpr ((lg_cmp_gt _ _).mpr q)))).symm
theorem thg_gt {a b : Int64} (c : ¬ lg_cmp a b ≤ 0) : a = thG a b := (if_pos ((lg_cmp_gt _ _).mp (Int32.not_le.mp c))).symm
theorem th_pos {x : Int64 × Int64} {la lb : Int32} {a b g p q w v : Int64} (ha : a = thA x.1 la) (hb : b = thA x.2 lb) (hg : g = thG a b) (c : ¬ lg_cmp g 0 ≤ 0) (hp : p = a * 1000000) (hw : w = p / g) (hq : q = b * 1000000) (hv : v = q / g) : w = (thS x la lb).1 ∧ v = (thS x la lb).2 := by
  have c1 := lggt0 c
  rw [hw, hv, hp, hq]
  rw [hg] at c1 ⊢
  rw [ha, hb] at c1 ⊢
  unfold thS
  rw [if_pos c1]
  exact ⟨rfl, rfl⟩
theorem th_neg {x : Int64 × Int64} {la lb : Int32} {a b g : Int64} (ha : a = thA x.1 la) (hb : b = thA x.2 lb) (hg : g = thG a b) (c : lg_cmp g 0 ≤ 0) : a = (thS x la lb).1 ∧ b = (thS x la lb).2 := by
  have c1 := lgle0 c
  rw [hg] at c1
  rw [ha, hb] at c1
  unfold thS
  rw [if_neg c1]
  exact ⟨ha, hb⟩
theorem th_sum {d e : SDt} {f : Nat → Int32} {i : Nat} (c : ¬ 0 < (thN d e f i).1 + (thN d e f i).2) : (thN d e f i).1 + (thN d e f i).2 = 0 := by
  obtain ⟨⟨a, a1, ea⟩, ⟨b, b1, eb⟩⟩ := thN_b (d := d) (e := e) (f := f) i
  have e0 : (0 : Int64).toInt = 0 := by decide
  have es : ((thN d e f i).1 + (thN d e f i).2).toInt = (a : Int) + (b : Int) := by
    rw [Int64.toInt_add, ea, eb]
    exact Int.bmod_eq_of_le (by omega) (by omega)
  have c1 : ¬ (0 : Int64).toInt < ((thN d e f i).1 + (thN d e f i).2).toInt := fun z => c (Int64.lt_iff_toInt_lt.mpr z)
  rw [es, e0] at c1
  exact Int64.toInt_inj.mp (by rw [es, e0]; omega)
theorem thR_0 {d e : SDt} {f : Nat → Int32} {z i : Nat} {w v s : Int64} (hi : i = min z (min d.1 e.1)) (hw : w = (thN d e f i).1) (hv : v = (thN d e f i).2) (hs : s = w + v) (c : lg_cmp s 0 ≤ 0) : (0 : Int32) = thR d e f z := by
  have c1 := lgle0 c
  rw [hs, hw, hv] at c1
  unfold thR thZ
  rw [← hi, if_pos (th_sum c1)]
theorem thR_1 {d e : SDt} {f : Nat → Int32} {z i : Nat} {w v s p q : Int64} {r : Int32} (hi : i = min z (min d.1 e.1)) (hw : w = (thN d e f i).1) (hv : v = (thN d e f i).2) (hs : s = w + v) (c : ¬ lg_cmp s 0 ≤ 0) (hp : p = w * 1000000) (hq : q = p / s) (hr : r = q.toInt32) : r = thR d e f z := by
  have c1 := lggt0 c
  rw [hr, hq, hp]
  rw [hs] at c1 ⊢
  rw [hw, hv] at c1 ⊢
  unfold thR thZ
  rw [← hi, if_neg (fun z => by rw [z] at c1; exact absurd c1 (by decide))]
theorem thM_0 {d e : SDt} {f : Nat → Int32} {z i : Nat} {w v s : Int64} (hi : i = min z (min d.1 e.1)) (hw : w = (thN d e f i).1) (hv : v = (thN d e f i).2) (hs : s = w + v) (c : lg_cmp s 0 = 0) : (0 : Int32) = thR d e f z := by
  have c1 := lgc0 c
  rw [hs, hw, hv] at c1
  unfold thR thZ
  rw [← hi, if_pos c1]
theorem thM_1 {d e : SDt} {f : Nat → Int32} {z i : Nat} {w v s t p q : Int64} {r : Int32} (hi : i = min z (min d.1 e.1)) (hw : w = (thN d e f i).1) (hv : v = (thN d e f i).2) (hs : s = w + v) (c : ¬ lg_cmp s 0 = 0) (ht : t = w + v) (hp : p = w * 1000000) (hq : q = p / t) (hr : r = q.toInt32) : r = thR d e f z := by
  have c1 := lgn c
  rw [hr, hq, hp, ht]
  rw [hs] at c1
  rw [hw, hv] at c1 ⊢
  unfold thR thZ
  rw [← hi, if_neg c1]
theorem ahd_1 {f : Nat → Int32} {i : Nat} (h : f i = 1) : (1 : Int32) = pAhd f (i + 1) := by
  unfold pAhd b11
  rw [if_neg (by omega), Nat.add_sub_cancel, if_pos h]
theorem ahd_0 {f : Nat → Int32} {i : Nat} (h : ¬ f i = 1) : (0 : Int32) = pAhd f (i + 1) := by
  unfold pAhd b11
  rw [if_neg (by omega), Nat.add_sub_cancel, if_neg h]
theorem thh_1 {f : Nat → Int32} {i : Nat} (h0 : 0 < i) (h : f (i - 1) = 1) : (1 : Int32) = pAhd f i := by
  unfold pAhd b11
  rw [if_neg (by omega), if_pos h]
theorem thh_0 {f : Nat → Int32} {i : Nat} (h0 : 0 < i) (h : f (i - 1) = 0) : (0 : Int32) = pAhd f i := by
  unfold pAhd b11
  rw [if_neg (by omega), h, if_neg (by decide)]
theorem thh_z {f : Nat → Int32} {i : Nat} (h : i = 0) : (0 : Int32) = pAhd f i := by
  unfold pAhd
  rw [if_pos h]
def thP (sd : Nat → SDt) (p0 p1 : Int32) (f : Nat → Int32) (z : Nat) (r : Int32) : Prop := ((∀ s t, s < 3 → t < 3 → p0 = nI s → p1 = nI t → ¬ (0 < (sd s).1 ∧ 0 < (sd t).1)) → r = -1001) ∧ ∀ s t, s < 3 → t < 3 → p0 = nI s → p1 = nI t → 0 < (sd s).1 → 0 < (sd t).1 → r = thR (sd s) (sd t) f z
theorem thP_fun {sd se : Nat → SDt} {p0 p1 r q : Int32} {f : Nat → Int32} {z : Nat} (h : thP sd p0 p1 f z r) (g : thP se p0 p1 f z q) (e : ∀ i, i < 3 → sd i = se i) : r = q := by
  rcases Classical.em (∃ s t, s < 3 ∧ t < 3 ∧ p0 = nI s ∧ p1 = nI t ∧ 0 < (sd s).1 ∧ 0 < (sd t).1) with ⟨s, t, h1, h2, h3, h4, h5, h6⟩ | hn
  · have a := h.2 s t h1 h2 h3 h4 h5 h6
    have b := g.2 s t h1 h2 h3 h4 (by rw [← e s h1]; exact h5) (by rw [← e t h2]; exact h6)
    rw [a, b, e s h1, e t h2]
  · have a := h.1 (fun s t h1 h2 h3 h4 h5 => hn ⟨s, t, h1, h2, h3, h4, h5.1, h5.2⟩)
    have b := g.1 (fun s t h1 h2 h3 h4 h5 => hn ⟨s, t, h1, h2, h3, h4, by rw [e s h1]; exact h5.1, by rw [e t h2]; exact h5.2⟩)
    exact a.trans b.symm
theorem th_no0 {sd : Nat → SDt} {p0 p1 : Int32} {f : Nat → Int32} {z : Nat} (h : ∀ s, s < 3 → p0 = nI s → ¬ 0 < (sd s).1) : thP sd p0 p1 f z (-1001) := ⟨fun _ => rfl, fun s t h1 _ h3 _ h5 _ => absurd h5 (h s h1 h3)⟩
theorem th_no1 {sd : Nat → SDt} {p0 p1 : Int32} {f : Nat → Int32} {z : Nat} (h : ∀ s, s < 3 → p1 = nI s → ¬ 0 < (sd s).1) : thP sd p0 p1 f z (-1001) := ⟨fun _ => rfl, fun s t _ h2 _ h4 _ h6 => absurd h6 (h t h2 h4)⟩
theorem th_at {sd : Nat → SDt} {s t : Nat} {r : Int32} {f : Nat → Int32} {z : Nat} (hs : s < 3) (ht : t < 3) (h1 : 0 < (sd s).1) (h2 : 0 < (sd t).1) (h : r = thR (sd s) (sd t) f z) : thP sd (nI s) (nI t) f z r := by
  refine ⟨fun q => absurd ⟨h1, h2⟩ (q s t hs ht rfl rfl), fun a b a1 b1 a2 b2 _ _ => ?_⟩
  have := nI_inj (by omega) (by omega) a2
  subst this
  have := nI_inj (by omega) (by omega) b2
  subst this
  exact h


def fX_lk (g : Nat → Int32) (ff : Nat → Int32) (i : Nat) (p1 : Int32) (p2 : Int32) : Int32 := (if p2 = 0 then (100 - (fX_chance g ff i p1)) else (fX_chance g ff i p1))
set_option maxHeartbeats 4000000 in
set_option maxRecDepth 100000 in
theorem y_likelihood (l : Launch) (D : va_G) (k : Nat → ClassId) (st : Nat → Nat) (lo : Nat) (h0 : Nat) (h1 : Nat) (h2 : Nat) (h3 : Nat) (h4 : Nat) (n : Nat) (see : Nat) (tm : Nat) (g : Nat → Int32) (ff : Nat → Int32) (i : Nat) (p1 : Int32) (p2 : Int32) (hi : i < 24) : CRi l D k st lo yX2_likelihood cX2_likelihood 5 (some .int) ({ frames := 2, cells := 0, slots := 0, locals := 83 }) [.ref h0, .int (nI i), .int p1, .int p2] [(h0, .inr (5, (fX5 h1 h2 h3 h4))), (aI k h1 10 (vv n see tm g)), (aI k h2 24 ff)] (fun r => r = fX_lk g ff i p1 p2) := by
  intro sz
  refine Met.ofW (cc := cX2_likelihood) (maxL := 5) (ret := (some .int)) (by decide) rfl ?_
  intro p e s m args below meth c s₁ B hml hv
  obtain ⟨rfl, hsz, hlo, hP, hK, hDL, hZ⟩ := hv
  have hx := B.exec
  have hb := B.bytes
  have hr := B.returns
  have hts := WS_ts B.pre
  have hown : s.vm.findClass RX2 = some m.cls := findClass_of_methodNamed B.named
  have hlocks := B.notSynchronized
  subst hsz
  have hA : ∀ q : Nat, s.heap.size ≤ q → (fun q : Nat => s.heap.size ≤ q) q := fun _ h => h
  have hAlo : ∀ q : Nat, (fun q : Nat => s.heap.size ≤ q) q → lo ≤ q := fun q h => Nat.le_trans hlo h
  have hS : va_S (fun q : Nat => s.heap.size ≤ q) s.heap s.heap [] := va_S.rf
  have hl := lv_entry ([.ref h0, .int (nI i), .int p1, .int p2]) (n := 5) (Nat.le_of_ble_eq_true rfl)
  rw [lg_entry_eq]
  generalize (lg_sl ([.ref h0, .int (nI i), .int p1, .int p2]) ++ List.replicate (5 - (lg_sl ([.ref h0, .int (nI i), .int p1, .int p2])).length) Slot.unset).toArray = ls at hl ⊢
  have hl : lv_has ls 5 [(0, .ref h0), (1, .int (nI i)), (2, .int p1), (3, .int p2)] := hl
  refine lv_aload_n hx hb dX2_likelihood_0 rfl (lv_at hl 0 rfl) ?_
  refine lv_iload_n hx hb dX2_likelihood_1 rfl (lv_at hl 1 rfl) ?_
  refine lv_iload_n hx hb dX2_likelihood_2 rfl (lv_at hl 2 rfl) ?_
  refine ro_i (D := D) (va_runV (As := [.int (nI i), .int p1]) (rest := []) ⟨hx, hb, hml, hown, hts⟩ ((y_chanceOf l D k st lo h0 h1 h2 h3 h4 n see tm g ff i p1 (by first | assumption | omega)) s.heap.size) (cwV 2 hts (gV tw_733 tw_565 tw_566 tw_81 tw_567) rfl rfl rfl (by decide +kernel) ⟨Nat.le_of_ble_eq_true rfl, Nat.le_of_ble_eq_true rfl⟩) (pV hS hAlo hlo hP hK hDL hZ [0, 1, 2] (by decide) rfl (ci := 5) (q := (RX5, TX5, 4)) (q0 := 0) rfl rfl) rfl rfl hl.1 rfl (lv_room (Nat.le_of_ble_eq_true rfl)) dX2_likelihood_3 ⟨Nat.le_of_ble_eq_true rfl, Nat.le_of_ble_eq_true rfl⟩) hS hA hP (fun r_1 H locs hw_1 hP hS => ?_)
  try dsimp only at hw_1
  refine lv_istore (lv' := [(4, .int r_1), (0, .ref h0), (1, .int (nI i)), (2, .int p1), (3, .int p2)]) hx hb dX2_likelihood_6 hl (by decide) rfl (fun ls hl => ?_)
  refine lv_iload_n hx hb dX2_likelihood_8 rfl (lv_at hl 4 rfl) ?_
  refine W_join (fun (x_4 : Int32) (H : Heap) (locs : List Loc) (ls : Array Slot) => x_4 = (if p2 = 0 then (100 - r_1) else r_1) ∧ va_P D classes [(h0, .inr (5, (fX5 h1 h2 h3 h4))), (aI k h1 10 (vv n see tm g)), (aI k h2 24 ff)] H ∧ va_S (fun q : Nat => s.heap.size ≤ q) s.heap H locs ∧ lv_has ls 5 [(4, .int r_1), (3, .int p2), (2, .int p1), (1, .int (nI i)), (0, .ref h0)]) (fun (x_4 : Int32) => [.int x_4]) 22 (fun x_4 H locs ls hJ => ?_) (fun J_4 => ?_)
  · obtain ⟨hj_4, hP, hS, hl⟩ := hJ
    show W p l e _ s m _ below meth c H locs _ _ _ (F0 m 22 ls [.int x_4])
    exact W.iret (v := x_4) hx hb hr (fun t ht hW => ⟨⟨x_4, (), rfl, (by show _ = fX_lk g ff i p1 p2; unfold fX_lk; first | (rw [hj_4, hw_1]; done) | (rw [hj_4, hw_1]; rfl) | (simp only [hj_4, hw_1]; done)), trivial⟩, hS.F ht⟩) hS.2.2 dX2_likelihood_22
  · refine lv_if_eq (tgt := 17) hx hb dX2_likelihood_9 (by decide) (fun c_5 => ?_) (fun c_5 => ?_)
    · refine lv_bipush (v := 100) hx hb dX2_likelihood_17 (by decide) ?_
      refine lv_iload hx hb dX2_likelihood_19 (lv_at hl 0 rfl) ?_
      refine lv_isub hx hb dX2_likelihood_21 ?_
      refine lv_topi (fun x_6 ex_6 => ?_)
      exact J_4 x_6 _ _ _ ⟨(by first | (rw [if_pos c_5, ex_6]; done) | (rw [if_pos c_5, ex_6]; rfl) | (simp only [if_pos c_5, ex_6]; done)), hP, hS, lv_sub hl [0, 4, 3, 2, 1] rfl⟩
    · refine lv_iload hx hb dX2_likelihood_12 (lv_at hl 0 rfl) ?_
      refine lv_goto (tgt := 22) hx hb dX2_likelihood_14 (by decide) ?_
      exact J_4 r_1 _ _ _ ⟨(by first | (rw [if_neg c_5]; done) | (rw [if_neg c_5]; rfl) | (simp only [if_neg c_5]; done)), hP, hS, lv_sub hl [0, 4, 3, 2, 1] rfl⟩


theorem f_xlk : True := trivial
theorem xLk1 {n see tm i : Nat} {g ff fp : Nat → Int32} {p y : Int32} (hi : i < n) (hb : inB (ff i) 0 100) (hy : y = 1) : fX_lk g ff i p 1 = pLk (sdX n see tm g ff fp) i p y := by
  unfold fX_lk pLk
  rw [if_neg (by decide), if_pos hy, xChance hi hb]
theorem xLk0 {n see tm i : Nat} {g ff fp : Nat → Int32} {p y : Int32} (hi : i < n) (hb : inB (ff i) 0 100) (hy : ¬ y = 1) : fX_lk g ff i p 0 = pLk (sdX n see tm g ff fp) i p y := by
  unfold fX_lk pLk
  rw [if_pos rfl, if_neg hy, xChance hi hb]


set_option maxHeartbeats 4000000 in
set_option maxRecDepth 100000 in
theorem y_thoughtOf1 (l : Launch) (D : va_G) (k : Nat → ClassId) (st : Nat → Nat) (lo : Nat) (y0 : Nat) (y1 : Nat) (y2 : Nat) (y3 : Nat) (wt : Int32) (wc : Int32) (h0 : Nat) (h1 : Nat) (h2 : Nat) (h3 : Nat) (h4 : Nat) (n : Nat) (see : Nat) (tm : Nat) (g : Nat → Int32) (ff : Nat → Int32) (fp : Nat → Int32) (c0 : Nat) (c1 : Nat) (c2 : Nat) (cc : Nat) (rz : Nat) (ro : Int32) (sd : Int32) (fr : Nat → Int32) (hn : n ≤ 24) (hrz : rz ≤ 24) (hro : ro = nI (rowN fr rz)) (hoka : okD (sdX n see tm g ff fp)) : CRi l D k st lo yX2_thoughtOf cX2_thoughtOf 14 (some .int) ({ frames := 3, cells := 0, slots := 0, locals := 107 }) [.ref y0, .ref h0, .ref h0, .ref c0] [(y0, .inr (2, (fX2 y1 y2 y3 wt wc))), (h0, .inr (5, (fX5 h1 h2 h3 h4))), (aI k h1 10 (vv n see tm g)), (aI k h2 24 ff), (aI k h3 24 fp), (c0, .inr (4, (fX4 c1 c2 (nI cc) (nI rz) ro sd)))] (fun r => r = thR (sdX n see tm g ff fp) (sdX n see tm g ff fp) fr rz) := by
  intro sz
  refine Met.ofW (cc := cX2_thoughtOf) (maxL := 14) (ret := (some .int)) (by decide) rfl ?_
  intro p e s m args below meth c s₁ B hml hv
  obtain ⟨rfl, hsz, hlo, hP, hK, hDL, hZ⟩ := hv
  have hx := B.exec
  have hb := B.bytes
  have hr := B.returns
  have hts := WS_ts B.pre
  have hown : s.vm.findClass RX2 = some m.cls := findClass_of_methodNamed B.named
  have hlocks := B.notSynchronized
  subst hsz
  have hA : ∀ q : Nat, s.heap.size ≤ q → (fun q : Nat => s.heap.size ≤ q) q := fun _ h => h
  have hAlo : ∀ q : Nat, (fun q : Nat => s.heap.size ≤ q) q → lo ≤ q := fun q h => Nat.le_trans hlo h
  have hS : va_S (fun q : Nat => s.heap.size ≤ q) s.heap s.heap [] := va_S.rf
  have hl := lv_entry ([.ref y0, .ref h0, .ref h0, .ref c0]) (n := 14) (Nat.le_of_ble_eq_true rfl)
  rw [lg_entry_eq]
  generalize (lg_sl ([.ref y0, .ref h0, .ref h0, .ref c0]) ++ List.replicate (14 - (lg_sl ([.ref y0, .ref h0, .ref h0, .ref c0])).length) Slot.unset).toArray = ls at hl ⊢
  have hl : lv_has ls 14 [(0, .ref y0), (1, .ref h0), (2, .ref h0), (3, .ref c0)] := hl
  refine lv_ldc2 hx hb hown (hts _ tw_769) dX2_thoughtOf_0 ?_
  refine lv_lstore (lv' := [(4, .long 500000), (0, .ref y0), (1, .ref h0), (2, .ref h0), (3, .ref c0)]) hx hb dX2_thoughtOf_3 hl (by decide) rfl (fun ls hl => ?_)
  refine lv_ldc2 hx hb hown (hts _ tw_769) dX2_thoughtOf_5 ?_
  refine lv_lstore (lv' := [(6, .long 500000), (4, .long 500000), (0, .ref y0), (1, .ref h0), (2, .ref h0), (3, .ref c0)]) hx hb dX2_thoughtOf_8 hl (by decide) rfl (fun ls hl => ?_)
  refine lv_aload_n hx hb dX2_thoughtOf_10 rfl (lv_at hl 5 rfl) ?_
  refine va_get (D := D) (ci := 4) (v := .int (nI rz)) (C := RX4) (T := TX4) (N := 6) hx hb hts inX4 hown hK hP 5 rfl rfl 3 (by decide) (hts _ tw_182) (fun _ h9 => h9) rfl dX2_thoughtOf_11 ?_
  refine lv_aload_n hx hb dX2_thoughtOf_14 rfl (lv_at hl 3 rfl) ?_
  refine ro_i (D := D) (va_runV (As := []) (rest := [.int (nI rz)]) ⟨hx, hb, hml, hown, hts⟩ ((x_doors l D k st lo h0 h1 h2 h3 h4 n see tm g) s.heap.size) (cwV 0 hts (gV tw_723 tw_478 tw_479 tw_81 tw_480) rfl rfl rfl (by decide +kernel) ⟨Nat.le_of_ble_eq_true rfl, Nat.le_of_ble_eq_true rfl⟩) (pV hS hAlo hlo hP hK hDL hZ [1, 2] (by decide) rfl (ci := 5) (q := (RX5, TX5, 4)) (q0 := 0) rfl rfl) rfl rfl hl.1 rfl (lv_room (Nat.le_of_ble_eq_true rfl)) dX2_thoughtOf_15 ⟨Nat.le_of_ble_eq_true rfl, Nat.le_of_ble_eq_true rfl⟩) hS hA hP (fun r_1 H locs hw_1 hP hS => ?_)
  try dsimp only at hw_1
  subst hw_1
  refine lv_aload_n hx hb dX2_thoughtOf_18 rfl (lv_at hl 4 rfl) ?_
  refine ro_i (D := D) (va_runV (As := []) (rest := [.int (nI n), .int (nI rz)]) ⟨hx, hb, hml, hown, hts⟩ ((x_doors l D k st lo h0 h1 h2 h3 h4 n see tm g) H.size) (cwV 0 hts (gV tw_723 tw_478 tw_479 tw_81 tw_480) rfl rfl rfl (by decide +kernel) ⟨Nat.le_of_ble_eq_true rfl, Nat.le_of_ble_eq_true rfl⟩) (pV hS hAlo hlo hP hK hDL hZ [1, 2] (by decide) rfl (ci := 5) (q := (RX5, TX5, 4)) (q0 := 0) rfl rfl) rfl rfl hl.1 rfl (lv_room (Nat.le_of_ble_eq_true rfl)) dX2_thoughtOf_19 ⟨Nat.le_of_ble_eq_true rfl, Nat.le_of_ble_eq_true rfl⟩) hS hA hP (fun r_2 H locs hw_2 hP hS => ?_)
  try dsimp only at hw_2
  subst hw_2
  refine va_mmin hx hb (by rw [hml]; exact hl.1.symm) hown (hts _ tw_770) (hts _ tw_529) (hts _ tw_93) (hts _ tw_530) (Nat.le_of_ble_eq_true rfl) (Nat.le_of_ble_eq_true rfl) (Nat.le_of_ble_eq_true rfl) (Nat.le_of_ble_eq_true rfl) dX2_thoughtOf_22 ?_
  refine lv_ti (y := (nI (min n n))) (mminN (by omega) (by omega)) ?_
  refine va_mmin hx hb (by rw [hml]; exact hl.1.symm) hown (hts _ tw_770) (hts _ tw_529) (hts _ tw_93) (hts _ tw_530) (Nat.le_of_ble_eq_true rfl) (Nat.le_of_ble_eq_true rfl) (Nat.le_of_ble_eq_true rfl) (Nat.le_of_ble_eq_true rfl) dX2_thoughtOf_25 ?_
  refine lv_ti (y := (nI (min rz (min n n)))) (mminN (by omega) (by omega)) ?_
  refine lv_istore (lv' := [(8, .int (nI (min rz (min n n)))), (6, .long 500000), (4, .long 500000), (0, .ref y0), (1, .ref h0), (2, .ref h0), (3, .ref c0)]) hx hb dX2_thoughtOf_28 hl (by decide) rfl (fun ls hl => ?_)
  refine lv_iconst (v := 0) hx hb dX2_thoughtOf_30 (by decide) ?_
  refine lv_istore (lv' := [(9, .int 0), (8, .int (nI (min rz (min n n)))), (6, .long 500000), (4, .long 500000), (0, .ref y0), (1, .ref h0), (2, .ref h0), (3, .ref c0)]) hx hb dX2_thoughtOf_31 hl (by decide) rfl (fun ls hl => ?_)
  refine lv_iconst (v := 0) hx hb dX2_thoughtOf_33 (by decide) ?_
  refine lv_istore (lv' := [(10, .int 0), (9, .int 0), (8, .int (nI (min rz (min n n)))), (6, .long 500000), (4, .long 500000), (0, .ref y0), (1, .ref h0), (2, .ref h0), (3, .ref c0)]) hx hb dX2_thoughtOf_34 hl (by decide) rfl (fun ls hl => ?_)
  refine W_loop (σ := Nat × Int64 × Int64 × Int32) (fun (n_ : Nat) (x_ : Nat × Int64 × Int64 × Int32) (H : Heap) (locs : List Loc) (ls : Array Slot) => match x_ with | (ii_5, w2_5, v2_5, ah_5) => n_ = 25 - ii_5 ∧ (ii_5 ≤ min rz (min n n) ∧ ah_5 = pAhd fr ii_5 ∧ w2_5 = (thN (sdX n see tm g ff fp) (sdX n see tm g ff fp) fr ii_5).1 ∧ v2_5 = (thN (sdX n see tm g ff fp) (sdX n see tm g ff fp) fr ii_5).2) ∧ va_P D classes [(y0, .inr (2, (fX2 y1 y2 y3 wt wc))), (h0, .inr (5, (fX5 h1 h2 h3 h4))), (aI k h1 10 (vv n see tm g)), (aI k h2 24 ff), (aI k h3 24 fp), (c0, .inr (4, (fX4 c1 c2 (nI cc) (nI rz) ro sd)))] H ∧ va_S (fun q : Nat => s.heap.size ≤ q) s.heap H locs ∧ lv_has ls 14 [(10, .int (nI ii_5)), (9, .int ah_5), (8, .int (nI (min rz (min n n)))), (6, .long v2_5), (4, .long w2_5), (0, .ref y0), (1, .ref h0), (2, .ref h0), (3, .ref c0)]) (fun n_5 x_5 H locs ls hI ih_5 => ?_) _ (0, 500000, 500000, 0) ⟨rfl, ⟨Nat.zero_le _, rfl, rfl, rfl⟩, hP, hS, (lv_sub hl [0, 1, 2, 3, 4, 5, 6, 7, 8] rfl)⟩
  obtain ⟨ii_5, w2_5, v2_5, ah_5⟩ := x_5
  obtain ⟨hm_5, hv_5, hP, hS, hl⟩ := hI
  subst hm_5
  refine lv_iload hx hb dX2_thoughtOf_36 (lv_at hl 0 rfl) ?_
  refine lv_iload hx hb dX2_thoughtOf_38 (lv_at hl 2 rfl) ?_
  refine lv_icmp_ge (tgt := 139) hx hb dX2_thoughtOf_40 (by decide) (fun c_6 => ?_) (fun c_6 => ?_)
  · have c_6 := (nI_leI (a := (min rz (min n n))) (b := ii_5) (by omega) (by omega)).mp c_6
    refine lv_lload hx hb dX2_thoughtOf_139 (lv_at hl 4 rfl) ?_
    refine lv_lload hx hb dX2_thoughtOf_141 (lv_at hl 3 rfl) ?_
    refine lv_ladd hx hb dX2_thoughtOf_143 ?_
    refine lv_topl (fun x_7 ex_7 => ?_)
    refine lv_lstore (lv' := [(10, .long x_7), (9, .int ah_5), (8, .int (nI (min rz (min n n)))), (6, .long v2_5), (4, .long w2_5), (0, .ref y0), (1, .ref h0), (2, .ref h0), (3, .ref c0)]) hx hb dX2_thoughtOf_144 hl (by decide) rfl (fun ls hl => ?_)
    refine lv_lload hx hb dX2_thoughtOf_146 (lv_at hl 0 rfl) ?_
    refine lv_lconst (v := 0) hx hb dX2_thoughtOf_148 (by decide) ?_
    refine W.lcmp hx hb dX2_thoughtOf_149 ?_
    refine lv_if_le (tgt := 166) hx hb dX2_thoughtOf_150 (by decide) (fun c_8 => ?_) (fun c_8 => ?_)
    · refine lv_iconst (v := 0) hx hb dX2_thoughtOf_166 (by decide) ?_
      exact W.iret (v := 0) hx hb hr (fun t ht hW => ⟨⟨0, (), rfl, (thR_0 (d := (sdX n see tm g ff fp)) (e := (sdX n see tm g ff fp)) (show ii_5 = min rz (min n n) by omega) hv_5.2.2.1 hv_5.2.2.2 ex_7 c_8), trivial⟩, hS.F ht⟩) hS.2.2 dX2_thoughtOf_167
    · refine lv_lload hx hb dX2_thoughtOf_153 (lv_at hl 4 rfl) ?_
      refine lv_ldc2 hx hb hown (hts _ tw_779) dX2_thoughtOf_155 ?_
      refine lv_lmul hx hb dX2_thoughtOf_158 ?_
      refine lv_topl (fun x_9 ex_9 => ?_)
      refine lv_lload hx hb dX2_thoughtOf_159 (lv_at hl 0 rfl) ?_
      refine lv_ldiv hx hb dX2_thoughtOf_161 (fun h => c_8 (by rw [h]; decide)) ?_
      refine lv_topl (fun x_10 ex_10 => ?_)
      refine lv_l2i hx hb dX2_thoughtOf_162 rfl ?_
      refine lv_topi (fun x_11 ex_11 => ?_)
      refine lv_goto (tgt := 167) hx hb dX2_thoughtOf_163 (by decide) ?_
      exact W.iret (v := x_11) hx hb hr (fun t ht hW => ⟨⟨x_11, (), rfl, (thR_1 (d := (sdX n see tm g ff fp)) (e := (sdX n see tm g ff fp)) (show ii_5 = min rz (min n n) by omega) hv_5.2.2.1 hv_5.2.2.2 ex_7 c_8 ex_9 ex_10 ex_11), trivial⟩, hS.F ht⟩) hS.2.2 dX2_thoughtOf_167
  · have c_6 : ¬ ((min rz (min n n)) ≤ ii_5) := fun h => c_6 ((nI_leI (a := (min rz (min n n))) (b := ii_5) (by omega) (by omega)).mpr h)
    refine lv_aload_n hx hb dX2_thoughtOf_43 rfl (lv_at hl 8 rfl) ?_
    refine lv_iload hx hb dX2_thoughtOf_44 (lv_at hl 0 rfl) ?_
    refine ro_i (D := D) (va_runV (As := [.int (nI ii_5)]) (rest := []) ⟨hx, hb, hml, hown, hts⟩ ((y_sawFree l D k st lo c0 c1 c2 cc rz ro sd ii_5 fr hro (by first | assumption | omega) (by first | assumption | omega)) H.size) (cwV 1 hts (gV tw_771 tw_753 tw_754 tw_82 tw_755) rfl rfl rfl (by decide +kernel) ⟨Nat.le_of_ble_eq_true rfl, Nat.le_of_ble_eq_true rfl⟩) (pV hS hAlo hlo hP hK hDL hZ [5] (by decide) rfl (ci := 4) (q := (RX4, TX4, 6)) (q0 := 0) rfl rfl) rfl rfl hl.1 rfl (lv_room (Nat.le_of_ble_eq_true rfl)) dX2_thoughtOf_46 ⟨Nat.le_of_ble_eq_true rfl, Nat.le_of_ble_eq_true rfl⟩) hS hA hP (fun r_12 H locs hw_12 hP hS => ?_)
    try dsimp only at hw_12
    rcases hw_12 with ⟨rfl, hw_12⟩ | ⟨rfl, hw_12⟩
    · refine lv_istore (lv' := [(11, .int 1), (10, .int (nI ii_5)), (9, .int ah_5), (8, .int (nI (min rz (min n n)))), (6, .long v2_5), (4, .long w2_5), (0, .ref y0), (1, .ref h0), (2, .ref h0), (3, .ref c0)]) hx hb dX2_thoughtOf_49 hl (by decide) rfl (fun ls hl => ?_)
      refine lv_lload hx hb dX2_thoughtOf_51 (lv_at hl 5 rfl) ?_
      refine lv_aload_n hx hb dX2_thoughtOf_53 rfl (lv_at hl 7 rfl) ?_
      refine lv_iload hx hb dX2_thoughtOf_54 (lv_at hl 1 rfl) ?_
      refine lv_iload hx hb dX2_thoughtOf_56 (lv_at hl 2 rfl) ?_
      refine lv_iload hx hb dX2_thoughtOf_58 (lv_at hl 0 rfl) ?_
      refine ro_i (D := D) (va_runS (As := [.ref h0, .int (nI ii_5), .int ah_5, .int 1]) (rest := [.long w2_5]) ⟨hx, hb, hml, hown, hts⟩ ((y_likelihood l D k st lo h0 h1 h2 h3 h4 n see tm g ff ii_5 ah_5 1 (by first | assumption | omega)) H.size) (va_cwS 4 hts (gS tw_772 tw_773 tw_83 tw_774) rfl rfl rfl (by decide +kernel) ⟨Nat.le_of_ble_eq_true rfl, Nat.le_of_ble_eq_true rfl⟩) (pS hS hAlo hlo hP hK hDL hZ [1, 2, 3] (by decide) rfl) rfl rfl hl.1 rfl (lv_room (Nat.le_of_ble_eq_true rfl)) dX2_thoughtOf_60 ⟨Nat.le_of_ble_eq_true rfl, Nat.le_of_ble_eq_true rfl⟩) hS hA hP (fun r_13 H locs hw_13 hP hS => ?_)
      try dsimp only at hw_13
      refine lv_i2l (v := r_13.toInt64) hx hb dX2_thoughtOf_63 rfl ?_
      refine lv_lmul hx hb dX2_thoughtOf_64 ?_
      refine lv_topl (fun x_14 ex_14 => ?_)
      refine lv_ldc2 hx hb hown (hts _ tw_775) dX2_thoughtOf_65 ?_
      refine lv_ldiv hx hb dX2_thoughtOf_68 (by decide) ?_
      refine lv_topl (fun x_15 ex_15 => ?_)
      have hta_16 : x_15 = thA (thN (sdX n see tm g ff fp) (sdX n see tm g ff fp) fr ii_5).1 (pLk (sdX n see tm g ff fp) ii_5 (pAhd fr ii_5) (fr ii_5)) := by unfold thA; rw [ex_15, ex_14, hw_13, xLk1 (see := see) (tm := tm) (fp := fp) (show ii_5 < n by omega) (okX hoka (by omega)) hw_12, hv_5.2.1, hv_5.2.2.1]
      refine lv_lstore (lv' := [(4, .long x_15), (11, .int 1), (10, .int (nI ii_5)), (9, .int ah_5), (8, .int (nI (min rz (min n n)))), (6, .long v2_5), (0, .ref y0), (1, .ref h0), (2, .ref h0), (3, .ref c0)]) hx hb dX2_thoughtOf_69 hl (by decide) rfl (fun ls hl => ?_)
      refine lv_lload hx hb dX2_thoughtOf_71 (lv_at hl 5 rfl) ?_
      refine lv_aload_n hx hb dX2_thoughtOf_73 rfl (lv_at hl 8 rfl) ?_
      refine lv_iload hx hb dX2_thoughtOf_74 (lv_at hl 2 rfl) ?_
      refine lv_iload hx hb dX2_thoughtOf_76 (lv_at hl 3 rfl) ?_
      refine lv_iload hx hb dX2_thoughtOf_78 (lv_at hl 1 rfl) ?_
      refine ro_i (D := D) (va_runS (As := [.ref h0, .int (nI ii_5), .int ah_5, .int 1]) (rest := [.long v2_5]) ⟨hx, hb, hml, hown, hts⟩ ((y_likelihood l D k st lo h0 h1 h2 h3 h4 n see tm g ff ii_5 ah_5 1 (by first | assumption | omega)) H.size) (va_cwS 4 hts (gS tw_772 tw_773 tw_83 tw_774) rfl rfl rfl (by decide +kernel) ⟨Nat.le_of_ble_eq_true rfl, Nat.le_of_ble_eq_true rfl⟩) (pS hS hAlo hlo hP hK hDL hZ [1, 2, 3] (by decide) rfl) rfl rfl hl.1 rfl (lv_room (Nat.le_of_ble_eq_true rfl)) dX2_thoughtOf_80 ⟨Nat.le_of_ble_eq_true rfl, Nat.le_of_ble_eq_true rfl⟩) hS hA hP (fun r_17 H locs hw_17 hP hS => ?_)
      try dsimp only at hw_17
      refine lv_i2l (v := r_17.toInt64) hx hb dX2_thoughtOf_83 rfl ?_
      refine lv_lmul hx hb dX2_thoughtOf_84 ?_
      refine lv_topl (fun x_18 ex_18 => ?_)
      refine lv_ldc2 hx hb hown (hts _ tw_775) dX2_thoughtOf_85 ?_
      refine lv_ldiv hx hb dX2_thoughtOf_88 (by decide) ?_
      refine lv_topl (fun x_19 ex_19 => ?_)
      have hta_20 : x_19 = thA (thN (sdX n see tm g ff fp) (sdX n see tm g ff fp) fr ii_5).2 (pLk (sdX n see tm g ff fp) ii_5 (pAhd fr ii_5) (fr ii_5)) := by unfold thA; rw [ex_19, ex_18, hw_17, xLk1 (see := see) (tm := tm) (fp := fp) (show ii_5 < n by omega) (okX hoka (by omega)) hw_12, hv_5.2.1, hv_5.2.2.2]
      refine lv_lstore (lv' := [(6, .long x_19), (4, .long x_15), (11, .int 1), (10, .int (nI ii_5)), (9, .int ah_5), (8, .int (nI (min rz (min n n)))), (0, .ref y0), (1, .ref h0), (2, .ref h0), (3, .ref c0)]) hx hb dX2_thoughtOf_89 hl (by decide) rfl (fun ls hl => ?_)
      refine lv_lload hx hb dX2_thoughtOf_91 (lv_at hl 1 rfl) ?_
      refine lv_lload hx hb dX2_thoughtOf_93 (lv_at hl 0 rfl) ?_
      refine va_mmax_long hx hb (by rw [hml]; exact hl.1.symm) hown (hts _ tw_776) (hts _ tw_777) (hts _ tw_93) (hts _ tw_778) (Nat.le_of_ble_eq_true rfl) (Nat.le_of_ble_eq_true rfl) (Nat.le_of_ble_eq_true rfl) (Nat.le_of_ble_eq_true rfl) dX2_thoughtOf_95 ?_
      refine lv_topl (fun x_21 ex_21 => ?_)
      refine lv_lstore (lv' := [(12, .long x_21), (6, .long x_19), (4, .long x_15), (11, .int 1), (10, .int (nI ii_5)), (9, .int ah_5), (8, .int (nI (min rz (min n n)))), (0, .ref y0), (1, .ref h0), (2, .ref h0), (3, .ref c0)]) hx hb dX2_thoughtOf_98 hl (by decide) rfl (fun ls hl => ?_)
      refine lv_lload hx hb dX2_thoughtOf_100 (lv_at hl 0 rfl) ?_
      refine lv_lconst (v := 0) hx hb dX2_thoughtOf_102 (by decide) ?_
      refine W.lcmp hx hb dX2_thoughtOf_103 ?_
      refine lv_if_le (tgt := 129) hx hb dX2_thoughtOf_104 (by decide) (fun c_22 => ?_) (fun c_22 => ?_)
      · have hth_23 := th_neg hta_16 hta_20 (show x_21 = thG x_15 x_19 from ex_21) c_22
        refine lv_iload hx hb dX2_thoughtOf_129 (lv_at hl 3 rfl) ?_
        refine lv_istore (lv' := [(9, .int 1), (12, .long x_21), (6, .long x_19), (4, .long x_15), (11, .int 1), (10, .int (nI ii_5)), (8, .int (nI (min rz (min n n)))), (0, .ref y0), (1, .ref h0), (2, .ref h0), (3, .ref c0)]) hx hb dX2_thoughtOf_131 hl (by decide) rfl (fun ls hl => ?_)
        refine lv_iinc (v := (nI (ii_5 + 1))) (lv' := [(10, .int (nI (ii_5 + 1))), (9, .int 1), (12, .long x_21), (6, .long x_19), (4, .long x_15), (11, .int 1), (8, .int (nI (min rz (min n n)))), (0, .ref y0), (1, .ref h0), (2, .ref h0), (3, .ref c0)]) hx hb dX2_thoughtOf_133 hl (k := 5) rfl (nI_add ii_5 1) (by decide) rfl (fun ls hl => ?_)
        refine lv_goto (tgt := 36) hx hb dX2_thoughtOf_136 (by decide) ?_
        exact ih_5 _ (ii_5 + 1, x_15, x_19, 1) _ _ _ (by omega) ⟨rfl, ⟨by omega, ahd_1 hw_12, hth_23.1, hth_23.2⟩, hP, hS, (lv_sub hl [0, 1, 6, 3, 4, 7, 8, 9, 10] rfl)⟩
      · refine lv_lload hx hb dX2_thoughtOf_107 (lv_at hl 2 rfl) ?_
        refine lv_ldc2 hx hb hown (hts _ tw_779) dX2_thoughtOf_109 ?_
        refine lv_lmul hx hb dX2_thoughtOf_112 ?_
        refine lv_topl (fun x_24 ex_24 => ?_)
        refine lv_lload hx hb dX2_thoughtOf_113 (lv_at hl 0 rfl) ?_
        refine lv_ldiv hx hb dX2_thoughtOf_115 (fun h => c_22 (by rw [h]; decide)) ?_
        refine lv_topl (fun x_25 ex_25 => ?_)
        refine lv_lstore (lv' := [(4, .long x_25), (12, .long x_21), (6, .long x_19), (11, .int 1), (10, .int (nI ii_5)), (9, .int ah_5), (8, .int (nI (min rz (min n n)))), (0, .ref y0), (1, .ref h0), (2, .ref h0), (3, .ref c0)]) hx hb dX2_thoughtOf_116 hl (by decide) rfl (fun ls hl => ?_)
        refine lv_lload hx hb dX2_thoughtOf_118 (lv_at hl 2 rfl) ?_
        refine lv_ldc2 hx hb hown (hts _ tw_779) dX2_thoughtOf_120 ?_
        refine lv_lmul hx hb dX2_thoughtOf_123 ?_
        refine lv_topl (fun x_26 ex_26 => ?_)
        refine lv_lload hx hb dX2_thoughtOf_124 (lv_at hl 1 rfl) ?_
        refine lv_ldiv hx hb dX2_thoughtOf_126 (fun h => c_22 (by rw [h]; decide)) ?_
        refine lv_topl (fun x_27 ex_27 => ?_)
        refine lv_lstore (lv' := [(6, .long x_27), (4, .long x_25), (12, .long x_21), (11, .int 1), (10, .int (nI ii_5)), (9, .int ah_5), (8, .int (nI (min rz (min n n)))), (0, .ref y0), (1, .ref h0), (2, .ref h0), (3, .ref c0)]) hx hb dX2_thoughtOf_127 hl (by decide) rfl (fun ls hl => ?_)
        have hth_28 := th_pos hta_16 hta_20 (show x_21 = thG x_15 x_19 from ex_21) c_22 ex_24 ex_25 ex_26 ex_27
        refine lv_iload hx hb dX2_thoughtOf_129 (lv_at hl 3 rfl) ?_
        refine lv_istore (lv' := [(9, .int 1), (6, .long x_27), (4, .long x_25), (12, .long x_21), (11, .int 1), (10, .int (nI ii_5)), (8, .int (nI (min rz (min n n)))), (0, .ref y0), (1, .ref h0), (2, .ref h0), (3, .ref c0)]) hx hb dX2_thoughtOf_131 hl (by decide) rfl (fun ls hl => ?_)
        refine lv_iinc (v := (nI (ii_5 + 1))) (lv' := [(10, .int (nI (ii_5 + 1))), (9, .int 1), (6, .long x_27), (4, .long x_25), (12, .long x_21), (11, .int 1), (8, .int (nI (min rz (min n n)))), (0, .ref y0), (1, .ref h0), (2, .ref h0), (3, .ref c0)]) hx hb dX2_thoughtOf_133 hl (k := 5) rfl (nI_add ii_5 1) (by decide) rfl (fun ls hl => ?_)
        refine lv_goto (tgt := 36) hx hb dX2_thoughtOf_136 (by decide) ?_
        exact ih_5 _ (ii_5 + 1, x_25, x_27, 1) _ _ _ (by omega) ⟨rfl, ⟨by omega, ahd_1 hw_12, hth_28.1, hth_28.2⟩, hP, hS, (lv_sub hl [0, 1, 6, 2, 3, 7, 8, 9, 10] rfl)⟩
    · refine lv_istore (lv' := [(11, .int 0), (10, .int (nI ii_5)), (9, .int ah_5), (8, .int (nI (min rz (min n n)))), (6, .long v2_5), (4, .long w2_5), (0, .ref y0), (1, .ref h0), (2, .ref h0), (3, .ref c0)]) hx hb dX2_thoughtOf_49 hl (by decide) rfl (fun ls hl => ?_)
      refine lv_lload hx hb dX2_thoughtOf_51 (lv_at hl 5 rfl) ?_
      refine lv_aload_n hx hb dX2_thoughtOf_53 rfl (lv_at hl 7 rfl) ?_
      refine lv_iload hx hb dX2_thoughtOf_54 (lv_at hl 1 rfl) ?_
      refine lv_iload hx hb dX2_thoughtOf_56 (lv_at hl 2 rfl) ?_
      refine lv_iload hx hb dX2_thoughtOf_58 (lv_at hl 0 rfl) ?_
      refine ro_i (D := D) (va_runS (As := [.ref h0, .int (nI ii_5), .int ah_5, .int 0]) (rest := [.long w2_5]) ⟨hx, hb, hml, hown, hts⟩ ((y_likelihood l D k st lo h0 h1 h2 h3 h4 n see tm g ff ii_5 ah_5 0 (by first | assumption | omega)) H.size) (va_cwS 4 hts (gS tw_772 tw_773 tw_83 tw_774) rfl rfl rfl (by decide +kernel) ⟨Nat.le_of_ble_eq_true rfl, Nat.le_of_ble_eq_true rfl⟩) (pS hS hAlo hlo hP hK hDL hZ [1, 2, 3] (by decide) rfl) rfl rfl hl.1 rfl (lv_room (Nat.le_of_ble_eq_true rfl)) dX2_thoughtOf_60 ⟨Nat.le_of_ble_eq_true rfl, Nat.le_of_ble_eq_true rfl⟩) hS hA hP (fun r_29 H locs hw_29 hP hS => ?_)
      try dsimp only at hw_29
      refine lv_i2l (v := r_29.toInt64) hx hb dX2_thoughtOf_63 rfl ?_
      refine lv_lmul hx hb dX2_thoughtOf_64 ?_
      refine lv_topl (fun x_30 ex_30 => ?_)
      refine lv_ldc2 hx hb hown (hts _ tw_775) dX2_thoughtOf_65 ?_
      refine lv_ldiv hx hb dX2_thoughtOf_68 (by decide) ?_
      refine lv_topl (fun x_31 ex_31 => ?_)
      have hta_32 : x_31 = thA (thN (sdX n see tm g ff fp) (sdX n see tm g ff fp) fr ii_5).1 (pLk (sdX n see tm g ff fp) ii_5 (pAhd fr ii_5) (fr ii_5)) := by unfold thA; rw [ex_31, ex_30, hw_29, xLk0 (see := see) (tm := tm) (fp := fp) (show ii_5 < n by omega) (okX hoka (by omega)) hw_12, hv_5.2.1, hv_5.2.2.1]
      refine lv_lstore (lv' := [(4, .long x_31), (11, .int 0), (10, .int (nI ii_5)), (9, .int ah_5), (8, .int (nI (min rz (min n n)))), (6, .long v2_5), (0, .ref y0), (1, .ref h0), (2, .ref h0), (3, .ref c0)]) hx hb dX2_thoughtOf_69 hl (by decide) rfl (fun ls hl => ?_)
      refine lv_lload hx hb dX2_thoughtOf_71 (lv_at hl 5 rfl) ?_
      refine lv_aload_n hx hb dX2_thoughtOf_73 rfl (lv_at hl 8 rfl) ?_
      refine lv_iload hx hb dX2_thoughtOf_74 (lv_at hl 2 rfl) ?_
      refine lv_iload hx hb dX2_thoughtOf_76 (lv_at hl 3 rfl) ?_
      refine lv_iload hx hb dX2_thoughtOf_78 (lv_at hl 1 rfl) ?_
      refine ro_i (D := D) (va_runS (As := [.ref h0, .int (nI ii_5), .int ah_5, .int 0]) (rest := [.long v2_5]) ⟨hx, hb, hml, hown, hts⟩ ((y_likelihood l D k st lo h0 h1 h2 h3 h4 n see tm g ff ii_5 ah_5 0 (by first | assumption | omega)) H.size) (va_cwS 4 hts (gS tw_772 tw_773 tw_83 tw_774) rfl rfl rfl (by decide +kernel) ⟨Nat.le_of_ble_eq_true rfl, Nat.le_of_ble_eq_true rfl⟩) (pS hS hAlo hlo hP hK hDL hZ [1, 2, 3] (by decide) rfl) rfl rfl hl.1 rfl (lv_room (Nat.le_of_ble_eq_true rfl)) dX2_thoughtOf_80 ⟨Nat.le_of_ble_eq_true rfl, Nat.le_of_ble_eq_true rfl⟩) hS hA hP (fun r_33 H locs hw_33 hP hS => ?_)
      try dsimp only at hw_33
      refine lv_i2l (v := r_33.toInt64) hx hb dX2_thoughtOf_83 rfl ?_
      refine lv_lmul hx hb dX2_thoughtOf_84 ?_
      refine lv_topl (fun x_34 ex_34 => ?_)
      refine lv_ldc2 hx hb hown (hts _ tw_775) dX2_thoughtOf_85 ?_
      refine lv_ldiv hx hb dX2_thoughtOf_88 (by decide) ?_
      refine lv_topl (fun x_35 ex_35 => ?_)
      have hta_36 : x_35 = thA (thN (sdX n see tm g ff fp) (sdX n see tm g ff fp) fr ii_5).2 (pLk (sdX n see tm g ff fp) ii_5 (pAhd fr ii_5) (fr ii_5)) := by unfold thA; rw [ex_35, ex_34, hw_33, xLk0 (see := see) (tm := tm) (fp := fp) (show ii_5 < n by omega) (okX hoka (by omega)) hw_12, hv_5.2.1, hv_5.2.2.2]
      refine lv_lstore (lv' := [(6, .long x_35), (4, .long x_31), (11, .int 0), (10, .int (nI ii_5)), (9, .int ah_5), (8, .int (nI (min rz (min n n)))), (0, .ref y0), (1, .ref h0), (2, .ref h0), (3, .ref c0)]) hx hb dX2_thoughtOf_89 hl (by decide) rfl (fun ls hl => ?_)
      refine lv_lload hx hb dX2_thoughtOf_91 (lv_at hl 1 rfl) ?_
      refine lv_lload hx hb dX2_thoughtOf_93 (lv_at hl 0 rfl) ?_
      refine va_mmax_long hx hb (by rw [hml]; exact hl.1.symm) hown (hts _ tw_776) (hts _ tw_777) (hts _ tw_93) (hts _ tw_778) (Nat.le_of_ble_eq_true rfl) (Nat.le_of_ble_eq_true rfl) (Nat.le_of_ble_eq_true rfl) (Nat.le_of_ble_eq_true rfl) dX2_thoughtOf_95 ?_
      refine lv_topl (fun x_37 ex_37 => ?_)
      refine lv_lstore (lv' := [(12, .long x_37), (6, .long x_35), (4, .long x_31), (11, .int 0), (10, .int (nI ii_5)), (9, .int ah_5), (8, .int (nI (min rz (min n n)))), (0, .ref y0), (1, .ref h0), (2, .ref h0), (3, .ref c0)]) hx hb dX2_thoughtOf_98 hl (by decide) rfl (fun ls hl => ?_)
      refine lv_lload hx hb dX2_thoughtOf_100 (lv_at hl 0 rfl) ?_
      refine lv_lconst (v := 0) hx hb dX2_thoughtOf_102 (by decide) ?_
      refine W.lcmp hx hb dX2_thoughtOf_103 ?_
      refine lv_if_le (tgt := 129) hx hb dX2_thoughtOf_104 (by decide) (fun c_38 => ?_) (fun c_38 => ?_)
      · have hth_39 := th_neg hta_32 hta_36 (show x_37 = thG x_31 x_35 from ex_37) c_38
        refine lv_iload hx hb dX2_thoughtOf_129 (lv_at hl 3 rfl) ?_
        refine lv_istore (lv' := [(9, .int 0), (12, .long x_37), (6, .long x_35), (4, .long x_31), (11, .int 0), (10, .int (nI ii_5)), (8, .int (nI (min rz (min n n)))), (0, .ref y0), (1, .ref h0), (2, .ref h0), (3, .ref c0)]) hx hb dX2_thoughtOf_131 hl (by decide) rfl (fun ls hl => ?_)
        refine lv_iinc (v := (nI (ii_5 + 1))) (lv' := [(10, .int (nI (ii_5 + 1))), (9, .int 0), (12, .long x_37), (6, .long x_35), (4, .long x_31), (11, .int 0), (8, .int (nI (min rz (min n n)))), (0, .ref y0), (1, .ref h0), (2, .ref h0), (3, .ref c0)]) hx hb dX2_thoughtOf_133 hl (k := 5) rfl (nI_add ii_5 1) (by decide) rfl (fun ls hl => ?_)
        refine lv_goto (tgt := 36) hx hb dX2_thoughtOf_136 (by decide) ?_
        exact ih_5 _ (ii_5 + 1, x_31, x_35, 0) _ _ _ (by omega) ⟨rfl, ⟨by omega, ahd_0 hw_12, hth_39.1, hth_39.2⟩, hP, hS, (lv_sub hl [0, 1, 6, 3, 4, 7, 8, 9, 10] rfl)⟩
      · refine lv_lload hx hb dX2_thoughtOf_107 (lv_at hl 2 rfl) ?_
        refine lv_ldc2 hx hb hown (hts _ tw_779) dX2_thoughtOf_109 ?_
        refine lv_lmul hx hb dX2_thoughtOf_112 ?_
        refine lv_topl (fun x_40 ex_40 => ?_)
        refine lv_lload hx hb dX2_thoughtOf_113 (lv_at hl 0 rfl) ?_
        refine lv_ldiv hx hb dX2_thoughtOf_115 (fun h => c_38 (by rw [h]; decide)) ?_
        refine lv_topl (fun x_41 ex_41 => ?_)
        refine lv_lstore (lv' := [(4, .long x_41), (12, .long x_37), (6, .long x_35), (11, .int 0), (10, .int (nI ii_5)), (9, .int ah_5), (8, .int (nI (min rz (min n n)))), (0, .ref y0), (1, .ref h0), (2, .ref h0), (3, .ref c0)]) hx hb dX2_thoughtOf_116 hl (by decide) rfl (fun ls hl => ?_)
        refine lv_lload hx hb dX2_thoughtOf_118 (lv_at hl 2 rfl) ?_
        refine lv_ldc2 hx hb hown (hts _ tw_779) dX2_thoughtOf_120 ?_
        refine lv_lmul hx hb dX2_thoughtOf_123 ?_
        refine lv_topl (fun x_42 ex_42 => ?_)
        refine lv_lload hx hb dX2_thoughtOf_124 (lv_at hl 1 rfl) ?_
        refine lv_ldiv hx hb dX2_thoughtOf_126 (fun h => c_38 (by rw [h]; decide)) ?_
        refine lv_topl (fun x_43 ex_43 => ?_)
        refine lv_lstore (lv' := [(6, .long x_43), (4, .long x_41), (12, .long x_37), (11, .int 0), (10, .int (nI ii_5)), (9, .int ah_5), (8, .int (nI (min rz (min n n)))), (0, .ref y0), (1, .ref h0), (2, .ref h0), (3, .ref c0)]) hx hb dX2_thoughtOf_127 hl (by decide) rfl (fun ls hl => ?_)
        have hth_44 := th_pos hta_32 hta_36 (show x_37 = thG x_31 x_35 from ex_37) c_38 ex_40 ex_41 ex_42 ex_43
        refine lv_iload hx hb dX2_thoughtOf_129 (lv_at hl 3 rfl) ?_
        refine lv_istore (lv' := [(9, .int 0), (6, .long x_43), (4, .long x_41), (12, .long x_37), (11, .int 0), (10, .int (nI ii_5)), (8, .int (nI (min rz (min n n)))), (0, .ref y0), (1, .ref h0), (2, .ref h0), (3, .ref c0)]) hx hb dX2_thoughtOf_131 hl (by decide) rfl (fun ls hl => ?_)
        refine lv_iinc (v := (nI (ii_5 + 1))) (lv' := [(10, .int (nI (ii_5 + 1))), (9, .int 0), (6, .long x_43), (4, .long x_41), (12, .long x_37), (11, .int 0), (8, .int (nI (min rz (min n n)))), (0, .ref y0), (1, .ref h0), (2, .ref h0), (3, .ref c0)]) hx hb dX2_thoughtOf_133 hl (k := 5) rfl (nI_add ii_5 1) (by decide) rfl (fun ls hl => ?_)
        refine lv_goto (tgt := 36) hx hb dX2_thoughtOf_136 (by decide) ?_
        exact ih_5 _ (ii_5 + 1, x_41, x_43, 0) _ _ _ (by omega) ⟨rfl, ⟨by omega, ahd_0 hw_12, hth_44.1, hth_44.2⟩, hP, hS, (lv_sub hl [0, 1, 6, 2, 3, 7, 8, 9, 10] rfl)⟩


set_option maxHeartbeats 4000000 in
set_option maxRecDepth 100000 in
theorem y_thoughtOf (l : Launch) (D : va_G) (k : Nat → ClassId) (st : Nat → Nat) (lo : Nat) (y0 : Nat) (y1 : Nat) (y2 : Nat) (y3 : Nat) (wt : Int32) (wc : Int32) (h0 : Nat) (h1 : Nat) (h2 : Nat) (h3 : Nat) (h4 : Nat) (n : Nat) (see : Nat) (tm : Nat) (g : Nat → Int32) (ff : Nat → Int32) (fp : Nat → Int32) (d0 : Nat) (d1 : Nat) (d2 : Nat) (d3 : Nat) (d4 : Nat) (nq : Nat) (seeq : Nat) (tmq : Nat) (gq : Nat → Int32) (ffq : Nat → Int32) (fpq : Nat → Int32) (c0 : Nat) (c1 : Nat) (c2 : Nat) (cc : Nat) (rz : Nat) (ro : Int32) (sd : Int32) (fr : Nat → Int32) (hn : n ≤ 24) (hnq : nq ≤ 24) (hrz : rz ≤ 24) (hro : ro = nI (rowN fr rz)) (hoka : okD (sdX n see tm g ff fp)) (hokb : okD (sdX nq seeq tmq gq ffq fpq)) : CRi l D k st lo yX2_thoughtOf cX2_thoughtOf 14 (some .int) ({ frames := 3, cells := 0, slots := 0, locals := 107 }) [.ref y0, .ref h0, .ref d0, .ref c0] [(y0, .inr (2, (fX2 y1 y2 y3 wt wc))), (h0, .inr (5, (fX5 h1 h2 h3 h4))), (aI k h1 10 (vv n see tm g)), (aI k h2 24 ff), (aI k h3 24 fp), (d0, .inr (5, (fX5 d1 d2 d3 d4))), (aI k d1 10 (vv nq seeq tmq gq)), (aI k d2 24 ffq), (aI k d3 24 fpq), (c0, .inr (4, (fX4 c1 c2 (nI cc) (nI rz) ro sd)))] (fun r => r = thR (sdX n see tm g ff fp) (sdX nq seeq tmq gq ffq fpq) fr rz) := by
  intro sz
  refine Met.ofW (cc := cX2_thoughtOf) (maxL := 14) (ret := (some .int)) (by decide) rfl ?_
  intro p e s m args below meth c s₁ B hml hv
  obtain ⟨rfl, hsz, hlo, hP, hK, hDL, hZ⟩ := hv
  have hx := B.exec
  have hb := B.bytes
  have hr := B.returns
  have hts := WS_ts B.pre
  have hown : s.vm.findClass RX2 = some m.cls := findClass_of_methodNamed B.named
  have hlocks := B.notSynchronized
  subst hsz
  have hA : ∀ q : Nat, s.heap.size ≤ q → (fun q : Nat => s.heap.size ≤ q) q := fun _ h => h
  have hAlo : ∀ q : Nat, (fun q : Nat => s.heap.size ≤ q) q → lo ≤ q := fun q h => Nat.le_trans hlo h
  have hS : va_S (fun q : Nat => s.heap.size ≤ q) s.heap s.heap [] := va_S.rf
  have hl := lv_entry ([.ref y0, .ref h0, .ref d0, .ref c0]) (n := 14) (Nat.le_of_ble_eq_true rfl)
  rw [lg_entry_eq]
  generalize (lg_sl ([.ref y0, .ref h0, .ref d0, .ref c0]) ++ List.replicate (14 - (lg_sl ([.ref y0, .ref h0, .ref d0, .ref c0])).length) Slot.unset).toArray = ls at hl ⊢
  have hl : lv_has ls 14 [(0, .ref y0), (1, .ref h0), (2, .ref d0), (3, .ref c0)] := hl
  refine lv_ldc2 hx hb hown (hts _ tw_769) dX2_thoughtOf_0 ?_
  refine lv_lstore (lv' := [(4, .long 500000), (0, .ref y0), (1, .ref h0), (2, .ref d0), (3, .ref c0)]) hx hb dX2_thoughtOf_3 hl (by decide) rfl (fun ls hl => ?_)
  refine lv_ldc2 hx hb hown (hts _ tw_769) dX2_thoughtOf_5 ?_
  refine lv_lstore (lv' := [(6, .long 500000), (4, .long 500000), (0, .ref y0), (1, .ref h0), (2, .ref d0), (3, .ref c0)]) hx hb dX2_thoughtOf_8 hl (by decide) rfl (fun ls hl => ?_)
  refine lv_aload_n hx hb dX2_thoughtOf_10 rfl (lv_at hl 5 rfl) ?_
  refine va_get (D := D) (ci := 4) (v := .int (nI rz)) (C := RX4) (T := TX4) (N := 6) hx hb hts inX4 hown hK hP 9 rfl rfl 3 (by decide) (hts _ tw_182) (fun _ h9 => h9) rfl dX2_thoughtOf_11 ?_
  refine lv_aload_n hx hb dX2_thoughtOf_14 rfl (lv_at hl 3 rfl) ?_
  refine ro_i (D := D) (va_runV (As := []) (rest := [.int (nI rz)]) ⟨hx, hb, hml, hown, hts⟩ ((x_doors l D k st lo h0 h1 h2 h3 h4 n see tm g) s.heap.size) (cwV 0 hts (gV tw_723 tw_478 tw_479 tw_81 tw_480) rfl rfl rfl (by decide +kernel) ⟨Nat.le_of_ble_eq_true rfl, Nat.le_of_ble_eq_true rfl⟩) (pV hS hAlo hlo hP hK hDL hZ [1, 2] (by decide) rfl (ci := 5) (q := (RX5, TX5, 4)) (q0 := 0) rfl rfl) rfl rfl hl.1 rfl (lv_room (Nat.le_of_ble_eq_true rfl)) dX2_thoughtOf_15 ⟨Nat.le_of_ble_eq_true rfl, Nat.le_of_ble_eq_true rfl⟩) hS hA hP (fun r_1 H locs hw_1 hP hS => ?_)
  try dsimp only at hw_1
  subst hw_1
  refine lv_aload_n hx hb dX2_thoughtOf_18 rfl (lv_at hl 4 rfl) ?_
  refine ro_i (D := D) (va_runV (As := []) (rest := [.int (nI n), .int (nI rz)]) ⟨hx, hb, hml, hown, hts⟩ ((x_doors l D k st lo d0 d1 d2 d3 d4 nq seeq tmq gq) H.size) (cwV 0 hts (gV tw_723 tw_478 tw_479 tw_81 tw_480) rfl rfl rfl (by decide +kernel) ⟨Nat.le_of_ble_eq_true rfl, Nat.le_of_ble_eq_true rfl⟩) (pV hS hAlo hlo hP hK hDL hZ [5, 6] (by decide) rfl (ci := 5) (q := (RX5, TX5, 4)) (q0 := 0) rfl rfl) rfl rfl hl.1 rfl (lv_room (Nat.le_of_ble_eq_true rfl)) dX2_thoughtOf_19 ⟨Nat.le_of_ble_eq_true rfl, Nat.le_of_ble_eq_true rfl⟩) hS hA hP (fun r_2 H locs hw_2 hP hS => ?_)
  try dsimp only at hw_2
  subst hw_2
  refine va_mmin hx hb (by rw [hml]; exact hl.1.symm) hown (hts _ tw_770) (hts _ tw_529) (hts _ tw_93) (hts _ tw_530) (Nat.le_of_ble_eq_true rfl) (Nat.le_of_ble_eq_true rfl) (Nat.le_of_ble_eq_true rfl) (Nat.le_of_ble_eq_true rfl) dX2_thoughtOf_22 ?_
  refine lv_ti (y := (nI (min n nq))) (mminN (by omega) (by omega)) ?_
  refine va_mmin hx hb (by rw [hml]; exact hl.1.symm) hown (hts _ tw_770) (hts _ tw_529) (hts _ tw_93) (hts _ tw_530) (Nat.le_of_ble_eq_true rfl) (Nat.le_of_ble_eq_true rfl) (Nat.le_of_ble_eq_true rfl) (Nat.le_of_ble_eq_true rfl) dX2_thoughtOf_25 ?_
  refine lv_ti (y := (nI (min rz (min n nq)))) (mminN (by omega) (by omega)) ?_
  refine lv_istore (lv' := [(8, .int (nI (min rz (min n nq)))), (6, .long 500000), (4, .long 500000), (0, .ref y0), (1, .ref h0), (2, .ref d0), (3, .ref c0)]) hx hb dX2_thoughtOf_28 hl (by decide) rfl (fun ls hl => ?_)
  refine lv_iconst (v := 0) hx hb dX2_thoughtOf_30 (by decide) ?_
  refine lv_istore (lv' := [(9, .int 0), (8, .int (nI (min rz (min n nq)))), (6, .long 500000), (4, .long 500000), (0, .ref y0), (1, .ref h0), (2, .ref d0), (3, .ref c0)]) hx hb dX2_thoughtOf_31 hl (by decide) rfl (fun ls hl => ?_)
  refine lv_iconst (v := 0) hx hb dX2_thoughtOf_33 (by decide) ?_
  refine lv_istore (lv' := [(10, .int 0), (9, .int 0), (8, .int (nI (min rz (min n nq)))), (6, .long 500000), (4, .long 500000), (0, .ref y0), (1, .ref h0), (2, .ref d0), (3, .ref c0)]) hx hb dX2_thoughtOf_34 hl (by decide) rfl (fun ls hl => ?_)
  refine W_loop (σ := Nat × Int64 × Int64 × Int32) (fun (n_ : Nat) (x_ : Nat × Int64 × Int64 × Int32) (H : Heap) (locs : List Loc) (ls : Array Slot) => match x_ with | (ii_5, w2_5, v2_5, ah_5) => n_ = 25 - ii_5 ∧ (ii_5 ≤ min rz (min n nq) ∧ ah_5 = pAhd fr ii_5 ∧ w2_5 = (thN (sdX n see tm g ff fp) (sdX nq seeq tmq gq ffq fpq) fr ii_5).1 ∧ v2_5 = (thN (sdX n see tm g ff fp) (sdX nq seeq tmq gq ffq fpq) fr ii_5).2) ∧ va_P D classes [(y0, .inr (2, (fX2 y1 y2 y3 wt wc))), (h0, .inr (5, (fX5 h1 h2 h3 h4))), (aI k h1 10 (vv n see tm g)), (aI k h2 24 ff), (aI k h3 24 fp), (d0, .inr (5, (fX5 d1 d2 d3 d4))), (aI k d1 10 (vv nq seeq tmq gq)), (aI k d2 24 ffq), (aI k d3 24 fpq), (c0, .inr (4, (fX4 c1 c2 (nI cc) (nI rz) ro sd)))] H ∧ va_S (fun q : Nat => s.heap.size ≤ q) s.heap H locs ∧ lv_has ls 14 [(10, .int (nI ii_5)), (9, .int ah_5), (8, .int (nI (min rz (min n nq)))), (6, .long v2_5), (4, .long w2_5), (0, .ref y0), (1, .ref h0), (2, .ref d0), (3, .ref c0)]) (fun n_5 x_5 H locs ls hI ih_5 => ?_) _ (0, 500000, 500000, 0) ⟨rfl, ⟨Nat.zero_le _, rfl, rfl, rfl⟩, hP, hS, (lv_sub hl [0, 1, 2, 3, 4, 5, 6, 7, 8] rfl)⟩
  obtain ⟨ii_5, w2_5, v2_5, ah_5⟩ := x_5
  obtain ⟨hm_5, hv_5, hP, hS, hl⟩ := hI
  subst hm_5
  refine lv_iload hx hb dX2_thoughtOf_36 (lv_at hl 0 rfl) ?_
  refine lv_iload hx hb dX2_thoughtOf_38 (lv_at hl 2 rfl) ?_
  refine lv_icmp_ge (tgt := 139) hx hb dX2_thoughtOf_40 (by decide) (fun c_6 => ?_) (fun c_6 => ?_)
  · have c_6 := (nI_leI (a := (min rz (min n nq))) (b := ii_5) (by omega) (by omega)).mp c_6
    refine lv_lload hx hb dX2_thoughtOf_139 (lv_at hl 4 rfl) ?_
    refine lv_lload hx hb dX2_thoughtOf_141 (lv_at hl 3 rfl) ?_
    refine lv_ladd hx hb dX2_thoughtOf_143 ?_
    refine lv_topl (fun x_7 ex_7 => ?_)
    refine lv_lstore (lv' := [(10, .long x_7), (9, .int ah_5), (8, .int (nI (min rz (min n nq)))), (6, .long v2_5), (4, .long w2_5), (0, .ref y0), (1, .ref h0), (2, .ref d0), (3, .ref c0)]) hx hb dX2_thoughtOf_144 hl (by decide) rfl (fun ls hl => ?_)
    refine lv_lload hx hb dX2_thoughtOf_146 (lv_at hl 0 rfl) ?_
    refine lv_lconst (v := 0) hx hb dX2_thoughtOf_148 (by decide) ?_
    refine W.lcmp hx hb dX2_thoughtOf_149 ?_
    refine lv_if_le (tgt := 166) hx hb dX2_thoughtOf_150 (by decide) (fun c_8 => ?_) (fun c_8 => ?_)
    · refine lv_iconst (v := 0) hx hb dX2_thoughtOf_166 (by decide) ?_
      exact W.iret (v := 0) hx hb hr (fun t ht hW => ⟨⟨0, (), rfl, (thR_0 (d := (sdX n see tm g ff fp)) (e := (sdX nq seeq tmq gq ffq fpq)) (show ii_5 = min rz (min n nq) by omega) hv_5.2.2.1 hv_5.2.2.2 ex_7 c_8), trivial⟩, hS.F ht⟩) hS.2.2 dX2_thoughtOf_167
    · refine lv_lload hx hb dX2_thoughtOf_153 (lv_at hl 4 rfl) ?_
      refine lv_ldc2 hx hb hown (hts _ tw_779) dX2_thoughtOf_155 ?_
      refine lv_lmul hx hb dX2_thoughtOf_158 ?_
      refine lv_topl (fun x_9 ex_9 => ?_)
      refine lv_lload hx hb dX2_thoughtOf_159 (lv_at hl 0 rfl) ?_
      refine lv_ldiv hx hb dX2_thoughtOf_161 (fun h => c_8 (by rw [h]; decide)) ?_
      refine lv_topl (fun x_10 ex_10 => ?_)
      refine lv_l2i hx hb dX2_thoughtOf_162 rfl ?_
      refine lv_topi (fun x_11 ex_11 => ?_)
      refine lv_goto (tgt := 167) hx hb dX2_thoughtOf_163 (by decide) ?_
      exact W.iret (v := x_11) hx hb hr (fun t ht hW => ⟨⟨x_11, (), rfl, (thR_1 (d := (sdX n see tm g ff fp)) (e := (sdX nq seeq tmq gq ffq fpq)) (show ii_5 = min rz (min n nq) by omega) hv_5.2.2.1 hv_5.2.2.2 ex_7 c_8 ex_9 ex_10 ex_11), trivial⟩, hS.F ht⟩) hS.2.2 dX2_thoughtOf_167
  · have c_6 : ¬ ((min rz (min n nq)) ≤ ii_5) := fun h => c_6 ((nI_leI (a := (min rz (min n nq))) (b := ii_5) (by omega) (by omega)).mpr h)
    refine lv_aload_n hx hb dX2_thoughtOf_43 rfl (lv_at hl 8 rfl) ?_
    refine lv_iload hx hb dX2_thoughtOf_44 (lv_at hl 0 rfl) ?_
    refine ro_i (D := D) (va_runV (As := [.int (nI ii_5)]) (rest := []) ⟨hx, hb, hml, hown, hts⟩ ((y_sawFree l D k st lo c0 c1 c2 cc rz ro sd ii_5 fr hro (by first | assumption | omega) (by first | assumption | omega)) H.size) (cwV 1 hts (gV tw_771 tw_753 tw_754 tw_82 tw_755) rfl rfl rfl (by decide +kernel) ⟨Nat.le_of_ble_eq_true rfl, Nat.le_of_ble_eq_true rfl⟩) (pV hS hAlo hlo hP hK hDL hZ [9] (by decide) rfl (ci := 4) (q := (RX4, TX4, 6)) (q0 := 0) rfl rfl) rfl rfl hl.1 rfl (lv_room (Nat.le_of_ble_eq_true rfl)) dX2_thoughtOf_46 ⟨Nat.le_of_ble_eq_true rfl, Nat.le_of_ble_eq_true rfl⟩) hS hA hP (fun r_12 H locs hw_12 hP hS => ?_)
    try dsimp only at hw_12
    rcases hw_12 with ⟨rfl, hw_12⟩ | ⟨rfl, hw_12⟩
    · refine lv_istore (lv' := [(11, .int 1), (10, .int (nI ii_5)), (9, .int ah_5), (8, .int (nI (min rz (min n nq)))), (6, .long v2_5), (4, .long w2_5), (0, .ref y0), (1, .ref h0), (2, .ref d0), (3, .ref c0)]) hx hb dX2_thoughtOf_49 hl (by decide) rfl (fun ls hl => ?_)
      refine lv_lload hx hb dX2_thoughtOf_51 (lv_at hl 5 rfl) ?_
      refine lv_aload_n hx hb dX2_thoughtOf_53 rfl (lv_at hl 7 rfl) ?_
      refine lv_iload hx hb dX2_thoughtOf_54 (lv_at hl 1 rfl) ?_
      refine lv_iload hx hb dX2_thoughtOf_56 (lv_at hl 2 rfl) ?_
      refine lv_iload hx hb dX2_thoughtOf_58 (lv_at hl 0 rfl) ?_
      refine ro_i (D := D) (va_runS (As := [.ref h0, .int (nI ii_5), .int ah_5, .int 1]) (rest := [.long w2_5]) ⟨hx, hb, hml, hown, hts⟩ ((y_likelihood l D k st lo h0 h1 h2 h3 h4 n see tm g ff ii_5 ah_5 1 (by first | assumption | omega)) H.size) (va_cwS 4 hts (gS tw_772 tw_773 tw_83 tw_774) rfl rfl rfl (by decide +kernel) ⟨Nat.le_of_ble_eq_true rfl, Nat.le_of_ble_eq_true rfl⟩) (pS hS hAlo hlo hP hK hDL hZ [1, 2, 3] (by decide) rfl) rfl rfl hl.1 rfl (lv_room (Nat.le_of_ble_eq_true rfl)) dX2_thoughtOf_60 ⟨Nat.le_of_ble_eq_true rfl, Nat.le_of_ble_eq_true rfl⟩) hS hA hP (fun r_13 H locs hw_13 hP hS => ?_)
      try dsimp only at hw_13
      refine lv_i2l (v := r_13.toInt64) hx hb dX2_thoughtOf_63 rfl ?_
      refine lv_lmul hx hb dX2_thoughtOf_64 ?_
      refine lv_topl (fun x_14 ex_14 => ?_)
      refine lv_ldc2 hx hb hown (hts _ tw_775) dX2_thoughtOf_65 ?_
      refine lv_ldiv hx hb dX2_thoughtOf_68 (by decide) ?_
      refine lv_topl (fun x_15 ex_15 => ?_)
      have hta_16 : x_15 = thA (thN (sdX n see tm g ff fp) (sdX nq seeq tmq gq ffq fpq) fr ii_5).1 (pLk (sdX n see tm g ff fp) ii_5 (pAhd fr ii_5) (fr ii_5)) := by unfold thA; rw [ex_15, ex_14, hw_13, xLk1 (see := see) (tm := tm) (fp := fp) (show ii_5 < n by omega) (okX hoka (by omega)) hw_12, hv_5.2.1, hv_5.2.2.1]
      refine lv_lstore (lv' := [(4, .long x_15), (11, .int 1), (10, .int (nI ii_5)), (9, .int ah_5), (8, .int (nI (min rz (min n nq)))), (6, .long v2_5), (0, .ref y0), (1, .ref h0), (2, .ref d0), (3, .ref c0)]) hx hb dX2_thoughtOf_69 hl (by decide) rfl (fun ls hl => ?_)
      refine lv_lload hx hb dX2_thoughtOf_71 (lv_at hl 5 rfl) ?_
      refine lv_aload_n hx hb dX2_thoughtOf_73 rfl (lv_at hl 8 rfl) ?_
      refine lv_iload hx hb dX2_thoughtOf_74 (lv_at hl 2 rfl) ?_
      refine lv_iload hx hb dX2_thoughtOf_76 (lv_at hl 3 rfl) ?_
      refine lv_iload hx hb dX2_thoughtOf_78 (lv_at hl 1 rfl) ?_
      refine ro_i (D := D) (va_runS (As := [.ref d0, .int (nI ii_5), .int ah_5, .int 1]) (rest := [.long v2_5]) ⟨hx, hb, hml, hown, hts⟩ ((y_likelihood l D k st lo d0 d1 d2 d3 d4 nq seeq tmq gq ffq ii_5 ah_5 1 (by first | assumption | omega)) H.size) (va_cwS 4 hts (gS tw_772 tw_773 tw_83 tw_774) rfl rfl rfl (by decide +kernel) ⟨Nat.le_of_ble_eq_true rfl, Nat.le_of_ble_eq_true rfl⟩) (pS hS hAlo hlo hP hK hDL hZ [5, 6, 7] (by decide) rfl) rfl rfl hl.1 rfl (lv_room (Nat.le_of_ble_eq_true rfl)) dX2_thoughtOf_80 ⟨Nat.le_of_ble_eq_true rfl, Nat.le_of_ble_eq_true rfl⟩) hS hA hP (fun r_17 H locs hw_17 hP hS => ?_)
      try dsimp only at hw_17
      refine lv_i2l (v := r_17.toInt64) hx hb dX2_thoughtOf_83 rfl ?_
      refine lv_lmul hx hb dX2_thoughtOf_84 ?_
      refine lv_topl (fun x_18 ex_18 => ?_)
      refine lv_ldc2 hx hb hown (hts _ tw_775) dX2_thoughtOf_85 ?_
      refine lv_ldiv hx hb dX2_thoughtOf_88 (by decide) ?_
      refine lv_topl (fun x_19 ex_19 => ?_)
      have hta_20 : x_19 = thA (thN (sdX n see tm g ff fp) (sdX nq seeq tmq gq ffq fpq) fr ii_5).2 (pLk (sdX nq seeq tmq gq ffq fpq) ii_5 (pAhd fr ii_5) (fr ii_5)) := by unfold thA; rw [ex_19, ex_18, hw_17, xLk1 (see := seeq) (tm := tmq) (fp := fpq) (show ii_5 < nq by omega) (okX hokb (by omega)) hw_12, hv_5.2.1, hv_5.2.2.2]
      refine lv_lstore (lv' := [(6, .long x_19), (4, .long x_15), (11, .int 1), (10, .int (nI ii_5)), (9, .int ah_5), (8, .int (nI (min rz (min n nq)))), (0, .ref y0), (1, .ref h0), (2, .ref d0), (3, .ref c0)]) hx hb dX2_thoughtOf_89 hl (by decide) rfl (fun ls hl => ?_)
      refine lv_lload hx hb dX2_thoughtOf_91 (lv_at hl 1 rfl) ?_
      refine lv_lload hx hb dX2_thoughtOf_93 (lv_at hl 0 rfl) ?_
      refine va_mmax_long hx hb (by rw [hml]; exact hl.1.symm) hown (hts _ tw_776) (hts _ tw_777) (hts _ tw_93) (hts _ tw_778) (Nat.le_of_ble_eq_true rfl) (Nat.le_of_ble_eq_true rfl) (Nat.le_of_ble_eq_true rfl) (Nat.le_of_ble_eq_true rfl) dX2_thoughtOf_95 ?_
      refine lv_topl (fun x_21 ex_21 => ?_)
      refine lv_lstore (lv' := [(12, .long x_21), (6, .long x_19), (4, .long x_15), (11, .int 1), (10, .int (nI ii_5)), (9, .int ah_5), (8, .int (nI (min rz (min n nq)))), (0, .ref y0), (1, .ref h0), (2, .ref d0), (3, .ref c0)]) hx hb dX2_thoughtOf_98 hl (by decide) rfl (fun ls hl => ?_)
      refine lv_lload hx hb dX2_thoughtOf_100 (lv_at hl 0 rfl) ?_
      refine lv_lconst (v := 0) hx hb dX2_thoughtOf_102 (by decide) ?_
      refine W.lcmp hx hb dX2_thoughtOf_103 ?_
      refine lv_if_le (tgt := 129) hx hb dX2_thoughtOf_104 (by decide) (fun c_22 => ?_) (fun c_22 => ?_)
      · have hth_23 := th_neg hta_16 hta_20 (show x_21 = thG x_15 x_19 from ex_21) c_22
        refine lv_iload hx hb dX2_thoughtOf_129 (lv_at hl 3 rfl) ?_
        refine lv_istore (lv' := [(9, .int 1), (12, .long x_21), (6, .long x_19), (4, .long x_15), (11, .int 1), (10, .int (nI ii_5)), (8, .int (nI (min rz (min n nq)))), (0, .ref y0), (1, .ref h0), (2, .ref d0), (3, .ref c0)]) hx hb dX2_thoughtOf_131 hl (by decide) rfl (fun ls hl => ?_)
        refine lv_iinc (v := (nI (ii_5 + 1))) (lv' := [(10, .int (nI (ii_5 + 1))), (9, .int 1), (12, .long x_21), (6, .long x_19), (4, .long x_15), (11, .int 1), (8, .int (nI (min rz (min n nq)))), (0, .ref y0), (1, .ref h0), (2, .ref d0), (3, .ref c0)]) hx hb dX2_thoughtOf_133 hl (k := 5) rfl (nI_add ii_5 1) (by decide) rfl (fun ls hl => ?_)
        refine lv_goto (tgt := 36) hx hb dX2_thoughtOf_136 (by decide) ?_
        exact ih_5 _ (ii_5 + 1, x_15, x_19, 1) _ _ _ (by omega) ⟨rfl, ⟨by omega, ahd_1 hw_12, hth_23.1, hth_23.2⟩, hP, hS, (lv_sub hl [0, 1, 6, 3, 4, 7, 8, 9, 10] rfl)⟩
      · refine lv_lload hx hb dX2_thoughtOf_107 (lv_at hl 2 rfl) ?_
        refine lv_ldc2 hx hb hown (hts _ tw_779) dX2_thoughtOf_109 ?_
        refine lv_lmul hx hb dX2_thoughtOf_112 ?_
        refine lv_topl (fun x_24 ex_24 => ?_)
        refine lv_lload hx hb dX2_thoughtOf_113 (lv_at hl 0 rfl) ?_
        refine lv_ldiv hx hb dX2_thoughtOf_115 (fun h => c_22 (by rw [h]; decide)) ?_
        refine lv_topl (fun x_25 ex_25 => ?_)
        refine lv_lstore (lv' := [(4, .long x_25), (12, .long x_21), (6, .long x_19), (11, .int 1), (10, .int (nI ii_5)), (9, .int ah_5), (8, .int (nI (min rz (min n nq)))), (0, .ref y0), (1, .ref h0), (2, .ref d0), (3, .ref c0)]) hx hb dX2_thoughtOf_116 hl (by decide) rfl (fun ls hl => ?_)
        refine lv_lload hx hb dX2_thoughtOf_118 (lv_at hl 2 rfl) ?_
        refine lv_ldc2 hx hb hown (hts _ tw_779) dX2_thoughtOf_120 ?_
        refine lv_lmul hx hb dX2_thoughtOf_123 ?_
        refine lv_topl (fun x_26 ex_26 => ?_)
        refine lv_lload hx hb dX2_thoughtOf_124 (lv_at hl 1 rfl) ?_
        refine lv_ldiv hx hb dX2_thoughtOf_126 (fun h => c_22 (by rw [h]; decide)) ?_
        refine lv_topl (fun x_27 ex_27 => ?_)
        refine lv_lstore (lv' := [(6, .long x_27), (4, .long x_25), (12, .long x_21), (11, .int 1), (10, .int (nI ii_5)), (9, .int ah_5), (8, .int (nI (min rz (min n nq)))), (0, .ref y0), (1, .ref h0), (2, .ref d0), (3, .ref c0)]) hx hb dX2_thoughtOf_127 hl (by decide) rfl (fun ls hl => ?_)
        have hth_28 := th_pos hta_16 hta_20 (show x_21 = thG x_15 x_19 from ex_21) c_22 ex_24 ex_25 ex_26 ex_27
        refine lv_iload hx hb dX2_thoughtOf_129 (lv_at hl 3 rfl) ?_
        refine lv_istore (lv' := [(9, .int 1), (6, .long x_27), (4, .long x_25), (12, .long x_21), (11, .int 1), (10, .int (nI ii_5)), (8, .int (nI (min rz (min n nq)))), (0, .ref y0), (1, .ref h0), (2, .ref d0), (3, .ref c0)]) hx hb dX2_thoughtOf_131 hl (by decide) rfl (fun ls hl => ?_)
        refine lv_iinc (v := (nI (ii_5 + 1))) (lv' := [(10, .int (nI (ii_5 + 1))), (9, .int 1), (6, .long x_27), (4, .long x_25), (12, .long x_21), (11, .int 1), (8, .int (nI (min rz (min n nq)))), (0, .ref y0), (1, .ref h0), (2, .ref d0), (3, .ref c0)]) hx hb dX2_thoughtOf_133 hl (k := 5) rfl (nI_add ii_5 1) (by decide) rfl (fun ls hl => ?_)
        refine lv_goto (tgt := 36) hx hb dX2_thoughtOf_136 (by decide) ?_
        exact ih_5 _ (ii_5 + 1, x_25, x_27, 1) _ _ _ (by omega) ⟨rfl, ⟨by omega, ahd_1 hw_12, hth_28.1, hth_28.2⟩, hP, hS, (lv_sub hl [0, 1, 6, 2, 3, 7, 8, 9, 10] rfl)⟩
    · refine lv_istore (lv' := [(11, .int 0), (10, .int (nI ii_5)), (9, .int ah_5), (8, .int (nI (min rz (min n nq)))), (6, .long v2_5), (4, .long w2_5), (0, .ref y0), (1, .ref h0), (2, .ref d0), (3, .ref c0)]) hx hb dX2_thoughtOf_49 hl (by decide) rfl (fun ls hl => ?_)
      refine lv_lload hx hb dX2_thoughtOf_51 (lv_at hl 5 rfl) ?_
      refine lv_aload_n hx hb dX2_thoughtOf_53 rfl (lv_at hl 7 rfl) ?_
      refine lv_iload hx hb dX2_thoughtOf_54 (lv_at hl 1 rfl) ?_
      refine lv_iload hx hb dX2_thoughtOf_56 (lv_at hl 2 rfl) ?_
      refine lv_iload hx hb dX2_thoughtOf_58 (lv_at hl 0 rfl) ?_
      refine ro_i (D := D) (va_runS (As := [.ref h0, .int (nI ii_5), .int ah_5, .int 0]) (rest := [.long w2_5]) ⟨hx, hb, hml, hown, hts⟩ ((y_likelihood l D k st lo h0 h1 h2 h3 h4 n see tm g ff ii_5 ah_5 0 (by first | assumption | omega)) H.size) (va_cwS 4 hts (gS tw_772 tw_773 tw_83 tw_774) rfl rfl rfl (by decide +kernel) ⟨Nat.le_of_ble_eq_true rfl, Nat.le_of_ble_eq_true rfl⟩) (pS hS hAlo hlo hP hK hDL hZ [1, 2, 3] (by decide) rfl) rfl rfl hl.1 rfl (lv_room (Nat.le_of_ble_eq_true rfl)) dX2_thoughtOf_60 ⟨Nat.le_of_ble_eq_true rfl, Nat.le_of_ble_eq_true rfl⟩) hS hA hP (fun r_29 H locs hw_29 hP hS => ?_)
      try dsimp only at hw_29
      refine lv_i2l (v := r_29.toInt64) hx hb dX2_thoughtOf_63 rfl ?_
      refine lv_lmul hx hb dX2_thoughtOf_64 ?_
      refine lv_topl (fun x_30 ex_30 => ?_)
      refine lv_ldc2 hx hb hown (hts _ tw_775) dX2_thoughtOf_65 ?_
      refine lv_ldiv hx hb dX2_thoughtOf_68 (by decide) ?_
      refine lv_topl (fun x_31 ex_31 => ?_)
      have hta_32 : x_31 = thA (thN (sdX n see tm g ff fp) (sdX nq seeq tmq gq ffq fpq) fr ii_5).1 (pLk (sdX n see tm g ff fp) ii_5 (pAhd fr ii_5) (fr ii_5)) := by unfold thA; rw [ex_31, ex_30, hw_29, xLk0 (see := see) (tm := tm) (fp := fp) (show ii_5 < n by omega) (okX hoka (by omega)) hw_12, hv_5.2.1, hv_5.2.2.1]
      refine lv_lstore (lv' := [(4, .long x_31), (11, .int 0), (10, .int (nI ii_5)), (9, .int ah_5), (8, .int (nI (min rz (min n nq)))), (6, .long v2_5), (0, .ref y0), (1, .ref h0), (2, .ref d0), (3, .ref c0)]) hx hb dX2_thoughtOf_69 hl (by decide) rfl (fun ls hl => ?_)
      refine lv_lload hx hb dX2_thoughtOf_71 (lv_at hl 5 rfl) ?_
      refine lv_aload_n hx hb dX2_thoughtOf_73 rfl (lv_at hl 8 rfl) ?_
      refine lv_iload hx hb dX2_thoughtOf_74 (lv_at hl 2 rfl) ?_
      refine lv_iload hx hb dX2_thoughtOf_76 (lv_at hl 3 rfl) ?_
      refine lv_iload hx hb dX2_thoughtOf_78 (lv_at hl 1 rfl) ?_
      refine ro_i (D := D) (va_runS (As := [.ref d0, .int (nI ii_5), .int ah_5, .int 0]) (rest := [.long v2_5]) ⟨hx, hb, hml, hown, hts⟩ ((y_likelihood l D k st lo d0 d1 d2 d3 d4 nq seeq tmq gq ffq ii_5 ah_5 0 (by first | assumption | omega)) H.size) (va_cwS 4 hts (gS tw_772 tw_773 tw_83 tw_774) rfl rfl rfl (by decide +kernel) ⟨Nat.le_of_ble_eq_true rfl, Nat.le_of_ble_eq_true rfl⟩) (pS hS hAlo hlo hP hK hDL hZ [5, 6, 7] (by decide) rfl) rfl rfl hl.1 rfl (lv_room (Nat.le_of_ble_eq_true rfl)) dX2_thoughtOf_80 ⟨Nat.le_of_ble_eq_true rfl, Nat.le_of_ble_eq_true rfl⟩) hS hA hP (fun r_33 H locs hw_33 hP hS => ?_)
      try dsimp only at hw_33
      refine lv_i2l (v := r_33.toInt64) hx hb dX2_thoughtOf_83 rfl ?_
      refine lv_lmul hx hb dX2_thoughtOf_84 ?_
      refine lv_topl (fun x_34 ex_34 => ?_)
      refine lv_ldc2 hx hb hown (hts _ tw_775) dX2_thoughtOf_85 ?_
      refine lv_ldiv hx hb dX2_thoughtOf_88 (by decide) ?_
      refine lv_topl (fun x_35 ex_35 => ?_)
      have hta_36 : x_35 = thA (thN (sdX n see tm g ff fp) (sdX nq seeq tmq gq ffq fpq) fr ii_5).2 (pLk (sdX nq seeq tmq gq ffq fpq) ii_5 (pAhd fr ii_5) (fr ii_5)) := by unfold thA; rw [ex_35, ex_34, hw_33, xLk0 (see := seeq) (tm := tmq) (fp := fpq) (show ii_5 < nq by omega) (okX hokb (by omega)) hw_12, hv_5.2.1, hv_5.2.2.2]
      refine lv_lstore (lv' := [(6, .long x_35), (4, .long x_31), (11, .int 0), (10, .int (nI ii_5)), (9, .int ah_5), (8, .int (nI (min rz (min n nq)))), (0, .ref y0), (1, .ref h0), (2, .ref d0), (3, .ref c0)]) hx hb dX2_thoughtOf_89 hl (by decide) rfl (fun ls hl => ?_)
      refine lv_lload hx hb dX2_thoughtOf_91 (lv_at hl 1 rfl) ?_
      refine lv_lload hx hb dX2_thoughtOf_93 (lv_at hl 0 rfl) ?_
      refine va_mmax_long hx hb (by rw [hml]; exact hl.1.symm) hown (hts _ tw_776) (hts _ tw_777) (hts _ tw_93) (hts _ tw_778) (Nat.le_of_ble_eq_true rfl) (Nat.le_of_ble_eq_true rfl) (Nat.le_of_ble_eq_true rfl) (Nat.le_of_ble_eq_true rfl) dX2_thoughtOf_95 ?_
      refine lv_topl (fun x_37 ex_37 => ?_)
      refine lv_lstore (lv' := [(12, .long x_37), (6, .long x_35), (4, .long x_31), (11, .int 0), (10, .int (nI ii_5)), (9, .int ah_5), (8, .int (nI (min rz (min n nq)))), (0, .ref y0), (1, .ref h0), (2, .ref d0), (3, .ref c0)]) hx hb dX2_thoughtOf_98 hl (by decide) rfl (fun ls hl => ?_)
      refine lv_lload hx hb dX2_thoughtOf_100 (lv_at hl 0 rfl) ?_
      refine lv_lconst (v := 0) hx hb dX2_thoughtOf_102 (by decide) ?_
      refine W.lcmp hx hb dX2_thoughtOf_103 ?_
      refine lv_if_le (tgt := 129) hx hb dX2_thoughtOf_104 (by decide) (fun c_38 => ?_) (fun c_38 => ?_)
      · have hth_39 := th_neg hta_32 hta_36 (show x_37 = thG x_31 x_35 from ex_37) c_38
        refine lv_iload hx hb dX2_thoughtOf_129 (lv_at hl 3 rfl) ?_
        refine lv_istore (lv' := [(9, .int 0), (12, .long x_37), (6, .long x_35), (4, .long x_31), (11, .int 0), (10, .int (nI ii_5)), (8, .int (nI (min rz (min n nq)))), (0, .ref y0), (1, .ref h0), (2, .ref d0), (3, .ref c0)]) hx hb dX2_thoughtOf_131 hl (by decide) rfl (fun ls hl => ?_)
        refine lv_iinc (v := (nI (ii_5 + 1))) (lv' := [(10, .int (nI (ii_5 + 1))), (9, .int 0), (12, .long x_37), (6, .long x_35), (4, .long x_31), (11, .int 0), (8, .int (nI (min rz (min n nq)))), (0, .ref y0), (1, .ref h0), (2, .ref d0), (3, .ref c0)]) hx hb dX2_thoughtOf_133 hl (k := 5) rfl (nI_add ii_5 1) (by decide) rfl (fun ls hl => ?_)
        refine lv_goto (tgt := 36) hx hb dX2_thoughtOf_136 (by decide) ?_
        exact ih_5 _ (ii_5 + 1, x_31, x_35, 0) _ _ _ (by omega) ⟨rfl, ⟨by omega, ahd_0 hw_12, hth_39.1, hth_39.2⟩, hP, hS, (lv_sub hl [0, 1, 6, 3, 4, 7, 8, 9, 10] rfl)⟩
      · refine lv_lload hx hb dX2_thoughtOf_107 (lv_at hl 2 rfl) ?_
        refine lv_ldc2 hx hb hown (hts _ tw_779) dX2_thoughtOf_109 ?_
        refine lv_lmul hx hb dX2_thoughtOf_112 ?_
        refine lv_topl (fun x_40 ex_40 => ?_)
        refine lv_lload hx hb dX2_thoughtOf_113 (lv_at hl 0 rfl) ?_
        refine lv_ldiv hx hb dX2_thoughtOf_115 (fun h => c_38 (by rw [h]; decide)) ?_
        refine lv_topl (fun x_41 ex_41 => ?_)
        refine lv_lstore (lv' := [(4, .long x_41), (12, .long x_37), (6, .long x_35), (11, .int 0), (10, .int (nI ii_5)), (9, .int ah_5), (8, .int (nI (min rz (min n nq)))), (0, .ref y0), (1, .ref h0), (2, .ref d0), (3, .ref c0)]) hx hb dX2_thoughtOf_116 hl (by decide) rfl (fun ls hl => ?_)
        refine lv_lload hx hb dX2_thoughtOf_118 (lv_at hl 2 rfl) ?_
        refine lv_ldc2 hx hb hown (hts _ tw_779) dX2_thoughtOf_120 ?_
        refine lv_lmul hx hb dX2_thoughtOf_123 ?_
        refine lv_topl (fun x_42 ex_42 => ?_)
        refine lv_lload hx hb dX2_thoughtOf_124 (lv_at hl 1 rfl) ?_
        refine lv_ldiv hx hb dX2_thoughtOf_126 (fun h => c_38 (by rw [h]; decide)) ?_
        refine lv_topl (fun x_43 ex_43 => ?_)
        refine lv_lstore (lv' := [(6, .long x_43), (4, .long x_41), (12, .long x_37), (11, .int 0), (10, .int (nI ii_5)), (9, .int ah_5), (8, .int (nI (min rz (min n nq)))), (0, .ref y0), (1, .ref h0), (2, .ref d0), (3, .ref c0)]) hx hb dX2_thoughtOf_127 hl (by decide) rfl (fun ls hl => ?_)
        have hth_44 := th_pos hta_32 hta_36 (show x_37 = thG x_31 x_35 from ex_37) c_38 ex_40 ex_41 ex_42 ex_43
        refine lv_iload hx hb dX2_thoughtOf_129 (lv_at hl 3 rfl) ?_
        refine lv_istore (lv' := [(9, .int 0), (6, .long x_43), (4, .long x_41), (12, .long x_37), (11, .int 0), (10, .int (nI ii_5)), (8, .int (nI (min rz (min n nq)))), (0, .ref y0), (1, .ref h0), (2, .ref d0), (3, .ref c0)]) hx hb dX2_thoughtOf_131 hl (by decide) rfl (fun ls hl => ?_)
        refine lv_iinc (v := (nI (ii_5 + 1))) (lv' := [(10, .int (nI (ii_5 + 1))), (9, .int 0), (6, .long x_43), (4, .long x_41), (12, .long x_37), (11, .int 0), (8, .int (nI (min rz (min n nq)))), (0, .ref y0), (1, .ref h0), (2, .ref d0), (3, .ref c0)]) hx hb dX2_thoughtOf_133 hl (k := 5) rfl (nI_add ii_5 1) (by decide) rfl (fun ls hl => ?_)
        refine lv_goto (tgt := 36) hx hb dX2_thoughtOf_136 (by decide) ?_
        exact ih_5 _ (ii_5 + 1, x_41, x_43, 0) _ _ _ (by omega) ⟨rfl, ⟨by omega, ahd_0 hw_12, hth_44.1, hth_44.2⟩, hP, hS, (lv_sub hl [0, 1, 6, 2, 3, 7, 8, 9, 10] rfl)⟩


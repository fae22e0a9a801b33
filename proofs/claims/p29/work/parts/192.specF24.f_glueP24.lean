theorem f_glueP24 : True := trivial


def fM_byT (dn : Nat → Nat) (se : Nat → Nat) (tm : Nat → Nat) (gs : Nat → Int32) (fprices : Nat → Int32) (sn : Nat) (i : Nat) (p0 : Int32) (p3 : Int32) : Int32 := ((if p3 = 0 then (fM_taking dn se tm gs fprices sn i p0) else (if p3 = 1 then (if ((if (fM_late se tm gs sn (((fM_tick dn se tm gs sn p0 (nI i)) + (nI (dn sn))) - (nI i))) ≤ 0 then 0 else 1) : Nat) = 0 then 0 else 1000000) else 0)) : Int32)
set_option maxHeartbeats 4000000 in
set_option maxRecDepth 100000 in
theorem n_byTaking (l : Launch) (D : va_G) (k : Nat → ClassId) (st : Nat → Nat) (lo : Nat) (a : Nat → Nat) (tx : Nat) (t0 : Nat) (we : Nat) (rd : Nat) (ru : Nat) (rw : Nat) (ca : Nat) (fp : Int32) (wd : Int64) (nu : Int32) (na : Int32) (ts : Int32) (df : Int32) (db : Int32) (sd : Int32) (dn : Nat → Nat) (se : Nat → Nat) (tm : Nat → Nat) (gs : Nat → Int32) (fprices : Nat → Int32) (sn : Nat) (i : Nat) (p0 : Int32) (p3 : Int32)  (hs : sn < 3) (hi : i < 24) : CRi l D k st lo yX8_byTaking cX8_byTaking 6 (some .int) ({ frames := 4, cells := 0, slots := 0, locals := 93 }) [.ref (a 0), .int (nI sn), .int p0, .int (nI i), .int p3] [((a 0), .inr (8, (fX8 a (nI tx) fp (nI t0) wd (nI we) nu na (nI rd) ts (nI ru) (nI rw) (nI ca) df db sd))), (aI k (a 1) 3 (nF dn)), (aI k (a 4) 27 (sg se tm gs)), (aI k (a 3) 72 fprices)] (fun r => r = fM_byT dn se tm gs fprices sn i p0 p3) := by
  intro sz
  refine Met.ofW (cc := cX8_byTaking) (maxL := 6) (ret := (some .int)) (by decide) rfl ?_
  intro p e s m args below meth c s₁ B hml hv
  obtain ⟨rfl, hsz, hlo, hP, hK, hDL, hZ⟩ := hv
  have hx := B.exec
  have hb := B.bytes
  have hr := B.returns
  have hts := WS_ts B.pre
  have hown : s.vm.findClass RX8 = some m.cls := findClass_of_methodNamed B.named
  have hlocks := B.notSynchronized
  subst hsz
  have hA : ∀ q : Nat, s.heap.size ≤ q → (fun q : Nat => s.heap.size ≤ q) q := fun _ h => h
  have hAlo : ∀ q : Nat, (fun q : Nat => s.heap.size ≤ q) q → lo ≤ q := fun q h => Nat.le_trans hlo h
  have hS : va_S (fun q : Nat => s.heap.size ≤ q) s.heap s.heap [] := va_S.rf
  have hl := lv_entry ([.ref (a 0), .int (nI sn), .int p0, .int (nI i), .int p3]) (n := 6) (Nat.le_of_ble_eq_true rfl)
  rw [lg_entry_eq]
  generalize (lg_sl ([.ref (a 0), .int (nI sn), .int p0, .int (nI i), .int p3]) ++ List.replicate (6 - (lg_sl ([.ref (a 0), .int (nI sn), .int p0, .int (nI i), .int p3])).length) Slot.unset).toArray = ls at hl ⊢
  have hl : lv_has ls 6 [(0, .ref (a 0)), (1, .int (nI sn)), (2, .int p0), (3, .int (nI i)), (4, .int p3)] := hl
  refine lv_aload_n hx hb dX8_byTaking_0 rfl (lv_at hl 0 rfl) ?_
  refine lv_iload_n hx hb dX8_byTaking_1 rfl (lv_at hl 1 rfl) ?_
  refine lv_aload_n hx hb dX8_byTaking_2 rfl (lv_at hl 0 rfl) ?_
  refine lv_iload_n hx hb dX8_byTaking_3 rfl (lv_at hl 1 rfl) ?_
  refine lv_iload_n hx hb dX8_byTaking_4 rfl (lv_at hl 2 rfl) ?_
  refine lv_iload_n hx hb dX8_byTaking_5 rfl (lv_at hl 3 rfl) ?_
  refine ro_i (D := D) (va_runV (As := [.int (nI sn), .int p0, .int (nI i)]) (rest := [.int (nI sn), .ref (a 0)]) ⟨hx, hb, hml, hown, hts⟩ ((n_tick l D k st lo a tx t0 we rd ru rw ca fp wd nu na ts df db sd dn se tm gs sn p0 (nI i) (by first | assumption | omega)) s.heap.size) (cwV 3 hts (gV tw_1230 tw_1232 tw_45 tw_87 tw_1233) rfl rfl rfl (by decide +kernel) ⟨Nat.le_of_ble_eq_true rfl, Nat.le_of_ble_eq_true rfl⟩) (pV hS hAlo hlo hP hK hDL hZ [0, 1, 2] (by decide) rfl (ci := 8) (q := (RX8, TX8, 44)) (q0 := 0) rfl rfl) rfl rfl hl.1 rfl (lv_room (Nat.le_of_ble_eq_true rfl)) dX8_byTaking_6 ⟨Nat.le_of_ble_eq_true rfl, Nat.le_of_ble_eq_true rfl⟩) hS hA hP (fun r_1 H locs hw_1 hP hS => ?_)
  try dsimp only at hw_1
  refine lv_aload_n hx hb dX8_byTaking_9 rfl (lv_at hl 0 rfl) ?_
  refine va_get (D := D) (ci := 8) (v := .ref (a 1)) (C := RX8) (T := TX8) (N := 44) hx hb hts inX8 hown hK hP 0 rfl rfl 0 (by decide) (hts _ tw_973) (fun _ h9 => h9) rfl dX8_byTaking_10 ?_
  refine lv_iload_n hx hb dX8_byTaking_13 rfl (lv_at hl 1 rfl) ?_
  refine va_iald hx hb hK hP 1 1 rfl rfl (vp_in_nI (by omega) (by decide)) dX8_byTaking_14 ?_
  refine lv_ti (y := (nI (dn sn))) (by rw [nI_clamp (by omega)]; rfl) ?_
  refine lv_iadd hx hb dX8_byTaking_15 ?_
  refine lv_topi (fun x_2 ex_2 => ?_)
  refine lv_iload_n hx hb dX8_byTaking_16 rfl (lv_at hl 3 rfl) ?_
  refine lv_isub hx hb dX8_byTaking_17 ?_
  refine lv_topi (fun x_3 ex_3 => ?_)
  refine ro_i (D := D) (va_runV (As := [.int (nI sn), .int x_3]) (rest := []) ⟨hx, hb, hml, hown, hts⟩ ((n_lateAt l D k st lo a tx t0 we rd ru rw ca fp wd nu na ts df db sd se tm gs sn x_3 (by first | assumption | omega)) H.size) (cwV 2 hts (gV tw_1234 tw_1236 tw_46 tw_87 tw_1237) rfl rfl rfl (by decide +kernel) ⟨Nat.le_of_ble_eq_true rfl, Nat.le_of_ble_eq_true rfl⟩) (pV hS hAlo hlo hP hK hDL hZ [0, 2] (by decide) rfl (ci := 8) (q := (RX8, TX8, 44)) (q0 := 0) rfl rfl) rfl rfl hl.1 rfl (lv_room (Nat.le_of_ble_eq_true rfl)) dX8_byTaking_18 ⟨Nat.le_of_ble_eq_true rfl, Nat.le_of_ble_eq_true rfl⟩) hS hA hP (fun r_4 H locs hw_4 hP hS => ?_)
  try dsimp only at hw_4
  refine W_join (fun (x_6 : Nat) (H : Heap) (locs : List Loc) (ls : Array Slot) => x_6 = ((if r_4 ≤ 0 then 0 else 1) : Nat) ∧ (x_6 = 0 ∨ x_6 = 1) ∧ va_P D classes [((a 0), .inr (8, (fX8 a (nI tx) fp (nI t0) wd (nI we) nu na (nI rd) ts (nI ru) (nI rw) (nI ca) df db sd))), (aI k (a 1) 3 (nF dn)), (aI k (a 4) 27 (sg se tm gs)), (aI k (a 3) 72 fprices)] H ∧ va_S (fun q : Nat => s.heap.size ≤ q) s.heap H locs ∧ lv_has ls 6 [(4, .int p3), (3, .int (nI i)), (2, .int p0), (1, .int (nI sn)), (0, .ref (a 0))]) (fun (x_6 : Nat) => [.int (nI x_6)]) 29 (fun x_6 H locs ls hJ => ?_) (fun J_6 => ?_)
  · obtain ⟨hj_6, hk_6, hP, hS, hl⟩ := hJ
    show W p l e _ s m _ below meth c H locs _ _ _ (F0 m 29 ls [.int (nI x_6)])
    refine lv_istore (lv' := [(5, .int (nI x_6)), (4, .int p3), (3, .int (nI i)), (2, .int p0), (1, .int (nI sn)), (0, .ref (a 0))]) hx hb dX8_byTaking_29 hl (by decide) rfl (fun ls hl => ?_)
    refine lv_iload hx hb dX8_byTaking_31 (lv_at hl 1 rfl) ?_
    refine W_join (fun (x_11 : Int32) (H : Heap) (locs : List Loc) (ls : Array Slot) => x_11 = ((if p3 = 0 then (fM_taking dn se tm gs fprices sn i p0) else (if p3 = 1 then (if x_6 = 0 then 0 else 1000000) else 0)) : Int32) ∧ va_P D classes [((a 0), .inr (8, (fX8 a (nI tx) fp (nI t0) wd (nI we) nu na (nI rd) ts (nI ru) (nI rw) (nI ca) df db sd))), (aI k (a 1) 3 (nF dn)), (aI k (a 4) 27 (sg se tm gs)), (aI k (a 3) 72 fprices)] H ∧ va_S (fun q : Nat => s.heap.size ≤ q) s.heap H locs ∧ lv_has ls 6 [(5, .int (nI x_6)), (4, .int p3), (3, .int (nI i)), (2, .int p0), (1, .int (nI sn)), (0, .ref (a 0))]) (fun (x_11 : Int32) => [.int x_11]) 64 (fun x_11 H locs ls hJ => ?_) (fun J_11 => ?_)
    · obtain ⟨hj_11, hP, hS, hl⟩ := hJ
      show W p l e _ s m _ below meth c H locs _ _ _ (F0 m 64 ls [.int x_11])
      exact W.iret (v := x_11) hx hb hr (fun t ht hW => ⟨⟨x_11, (), rfl, (by show _ = fM_byT dn se tm gs fprices sn i p0 p3; unfold fM_byT; first | (rw [hj_11, hj_6, hw_4, ex_3, ex_2, hw_1]; done) | (rw [hj_11, hj_6, hw_4, ex_3, ex_2, hw_1]; rfl) | (simp only [hj_11, hj_6, hw_4, ex_3, ex_2, hw_1]; done)), trivial⟩, hS.F ht⟩) hS.2.2 dX8_byTaking_64
    · refine lv_if_ne (tgt := 46) hx hb dX8_byTaking_33 (by decide) (fun c_12 => ?_) (fun c_12 => ?_)
      · refine lv_iload hx hb dX8_byTaking_46 (lv_at hl 1 rfl) ?_
        refine lv_iconst (v := 1) hx hb dX8_byTaking_48 (by decide) ?_
        refine lv_icmp_ne (tgt := 63) hx hb dX8_byTaking_49 (by decide) (fun c_13 => ?_) (fun c_13 => ?_)
        · refine lv_iconst (v := 0) hx hb dX8_byTaking_63 (by decide) ?_
          exact J_11 0 _ _ _ ⟨(by first | (rw [if_neg c_12, if_neg c_13]; done) | (rw [if_neg c_12, if_neg c_13]; rfl) | (simp only [if_neg c_12, if_neg c_13]; done)), hP, hS, lv_sub hl [0, 1, 2, 3, 4, 5] rfl⟩
        · refine lv_iload hx hb dX8_byTaking_52 (lv_at hl 0 rfl) ?_
          refine lv_if_eq (tgt := 63) hx hb dX8_byTaking_54 (by decide) (fun c_14 => ?_) (fun c_14 => ?_)
          · have c_14 := (nI_eq (a := x_6) (b := 0) (by omega) (by omega)).mp c_14
            refine lv_iconst (v := 0) hx hb dX8_byTaking_63 (by decide) ?_
            exact J_11 0 _ _ _ ⟨(by first | (rw [if_neg c_12, if_pos c_13, if_pos c_14]; done) | (rw [if_neg c_12, if_pos c_13, if_pos c_14]; rfl) | (simp only [if_neg c_12, if_pos c_13, if_pos c_14]; done)), hP, hS, lv_sub hl [0, 1, 2, 3, 4, 5] rfl⟩
          · have c_14 : ¬ (x_6 = 0) := fun h => c_14 ((nI_eq (a := x_6) (b := 0) (by omega) (by omega)).mpr h)
            refine lv_ldcw hx hb hown (hts _ tw_1337) dX8_byTaking_57 ?_
            refine lv_goto (tgt := 64) hx hb dX8_byTaking_60 (by decide) ?_
            exact J_11 1000000 _ _ _ ⟨(by first | (rw [if_neg c_12, if_pos c_13, if_neg c_14]; done) | (rw [if_neg c_12, if_pos c_13, if_neg c_14]; rfl) | (simp only [if_neg c_12, if_pos c_13, if_neg c_14]; done)), hP, hS, lv_sub hl [0, 1, 2, 3, 4, 5] rfl⟩
      · refine lv_aload_n hx hb dX8_byTaking_36 rfl (lv_at hl 5 rfl) ?_
        refine lv_iload_n hx hb dX8_byTaking_37 rfl (lv_at hl 4 rfl) ?_
        refine lv_iload_n hx hb dX8_byTaking_38 rfl (lv_at hl 3 rfl) ?_
        refine lv_iload_n hx hb dX8_byTaking_39 rfl (lv_at hl 2 rfl) ?_
        refine ro_i (D := D) (va_runV (As := [.int (nI sn), .int p0, .int (nI i)]) (rest := []) ⟨hx, hb, hml, hown, hts⟩ ((n_takingOf l D k st lo a tx t0 we rd ru rw ca fp wd nu na ts df db sd dn se tm gs fprices sn i p0 (by first | assumption | omega) (by first | assumption | omega)) H.size) (cwV 3 hts (gV tw_1222 tw_1224 tw_43 tw_87 tw_1225) rfl rfl rfl (by decide +kernel) ⟨Nat.le_of_ble_eq_true rfl, Nat.le_of_ble_eq_true rfl⟩) (pV hS hAlo hlo hP hK hDL hZ [0, 1, 2, 3] (by decide) rfl (ci := 8) (q := (RX8, TX8, 44)) (q0 := 0) rfl rfl) rfl rfl hl.1 rfl (lv_room (Nat.le_of_ble_eq_true rfl)) dX8_byTaking_40 ⟨Nat.le_of_ble_eq_true rfl, Nat.le_of_ble_eq_true rfl⟩) hS hA hP (fun r_15 H locs hw_15 hP hS => ?_)
        try dsimp only at hw_15
        refine lv_goto (tgt := 64) hx hb dX8_byTaking_43 (by decide) ?_
        exact J_11 r_15 _ _ _ ⟨(by first | (rw [if_pos c_12, hw_15]; done) | (rw [if_pos c_12, hw_15]; rfl) | (simp only [if_pos c_12, hw_15]; done)), hP, hS, lv_sub hl [0, 1, 2, 3, 4, 5] rfl⟩
  · refine lv_if_le (tgt := 28) hx hb dX8_byTaking_21 (by decide) (fun c_16 => ?_) (fun c_16 => ?_)
    · refine lv_iconst (v := 0) hx hb dX8_byTaking_28 (by decide) ?_
      exact J_6 0 _ _ _ ⟨(by first | (rw [if_pos c_16]; done) | (rw [if_pos c_16]; rfl) | (simp only [if_pos c_16]; done)), .inl rfl, hP, hS, lv_sub hl [4, 3, 2, 1, 0] rfl⟩
    · refine lv_iconst (v := 1) hx hb dX8_byTaking_24 (by decide) ?_
      refine lv_goto (tgt := 29) hx hb dX8_byTaking_25 (by decide) ?_
      exact J_6 1 _ _ _ ⟨(by first | (rw [if_neg c_16]; done) | (rw [if_neg c_16]; rfl) | (simp only [if_neg c_16]; done)), .inr (rfl), hP, hS, lv_sub hl [4, 3, 2, 1, 0] rfl⟩


def fM_byG (dn : Nat → Nat) (se : Nat → Nat) (tm : Nat → Nat) (gs : Nat → Int32) (sn : Nat) (p0 : Int32) (p3 : Int32) : Int32 := ((if p3 = 0 then (fM_garage dn se tm gs sn p0) else (if p3 = 2 then 1000000 else (if ((if (fM_late se tm gs sn (fM_tick dn se tm gs sn p0 (nI (dn sn)))) ≤ 0 then 0 else 1) : Nat) = 0 then 0 else 1000000))) : Int32)
set_option maxHeartbeats 4000000 in
set_option maxRecDepth 100000 in
theorem n_byGarage (l : Launch) (D : va_G) (k : Nat → ClassId) (st : Nat → Nat) (lo : Nat) (a : Nat → Nat) (tx : Nat) (t0 : Nat) (we : Nat) (rd : Nat) (ru : Nat) (rw : Nat) (ca : Nat) (fp : Int32) (wd : Int64) (nu : Int32) (na : Int32) (ts : Int32) (df : Int32) (db : Int32) (sd : Int32) (dn : Nat → Nat) (se : Nat → Nat) (tm : Nat → Nat) (gs : Nat → Int32) (sn : Nat) (p0 : Int32) (p3 : Int32)  (hs : sn < 3) : CRi l D k st lo yX8_byGarage cX8_byGarage 5 (some .int) ({ frames := 3, cells := 0, slots := 0, locals := 67 }) [.ref (a 0), .int (nI sn), .int p0, .int p3] [((a 0), .inr (8, (fX8 a (nI tx) fp (nI t0) wd (nI we) nu na (nI rd) ts (nI ru) (nI rw) (nI ca) df db sd))), (aI k (a 1) 3 (nF dn)), (aI k (a 4) 27 (sg se tm gs))] (fun r => r = fM_byG dn se tm gs sn p0 p3) := by
  intro sz
  refine Met.ofW (cc := cX8_byGarage) (maxL := 5) (ret := (some .int)) (by decide) rfl ?_
  intro p e s m args below meth c s₁ B hml hv
  obtain ⟨rfl, hsz, hlo, hP, hK, hDL, hZ⟩ := hv
  have hx := B.exec
  have hb := B.bytes
  have hr := B.returns
  have hts := WS_ts B.pre
  have hown : s.vm.findClass RX8 = some m.cls := findClass_of_methodNamed B.named
  have hlocks := B.notSynchronized
  subst hsz
  have hA : ∀ q : Nat, s.heap.size ≤ q → (fun q : Nat => s.heap.size ≤ q) q := fun _ h => h
  have hAlo : ∀ q : Nat, (fun q : Nat => s.heap.size ≤ q) q → lo ≤ q := fun q h => Nat.le_trans hlo h
  have hS : va_S (fun q : Nat => s.heap.size ≤ q) s.heap s.heap [] := va_S.rf
  have hl := lv_entry ([.ref (a 0), .int (nI sn), .int p0, .int p3]) (n := 5) (Nat.le_of_ble_eq_true rfl)
  rw [lg_entry_eq]
  generalize (lg_sl ([.ref (a 0), .int (nI sn), .int p0, .int p3]) ++ List.replicate (5 - (lg_sl ([.ref (a 0), .int (nI sn), .int p0, .int p3])).length) Slot.unset).toArray = ls at hl ⊢
  have hl : lv_has ls 5 [(0, .ref (a 0)), (1, .int (nI sn)), (2, .int p0), (3, .int p3)] := hl
  refine lv_aload_n hx hb dX8_byGarage_0 rfl (lv_at hl 0 rfl) ?_
  refine lv_iload_n hx hb dX8_byGarage_1 rfl (lv_at hl 1 rfl) ?_
  refine lv_aload_n hx hb dX8_byGarage_2 rfl (lv_at hl 0 rfl) ?_
  refine lv_iload_n hx hb dX8_byGarage_3 rfl (lv_at hl 1 rfl) ?_
  refine lv_iload_n hx hb dX8_byGarage_4 rfl (lv_at hl 2 rfl) ?_
  refine lv_aload_n hx hb dX8_byGarage_5 rfl (lv_at hl 0 rfl) ?_
  refine va_get (D := D) (ci := 8) (v := .ref (a 1)) (C := RX8) (T := TX8) (N := 44) hx hb hts inX8 hown hK hP 0 rfl rfl 0 (by decide) (hts _ tw_973) (fun _ h9 => h9) rfl dX8_byGarage_6 ?_
  refine lv_iload_n hx hb dX8_byGarage_9 rfl (lv_at hl 1 rfl) ?_
  refine va_iald hx hb hK hP 1 1 rfl rfl (vp_in_nI (by omega) (by decide)) dX8_byGarage_10 ?_
  refine lv_ti (y := (nI (dn sn))) (by rw [nI_clamp (by omega)]; rfl) ?_
  refine ro_i (D := D) (va_runV (As := [.int (nI sn), .int p0, .int (nI (dn sn))]) (rest := [.int (nI sn), .ref (a 0)]) ⟨hx, hb, hml, hown, hts⟩ ((n_tick l D k st lo a tx t0 we rd ru rw ca fp wd nu na ts df db sd dn se tm gs sn p0 (nI (dn sn)) (by first | assumption | omega)) s.heap.size) (cwV 3 hts (gV tw_1230 tw_1232 tw_45 tw_87 tw_1233) rfl rfl rfl (by decide +kernel) ⟨Nat.le_of_ble_eq_true rfl, Nat.le_of_ble_eq_true rfl⟩) (pV hS hAlo hlo hP hK hDL hZ [0, 1, 2] (by decide) rfl (ci := 8) (q := (RX8, TX8, 44)) (q0 := 0) rfl rfl) rfl rfl hl.1 rfl (lv_room (Nat.le_of_ble_eq_true rfl)) dX8_byGarage_11 ⟨Nat.le_of_ble_eq_true rfl, Nat.le_of_ble_eq_true rfl⟩) hS hA hP (fun r_1 H locs hw_1 hP hS => ?_)
  try dsimp only at hw_1
  refine ro_i (D := D) (va_runV (As := [.int (nI sn), .int r_1]) (rest := []) ⟨hx, hb, hml, hown, hts⟩ ((n_lateAt l D k st lo a tx t0 we rd ru rw ca fp wd nu na ts df db sd se tm gs sn r_1 (by first | assumption | omega)) H.size) (cwV 2 hts (gV tw_1234 tw_1236 tw_46 tw_87 tw_1237) rfl rfl rfl (by decide +kernel) ⟨Nat.le_of_ble_eq_true rfl, Nat.le_of_ble_eq_true rfl⟩) (pV hS hAlo hlo hP hK hDL hZ [0, 2] (by decide) rfl (ci := 8) (q := (RX8, TX8, 44)) (q0 := 0) rfl rfl) rfl rfl hl.1 rfl (lv_room (Nat.le_of_ble_eq_true rfl)) dX8_byGarage_14 ⟨Nat.le_of_ble_eq_true rfl, Nat.le_of_ble_eq_true rfl⟩) hS hA hP (fun r_2 H locs hw_2 hP hS => ?_)
  try dsimp only at hw_2
  refine W_join (fun (x_4 : Nat) (H : Heap) (locs : List Loc) (ls : Array Slot) => x_4 = ((if r_2 ≤ 0 then 0 else 1) : Nat) ∧ (x_4 = 0 ∨ x_4 = 1) ∧ va_P D classes [((a 0), .inr (8, (fX8 a (nI tx) fp (nI t0) wd (nI we) nu na (nI rd) ts (nI ru) (nI rw) (nI ca) df db sd))), (aI k (a 1) 3 (nF dn)), (aI k (a 4) 27 (sg se tm gs))] H ∧ va_S (fun q : Nat => s.heap.size ≤ q) s.heap H locs ∧ lv_has ls 5 [(3, .int p3), (2, .int p0), (1, .int (nI sn)), (0, .ref (a 0))]) (fun (x_4 : Nat) => [.int (nI x_4)]) 25 (fun x_4 H locs ls hJ => ?_) (fun J_4 => ?_)
  · obtain ⟨hj_4, hk_4, hP, hS, hl⟩ := hJ
    show W p l e _ s m _ below meth c H locs _ _ _ (F0 m 25 ls [.int (nI x_4)])
    refine lv_istore (lv' := [(4, .int (nI x_4)), (3, .int p3), (2, .int p0), (1, .int (nI sn)), (0, .ref (a 0))]) hx hb dX8_byGarage_25 hl (by decide) rfl (fun ls hl => ?_)
    refine lv_iload_n hx hb dX8_byGarage_27 rfl (lv_at hl 1 rfl) ?_
    refine W_join (fun (x_9 : Int32) (H : Heap) (locs : List Loc) (ls : Array Slot) => x_9 = ((if p3 = 0 then (fM_garage dn se tm gs sn p0) else (if p3 = 2 then 1000000 else (if x_4 = 0 then 0 else 1000000))) : Int32) ∧ va_P D classes [((a 0), .inr (8, (fX8 a (nI tx) fp (nI t0) wd (nI we) nu na (nI rd) ts (nI ru) (nI rw) (nI ca) df db sd))), (aI k (a 1) 3 (nF dn)), (aI k (a 4) 27 (sg se tm gs))] H ∧ va_S (fun q : Nat => s.heap.size ≤ q) s.heap H locs ∧ lv_has ls 5 [(4, .int (nI x_4)), (3, .int p3), (2, .int p0), (1, .int (nI sn)), (0, .ref (a 0))]) (fun (x_9 : Int32) => [.int x_9]) 57 (fun x_9 H locs ls hJ => ?_) (fun J_9 => ?_)
    · obtain ⟨hj_9, hP, hS, hl⟩ := hJ
      show W p l e _ s m _ below meth c H locs _ _ _ (F0 m 57 ls [.int x_9])
      exact W.iret (v := x_9) hx hb hr (fun t ht hW => ⟨⟨x_9, (), rfl, (by show _ = fM_byG dn se tm gs sn p0 p3; unfold fM_byG; first | (rw [hj_9, hj_4, hw_2, hw_1]; done) | (rw [hj_9, hj_4, hw_2, hw_1]; rfl) | (simp only [hj_9, hj_4, hw_2, hw_1]; done)), trivial⟩, hS.F ht⟩) hS.2.2 dX8_byGarage_57
    · refine lv_if_ne (tgt := 40) hx hb dX8_byGarage_28 (by decide) (fun c_10 => ?_) (fun c_10 => ?_)
      · refine lv_iload_n hx hb dX8_byGarage_40 rfl (lv_at hl 1 rfl) ?_
        refine lv_iconst (v := 2) hx hb dX8_byGarage_41 (by decide) ?_
        refine lv_icmp_eq (tgt := 50) hx hb dX8_byGarage_42 (by decide) (fun c_11 => ?_) (fun c_11 => ?_)
        · refine lv_ldcw hx hb hown (hts _ tw_1337) dX8_byGarage_50 ?_
          refine lv_goto (tgt := 57) hx hb dX8_byGarage_53 (by decide) ?_
          exact J_9 1000000 _ _ _ ⟨(by first | (rw [if_neg c_10, if_pos c_11]; done) | (rw [if_neg c_10, if_pos c_11]; rfl) | (simp only [if_neg c_10, if_pos c_11]; done)), hP, hS, lv_sub hl [0, 1, 2, 3, 4] rfl⟩
        · refine lv_iload hx hb dX8_byGarage_45 (lv_at hl 0 rfl) ?_
          refine lv_if_eq (tgt := 56) hx hb dX8_byGarage_47 (by decide) (fun c_12 => ?_) (fun c_12 => ?_)
          · have c_12 := (nI_eq (a := x_4) (b := 0) (by omega) (by omega)).mp c_12
            refine lv_iconst (v := 0) hx hb dX8_byGarage_56 (by decide) ?_
            exact J_9 0 _ _ _ ⟨(by first | (rw [if_neg c_10, if_neg c_11, if_pos c_12]; done) | (rw [if_neg c_10, if_neg c_11, if_pos c_12]; rfl) | (simp only [if_neg c_10, if_neg c_11, if_pos c_12]; done)), hP, hS, lv_sub hl [0, 1, 2, 3, 4] rfl⟩
          · have c_12 : ¬ (x_4 = 0) := fun h => c_12 ((nI_eq (a := x_4) (b := 0) (by omega) (by omega)).mpr h)
            refine lv_ldcw hx hb hown (hts _ tw_1337) dX8_byGarage_50 ?_
            refine lv_goto (tgt := 57) hx hb dX8_byGarage_53 (by decide) ?_
            exact J_9 1000000 _ _ _ ⟨(by first | (rw [if_neg c_10, if_neg c_11, if_neg c_12]; done) | (rw [if_neg c_10, if_neg c_11, if_neg c_12]; rfl) | (simp only [if_neg c_10, if_neg c_11, if_neg c_12]; done)), hP, hS, lv_sub hl [0, 1, 2, 3, 4] rfl⟩
      · refine lv_aload_n hx hb dX8_byGarage_31 rfl (lv_at hl 4 rfl) ?_
        refine lv_iload_n hx hb dX8_byGarage_32 rfl (lv_at hl 3 rfl) ?_
        refine lv_iload_n hx hb dX8_byGarage_33 rfl (lv_at hl 2 rfl) ?_
        refine ro_i (D := D) (va_runV (As := [.int (nI sn), .int p0]) (rest := []) ⟨hx, hb, hml, hown, hts⟩ ((n_garageOf l D k st lo a tx t0 we rd ru rw ca fp wd nu na ts df db sd dn se tm gs sn p0 (by first | assumption | omega)) H.size) (cwV 2 hts (gV tw_1258 tw_1260 tw_51 tw_87 tw_1261) rfl rfl rfl (by decide +kernel) ⟨Nat.le_of_ble_eq_true rfl, Nat.le_of_ble_eq_true rfl⟩) (pV hS hAlo hlo hP hK hDL hZ [0, 1, 2] (by decide) rfl (ci := 8) (q := (RX8, TX8, 44)) (q0 := 0) rfl rfl) rfl rfl hl.1 rfl (lv_room (Nat.le_of_ble_eq_true rfl)) dX8_byGarage_34 ⟨Nat.le_of_ble_eq_true rfl, Nat.le_of_ble_eq_true rfl⟩) hS hA hP (fun r_13 H locs hw_13 hP hS => ?_)
        try dsimp only at hw_13
        refine lv_goto (tgt := 57) hx hb dX8_byGarage_37 (by decide) ?_
        exact J_9 r_13 _ _ _ ⟨(by first | (rw [if_pos c_10, hw_13]; done) | (rw [if_pos c_10, hw_13]; rfl) | (simp only [if_pos c_10, hw_13]; done)), hP, hS, lv_sub hl [0, 1, 2, 3, 4] rfl⟩
  · refine lv_if_le (tgt := 24) hx hb dX8_byGarage_17 (by decide) (fun c_14 => ?_) (fun c_14 => ?_)
    · refine lv_iconst (v := 0) hx hb dX8_byGarage_24 (by decide) ?_
      exact J_4 0 _ _ _ ⟨(by first | (rw [if_pos c_14]; done) | (rw [if_pos c_14]; rfl) | (simp only [if_pos c_14]; done)), .inl rfl, hP, hS, lv_sub hl [3, 2, 1, 0] rfl⟩
    · refine lv_iconst (v := 1) hx hb dX8_byGarage_20 (by decide) ?_
      refine lv_goto (tgt := 25) hx hb dX8_byGarage_21 (by decide) ?_
      exact J_4 1 _ _ _ ⟨(by first | (rw [if_neg c_14]; done) | (rw [if_neg c_14]; rfl) | (simp only [if_neg c_14]; done)), .inr (rfl), hP, hS, lv_sub hl [3, 2, 1, 0] rfl⟩

theorem f_glueP24b : True := trivial
theorem mByT {dn se tm : Nat → Nat} {gs ffr fpr : Nat → Int32} {s r i wh : Nat} (hg : okG (sdM dn (sg se tm gs) ffr fpr s).2.1) (hn : dn s ≤ 24) (hr : r ≤ 3) (hi : i < dn s) (hw : wh ≤ 2) : fM_byT dn se tm gs fpr s i (nI r) (nI wh) = pSh (sdM dn (sg se tm gs) ffr fpr s) wh r i := by
  have h := mLt (z := fM_late se tm gs s (nI r * (nI (dn s) + sg se tm gs (9 * s + 6)) + nI (dn s))) hg hn hr rfl
  unfold fM_byT pSh fM_tick
  rw [ac_sub]
  rcases (show wh = 0 ∨ wh = 1 ∨ wh = 2 by omega) with rfl | rfl | rfl
  · rw [if_pos (show nI 0 = 0 by decide), if_pos rfl]
    exact mTake hi
  · rw [if_neg (show ¬ nI 1 = 0 by decide), if_pos (show nI 1 = 1 by decide), if_neg (show ¬ (1 : Nat) = 0 by decide), if_pos (show (1 : Nat) = 1 from rfl)]
    by_cases c : pLt (sdM dn (sg se tm gs) ffr fpr s) r = true
    · rw [if_neg (Int32.not_le.mpr (h.mpr c)), if_neg (by decide), if_pos c]
    · rw [if_pos (Int32.not_lt.mp (fun q => c (h.mp q))), if_pos (by decide), if_neg c]
  · rw [if_neg (show ¬ nI 2 = 0 by decide), if_neg (show ¬ nI 2 = 1 by decide), if_neg (show ¬ (2 : Nat) = 0 by decide), if_neg (show ¬ (2 : Nat) = 1 by decide)]
theorem mByG {dn se tm : Nat → Nat} {gs ffr fpr : Nat → Int32} {s r wh : Nat} (hg : okG (sdM dn (sg se tm gs) ffr fpr s).2.1) (hn : dn s ≤ 24) (hr : r ≤ 3) (hw : wh ≤ 2) : fM_byG dn se tm gs s (nI r) (nI wh) = pGs (sdM dn (sg se tm gs) ffr fpr s) wh r := by
  have h := mLt (z := fM_late se tm gs s (nI r * (nI (dn s) + sg se tm gs (9 * s + 6)) + nI (dn s))) hg hn hr rfl
  unfold fM_byG pGs fM_tick
  rcases (show wh = 0 ∨ wh = 1 ∨ wh = 2 by omega) with rfl | rfl | rfl
  · rw [if_pos (show nI 0 = 0 by decide), if_pos rfl]
    exact mGar
  · rw [if_neg (show ¬ nI 1 = 0 by decide), if_neg (show ¬ nI 1 = 2 by decide), if_neg (show ¬ (1 : Nat) = 0 by decide), if_pos (show (1 : Nat) = 1 from rfl)]
    by_cases c : pLt (sdM dn (sg se tm gs) ffr fpr s) r = true
    · rw [if_neg (Int32.not_le.mpr (h.mpr c)), if_neg (by decide), if_pos c]
    · rw [if_pos (Int32.not_lt.mp (fun q => c (h.mp q))), if_pos (by decide), if_neg c]
  · rw [if_neg (show ¬ nI 2 = 0 by decide), if_pos (show nI 2 = 2 by decide), if_neg (show ¬ (2 : Nat) = 0 by decide), if_neg (show ¬ (2 : Nat) = 1 by decide)]
theorem la_updc {f F : Nat → Int32} {P : Nat → Prop} {k : Nat} {c : Int32} (h : ∀ r, r < k → P r → f r = F r) (hc : P k → c = F k) : ∀ r, r < k + 1 → P r → upd f k c r = F r := by
  intro r hr hp
  by_cases h1 : r = k
  · rw [h1] at hp ⊢
    rw [pk_us]
    exact hc hp
  · rw [pk_un h1]
    exact h r (by omega) hp
theorem mr_of {d : SDt} {u : RUt} {wh L r : Nat} {E : Int32} (h : r ≤ L) (h1 : r < L → E = pRs d wh + mR d u wh L (L - (r + 1))) (h2 : r = L → E = pGs d wh r) : mV d u wh r E d.1 0 0 = mR d u wh L (L - r) := by
  rcases Nat.lt_or_ge r L with c | c
  · rw [mR_s c, h1 c, Int32.add_comm]
  · rw [mR_l (show r = L by omega), h2 (by omega)]
theorem rr_of {k : Nat} {f0 f1 f2 f3 : Int32} {c0 c1 c2 c3 r0 r1 r2 r3 : Nat} {s0 s1 s2 s3 b0 b1 b2 b3 : Nat → Int32} {bm : Nat → Nat} {fs ff fr : Nat → Int32} (hk : k ≤ 4) (h : ∀ i, i < k → d4 (ruX f0 c0 r0 s0 b0) (ruX f1 c1 r1 s1 b1) (ruX f2 c2 r2 s2 b2) (ruX f3 c3 r3 s3 b3) i = ruM bm fs ff fr i) (h0 : r0 ≤ 3) (h1 : r1 ≤ 3) (h2 : r2 ≤ 3) (h3 : r3 ≤ 3) : ∀ i, i < k → ∃ x : Nat, x ≤ 3 ∧ fr i = nI x := by
  intro i hi
  have e := congrArg (fun z => z.2.2) (h i hi)
  rcases (show i = 0 ∨ i = 1 ∨ i = 2 ∨ i = 3 by omega) with rfl | rfl | rfl | rfl
  · exact ⟨r0, h0, e.symm⟩
  · exact ⟨r1, h1, e.symm⟩
  · exact ⟨r2, h2, e.symm⟩
  · exact ⟨r3, h3, e.symm⟩


set_option maxHeartbeats 4000000 in
set_option maxRecDepth 100000 in
theorem n_isRoundBy (l : Launch) (D : va_G) (k : Nat → ClassId) (st : Nat → Nat) (lo : Nat) (a : Nat → Nat) (tx : Nat) (t0 : Nat) (we : Nat) (rd : Nat) (ru : Nat) (rw : Nat) (ca : Nat) (fp : Int32) (wd : Int64) (nu : Int32) (na : Int32) (ts : Int32) (df : Int32) (db : Int32) (sd : Int32) (se : Nat → Nat) (tm : Nat → Nat) (gs : Nat → Int32) (fruleRounds : Nat → Int32) (sn : Nat) (kr : Nat) (rn : Nat) (rx : Nat) (htm : ∀ j, tm j ≤ 3) (hs : sn < 3) (hk : kr < 4) (hrn : rn ≤ 3) (hrx : fruleRounds kr = nI rx) (hr3 : rx ≤ 3) : CRi l D k st lo yX8_isRoundBy cX8_isRoundBy 4 (some .boolean) ({ frames := 1, cells := 0, slots := 0, locals := 22 }) [.ref (a 0), .int (nI sn), .int (nI kr), .int (nI rn)] [((a 0), .inr (8, (fX8 a (nI tx) fp (nI t0) wd (nI we) nu na (nI rd) ts (nI ru) (nI rw) (nI ca) df db sd))), (aI k (a 4) 27 (sg se tm gs)), (aI k (a 28) 4 fruleRounds)] (fun r => (r = 1 ∧ rn < (min rx (tm sn))) ∨ (r = 0 ∧ ¬ rn < (min rx (tm sn)))) := by
  intro sz
  refine Met.ofW (cc := cX8_isRoundBy) (maxL := 4) (ret := (some .boolean)) (by decide) rfl ?_
  intro p e s m args below meth c s₁ B hml hv
  obtain ⟨rfl, hsz, hlo, hP, hK, hDL, hZ⟩ := hv
  have hx := B.exec
  have hb := B.bytes
  have hr := B.returns
  have hts := WS_ts B.pre
  have hown : s.vm.findClass RX8 = some m.cls := findClass_of_methodNamed B.named
  have hlocks := B.notSynchronized
  subst hsz
  have hA : ∀ q : Nat, s.heap.size ≤ q → (fun q : Nat => s.heap.size ≤ q) q := fun _ h => h
  have hAlo : ∀ q : Nat, (fun q : Nat => s.heap.size ≤ q) q → lo ≤ q := fun q h => Nat.le_trans hlo h
  have hS : va_S (fun q : Nat => s.heap.size ≤ q) s.heap s.heap [] := va_S.rf
  have hl := lv_entry ([.ref (a 0), .int (nI sn), .int (nI kr), .int (nI rn)]) (n := 4) (Nat.le_of_ble_eq_true rfl)
  rw [lg_entry_eq]
  generalize (lg_sl ([.ref (a 0), .int (nI sn), .int (nI kr), .int (nI rn)]) ++ List.replicate (4 - (lg_sl ([.ref (a 0), .int (nI sn), .int (nI kr), .int (nI rn)])).length) Slot.unset).toArray = ls at hl ⊢
  have hl : lv_has ls 4 [(0, .ref (a 0)), (1, .int (nI sn)), (2, .int (nI kr)), (3, .int (nI rn))] := hl
  have hd_7 := htm sn
  refine lv_iload_n hx hb dX8_isRoundBy_0 rfl (lv_at hl 3 rfl) ?_
  refine lv_aload_n hx hb dX8_isRoundBy_1 rfl (lv_at hl 0 rfl) ?_
  refine va_get (D := D) (ci := 8) (v := .ref (a 28)) (C := RX8) (T := TX8) (N := 44) hx hb hts inX8 hown hK hP 0 rfl rfl 27 (by decide) (hts _ tw_1000) (fun _ h9 => h9) rfl dX8_isRoundBy_2 ?_
  refine lv_iload_n hx hb dX8_isRoundBy_5 rfl (lv_at hl 2 rfl) ?_
  refine va_iald hx hb hK hP 2 1 rfl rfl (vp_in_nI (by omega) (by decide)) dX8_isRoundBy_6 ?_
  refine lv_ti (y := (nI rx)) (by rw [nI_clamp (by omega)]; exact hrx) ?_
  refine lv_icmp_ge (tgt := 25) hx hb dX8_isRoundBy_7 (by decide) (fun c_1 => ?_) (fun c_1 => ?_)
  · have c_1 := (nI_leI (a := rx) (b := rn) (by omega) (by omega)).mp c_1
    refine lv_iconst (v := 0) hx hb dX8_isRoundBy_25 (by decide) ?_
    exact W.zret (v := 0) (ty := .boolean) hx hb hr rfl (fun t ht hW => ⟨⟨0, (), rfl, .inr ⟨rfl, by omega⟩, trivial⟩, hS.F ht⟩) hS.2.2 dX8_isRoundBy_26
  · have c_1 : ¬ (rx ≤ rn) := fun h => c_1 ((nI_leI (a := rx) (b := rn) (by omega) (by omega)).mpr h)
    refine lv_iload_n hx hb dX8_isRoundBy_10 rfl (lv_at hl 3 rfl) ?_
    refine lv_aload_n hx hb dX8_isRoundBy_11 rfl (lv_at hl 0 rfl) ?_
    refine lv_iload_n hx hb dX8_isRoundBy_12 rfl (lv_at hl 1 rfl) ?_
    refine lv_bipush (v := 7) hx hb dX8_isRoundBy_13 (by decide) ?_
    refine ro_i (D := D) (va_runV (As := [.int (nI sn), .int 7]) (rest := [.int (nI rn)]) ⟨hx, hb, hml, hown, hts⟩ ((m_of l D k st lo a tx t0 we rd ru rw ca fp wd nu na ts df db sd se tm gs sn 7 (by first | assumption | omega) (by first | assumption | omega)) s.heap.size) (cwV 2 hts (gV tw_1194 tw_1196 tw_39 tw_87 tw_1197) rfl rfl rfl (by decide +kernel) ⟨Nat.le_of_ble_eq_true rfl, Nat.le_of_ble_eq_true rfl⟩) (pV hS hAlo hlo hP hK hDL hZ [0, 1] (by decide) rfl (ci := 8) (q := (RX8, TX8, 44)) (q0 := 0) rfl rfl) rfl rfl hl.1 rfl (lv_room (Nat.le_of_ble_eq_true rfl)) dX8_isRoundBy_15 ⟨Nat.le_of_ble_eq_true rfl, Nat.le_of_ble_eq_true rfl⟩) hS hA hP (fun r_2 H locs hw_2 hP hS => ?_)
    try dsimp only at hw_2
    obtain rfl := hw_2.trans (sg_tm _ _ _ _)
    refine lv_icmp_ge (tgt := 25) hx hb dX8_isRoundBy_18 (by decide) (fun c_3 => ?_) (fun c_3 => ?_)
    · have c_3 := (nI_leI (a := (tm sn)) (b := rn) (by omega) (by omega)).mp c_3
      refine lv_iconst (v := 0) hx hb dX8_isRoundBy_25 (by decide) ?_
      exact W.zret (v := 0) (ty := .boolean) hx hb hr rfl (fun t ht hW => ⟨⟨0, (), rfl, .inr ⟨rfl, by omega⟩, trivial⟩, hS.F ht⟩) hS.2.2 dX8_isRoundBy_26
    · have c_3 : ¬ ((tm sn) ≤ rn) := fun h => c_3 ((nI_leI (a := (tm sn)) (b := rn) (by omega) (by omega)).mpr h)
      refine lv_iconst (v := 1) hx hb dX8_isRoundBy_21 (by decide) ?_
      refine lv_goto (tgt := 26) hx hb dX8_isRoundBy_22 (by decide) ?_
      exact W.zret (v := 1) (ty := .boolean) hx hb hr rfl (fun t ht hW => ⟨⟨1, (), rfl, .inl ⟨rfl, by omega⟩, trivial⟩, hS.F ht⟩) hS.2.2 dX8_isRoundBy_26


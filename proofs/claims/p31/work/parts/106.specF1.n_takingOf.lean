
def fM_taking (dn : Nat → Nat) (se : Nat → Nat) (tm : Nat → Nat) (gs : Nat → Int32) (fprices : Nat → Int32) (sn : Nat) (i : Nat) (p0 : Int32) : Int32 := (fM_takingBy dn se tm gs fprices sn i p0 (sg se tm gs (9 * sn + 1)))
set_option maxHeartbeats 4000000 in
set_option maxRecDepth 100000 in
theorem n_takingOf (l : Launch) (D : va_G) (k : Nat → ClassId) (st : Nat → Nat) (lo : Nat) (a : Nat → Nat) (tx : Nat) (t0 : Nat) (we : Nat) (rd : Nat) (ru : Nat) (rw : Nat) (ca : Nat) (fp : Int32) (wd : Int64) (nu : Int32) (na : Int32) (ts : Int32) (df : Int32) (db : Int32) (sd : Int32) (dn : Nat → Nat) (se : Nat → Nat) (tm : Nat → Nat) (gs : Nat → Int32) (fprices : Nat → Int32) (sn : Nat) (i : Nat) (p0 : Int32)  (hs : sn < 3) (hi : i < 24) : CRi l D k st lo yX8_takingOf cX8_takingOf 4 (some .int) ({ frames := 3, cells := 0, slots := 0, locals := 70 }) [.ref (a 0), .int (nI sn), .int p0, .int (nI i)] [((a 0), .inr (8, (fX8 a (nI tx) fp (nI t0) wd (nI we) nu na (nI rd) ts (nI ru) (nI rw) (nI ca) df db sd))), (aI k (a 1) 3 (nF dn)), (aI k (a 4) 27 (sg se tm gs)), (aI k (a 3) 72 fprices)] (fun r => r = fM_taking dn se tm gs fprices sn i p0) := by
  intro sz
  refine Met.ofW (cc := cX8_takingOf) (maxL := 4) (ret := (some .int)) (by decide) rfl ?_
  intro p e s m args below meth c s₁ B hml hv
  obtain ⟨rfl, hsz, hlo, hP, hK, hDL, hZ⟩ := hv
  have hx := B.exec
  have hb := B.bytes
  have hr := B.returns
  have hts := WS_ts B.pre
  have hown : s.vm.findClass RX8 = some m.cls := findClass_of_methodNamed B.named
  have hlocks := B.notSynchronized
  subst hsz
  have hA : ∀ q : Nat, s.heap.size ≤ q → (fun q : Nat => s.heap.size ≤ q) q := fun _ h => h
  have hAlo : ∀ q : Nat, (fun q : Nat => s.heap.size ≤ q) q → lo ≤ q := fun q h => Nat.le_trans hlo h
  have hS : va_S (fun q : Nat => s.heap.size ≤ q) s.heap s.heap [] := va_S.rf
  have hl := lv_entry ([.ref (a 0), .int (nI sn), .int p0, .int (nI i)]) (n := 4) (Nat.le_of_ble_eq_true rfl)
  rw [lg_entry_eq]
  generalize (lg_sl ([.ref (a 0), .int (nI sn), .int p0, .int (nI i)]) ++ List.replicate (4 - (lg_sl ([.ref (a 0), .int (nI sn), .int p0, .int (nI i)])).length) Slot.unset).toArray = ls at hl ⊢
  have hl : lv_has ls 4 [(0, .ref (a 0)), (1, .int (nI sn)), (2, .int p0), (3, .int (nI i))] := hl
  refine lv_aload_n hx hb dX8_takingOf_0 rfl (lv_at hl 0 rfl) ?_
  refine lv_iload_n hx hb dX8_takingOf_1 rfl (lv_at hl 1 rfl) ?_
  refine lv_iload_n hx hb dX8_takingOf_2 rfl (lv_at hl 2 rfl) ?_
  refine lv_iload_n hx hb dX8_takingOf_3 rfl (lv_at hl 3 rfl) ?_
  refine lv_aload_n hx hb dX8_takingOf_4 rfl (lv_at hl 0 rfl) ?_
  refine lv_iload_n hx hb dX8_takingOf_5 rfl (lv_at hl 1 rfl) ?_
  refine lv_iconst (v := 1) hx hb dX8_takingOf_6 (by decide) ?_
  refine ro_i (D := D) (va_runV (As := [.int (nI sn), .int 1]) (rest := [.int (nI i), .int p0, .int (nI sn), .ref (a 0)]) ⟨hx, hb, hml, hown, hts⟩ ((m_of l D k st lo a tx t0 we rd ru rw ca fp wd nu na ts df db sd se tm gs sn 1 (by first | assumption | omega) (by first | assumption | omega)) s.heap.size) (cwV 2 hts (gV tw_1194 tw_1196 tw_39 tw_87 tw_1197) rfl rfl rfl (by decide +kernel) ⟨Nat.le_of_ble_eq_true rfl, Nat.le_of_ble_eq_true rfl⟩) (pV hS hAlo hlo hP hK hDL hZ [0, 2] (by decide) rfl (ci := 8) (q := (RX8, TX8, 44)) (q0 := 0) rfl rfl) rfl rfl hl.1 rfl (lv_room (Nat.le_of_ble_eq_true rfl)) dX8_takingOf_7 ⟨Nat.le_of_ble_eq_true rfl, Nat.le_of_ble_eq_true rfl⟩) hS hA hP (fun r_1 H locs hw_1 hP hS => ?_)
  try dsimp only at hw_1
  refine ro_i (D := D) (va_runV (As := [.int (nI sn), .int p0, .int (nI i), .int r_1]) (rest := []) ⟨hx, hb, hml, hown, hts⟩ ((n_takingBy l D k st lo a tx t0 we rd ru rw ca fp wd nu na ts df db sd dn se tm gs fprices sn i p0 r_1 (by first | assumption | omega) (by first | assumption | omega)) H.size) (cwV 4 hts (gV tw_1226 tw_1228 tw_44 tw_87 tw_1229) rfl rfl rfl (by decide +kernel) ⟨Nat.le_of_ble_eq_true rfl, Nat.le_of_ble_eq_true rfl⟩) (pV hS hAlo hlo hP hK hDL hZ [0, 1, 2, 3] (by decide) rfl (ci := 8) (q := (RX8, TX8, 44)) (q0 := 0) rfl rfl) rfl rfl hl.1 rfl (lv_room (Nat.le_of_ble_eq_true rfl)) dX8_takingOf_10 ⟨Nat.le_of_ble_eq_true rfl, Nat.le_of_ble_eq_true rfl⟩) hS hA hP (fun r_2 H locs hw_2 hP hS => ?_)
  try dsimp only at hw_2
  exact W.iret (v := r_2) hx hb hr (fun t ht hW => ⟨⟨r_2, (), rfl, (by show _ = fM_taking dn se tm gs fprices sn i p0; unfold fM_taking; first | (rw [hw_2, hw_1]; done) | (rw [hw_2, hw_1]; rfl) | (simp only [hw_2, hw_1]; done)), trivial⟩, hS.F ht⟩) hS.2.2 dX8_takingOf_13


def fM_garage (dn : Nat → Nat) (se : Nat → Nat) (tm : Nat → Nat) (gs : Nat → Int32) (sn : Nat) (p0 : Int32) : Int32 := (((sg se tm gs (9 * sn + 8)) + ((sg se tm gs (9 * sn + 3)) * (fM_late se tm gs sn (fM_tick dn se tm gs sn p0 (nI (dn sn)))))) * 1000)
set_option maxHeartbeats 4000000 in
set_option maxRecDepth 100000 in
theorem n_garageOf (l : Launch) (D : va_G) (k : Nat → ClassId) (st : Nat → Nat) (lo : Nat) (a : Nat → Nat) (tx : Nat) (t0 : Nat) (we : Nat) (rd : Nat) (ru : Nat) (rw : Nat) (ca : Nat) (fp : Int32) (wd : Int64) (nu : Int32) (na : Int32) (ts : Int32) (df : Int32) (db : Int32) (sd : Int32) (dn : Nat → Nat) (se : Nat → Nat) (tm : Nat → Nat) (gs : Nat → Int32) (sn : Nat) (p0 : Int32)  (hs : sn < 3) : CRi l D k st lo yX8_garageOf cX8_garageOf 3 (some .int) ({ frames := 2, cells := 0, slots := 0, locals := 45 }) [.ref (a 0), .int (nI sn), .int p0] [((a 0), .inr (8, (fX8 a (nI tx) fp (nI t0) wd (nI we) nu na (nI rd) ts (nI ru) (nI rw) (nI ca) df db sd))), (aI k (a 1) 3 (nF dn)), (aI k (a 4) 27 (sg se tm gs))] (fun r => r = fM_garage dn se tm gs sn p0) := by
  intro sz
  refine Met.ofW (cc := cX8_garageOf) (maxL := 3) (ret := (some .int)) (by decide) rfl ?_
  intro p e s m args below meth c s₁ B hml hv
  obtain ⟨rfl, hsz, hlo, hP, hK, hDL, hZ⟩ := hv
  have hx := B.exec
  have hb := B.bytes
  have hr := B.returns
  have hts := WS_ts B.pre
  have hown : s.vm.findClass RX8 = some m.cls := findClass_of_methodNamed B.named
  have hlocks := B.notSynchronized
  subst hsz
  have hA : ∀ q : Nat, s.heap.size ≤ q → (fun q : Nat => s.heap.size ≤ q) q := fun _ h => h
  have hAlo : ∀ q : Nat, (fun q : Nat => s.heap.size ≤ q) q → lo ≤ q := fun q h => Nat.le_trans hlo h
  have hS : va_S (fun q : Nat => s.heap.size ≤ q) s.heap s.heap [] := va_S.rf
  have hl := lv_entry ([.ref (a 0), .int (nI sn), .int p0]) (n := 3) (Nat.le_of_ble_eq_true rfl)
  rw [lg_entry_eq]
  generalize (lg_sl ([.ref (a 0), .int (nI sn), .int p0]) ++ List.replicate (3 - (lg_sl ([.ref (a 0), .int (nI sn), .int p0])).length) Slot.unset).toArray = ls at hl ⊢
  have hl : lv_has ls 3 [(0, .ref (a 0)), (1, .int (nI sn)), (2, .int p0)] := hl
  refine lv_aload_n hx hb dX8_garageOf_0 rfl (lv_at hl 0 rfl) ?_
  refine lv_iload_n hx hb dX8_garageOf_1 rfl (lv_at hl 1 rfl) ?_
  refine lv_bipush (v := 8) hx hb dX8_garageOf_2 (by decide) ?_
  refine ro_i (D := D) (va_runV (As := [.int (nI sn), .int 8]) (rest := []) ⟨hx, hb, hml, hown, hts⟩ ((m_of l D k st lo a tx t0 we rd ru rw ca fp wd nu na ts df db sd se tm gs sn 8 (by first | assumption | omega) (by first | assumption | omega)) s.heap.size) (cwV 2 hts (gV tw_1194 tw_1196 tw_39 tw_87 tw_1197) rfl rfl rfl (by decide +kernel) ⟨Nat.le_of_ble_eq_true rfl, Nat.le_of_ble_eq_true rfl⟩) (pV hS hAlo hlo hP hK hDL hZ [0, 2] (by decide) rfl (ci := 8) (q := (RX8, TX8, 44)) (q0 := 0) rfl rfl) rfl rfl hl.1 rfl (lv_room (Nat.le_of_ble_eq_true rfl)) dX8_garageOf_4 ⟨Nat.le_of_ble_eq_true rfl, Nat.le_of_ble_eq_true rfl⟩) hS hA hP (fun r_1 H locs hw_1 hP hS => ?_)
  try dsimp only at hw_1
  refine lv_aload_n hx hb dX8_garageOf_7 rfl (lv_at hl 0 rfl) ?_
  refine lv_iload_n hx hb dX8_garageOf_8 rfl (lv_at hl 1 rfl) ?_
  refine lv_iconst (v := 3) hx hb dX8_garageOf_9 (by decide) ?_
  refine ro_i (D := D) (va_runV (As := [.int (nI sn), .int 3]) (rest := [.int r_1]) ⟨hx, hb, hml, hown, hts⟩ ((m_of l D k st lo a tx t0 we rd ru rw ca fp wd nu na ts df db sd se tm gs sn 3 (by first | assumption | omega) (by first | assumption | omega)) H.size) (cwV 2 hts (gV tw_1194 tw_1196 tw_39 tw_87 tw_1197) rfl rfl rfl (by decide +kernel) ⟨Nat.le_of_ble_eq_true rfl, Nat.le_of_ble_eq_true rfl⟩) (pV hS hAlo hlo hP hK hDL hZ [0, 2] (by decide) rfl (ci := 8) (q := (RX8, TX8, 44)) (q0 := 0) rfl rfl) rfl rfl hl.1 rfl (lv_room (Nat.le_of_ble_eq_true rfl)) dX8_garageOf_10 ⟨Nat.le_of_ble_eq_true rfl, Nat.le_of_ble_eq_true rfl⟩) hS hA hP (fun r_2 H locs hw_2 hP hS => ?_)
  try dsimp only at hw_2
  refine lv_aload_n hx hb dX8_garageOf_13 rfl (lv_at hl 0 rfl) ?_
  refine lv_iload_n hx hb dX8_garageOf_14 rfl (lv_at hl 1 rfl) ?_
  refine lv_aload_n hx hb dX8_garageOf_15 rfl (lv_at hl 0 rfl) ?_
  refine lv_iload_n hx hb dX8_garageOf_16 rfl (lv_at hl 1 rfl) ?_
  refine lv_iload_n hx hb dX8_garageOf_17 rfl (lv_at hl 2 rfl) ?_
  refine lv_aload_n hx hb dX8_garageOf_18 rfl (lv_at hl 0 rfl) ?_
  refine va_get (D := D) (ci := 8) (v := .ref (a 1)) (C := RX8) (T := TX8) (N := 44) hx hb hts inX8 hown hK hP 0 rfl rfl 0 (by decide) (hts _ tw_973) (fun _ h9 => h9) rfl dX8_garageOf_19 ?_
  refine lv_iload_n hx hb dX8_garageOf_22 rfl (lv_at hl 1 rfl) ?_
  refine va_iald hx hb hK hP 1 1 rfl rfl (vp_in_nI (by omega) (by decide)) dX8_garageOf_23 ?_
  refine lv_ti (y := (nI (dn sn))) (by rw [nI_clamp (by omega)]; rfl) ?_
  refine ro_i (D := D) (va_runV (As := [.int (nI sn), .int p0, .int (nI (dn sn))]) (rest := [.int (nI sn), .ref (a 0), .int r_2, .int r_1]) ⟨hx, hb, hml, hown, hts⟩ ((n_tick l D k st lo a tx t0 we rd ru rw ca fp wd nu na ts df db sd dn se tm gs sn p0 (nI (dn sn)) (by first | assumption | omega)) H.size) (cwV 3 hts (gV tw_1230 tw_1232 tw_45 tw_87 tw_1233) rfl rfl rfl (by decide +kernel) ⟨Nat.le_of_ble_eq_true rfl, Nat.le_of_ble_eq_true rfl⟩) (pV hS hAlo hlo hP hK hDL hZ [0, 1, 2] (by decide) rfl (ci := 8) (q := (RX8, TX8, 44)) (q0 := 0) rfl rfl) rfl rfl hl.1 rfl (lv_room (Nat.le_of_ble_eq_true rfl)) dX8_garageOf_24 ⟨Nat.le_of_ble_eq_true rfl, Nat.le_of_ble_eq_true rfl⟩) hS hA hP (fun r_3 H locs hw_3 hP hS => ?_)
  try dsimp only at hw_3
  refine ro_i (D := D) (va_runV (As := [.int (nI sn), .int r_3]) (rest := [.int r_2, .int r_1]) ⟨hx, hb, hml, hown, hts⟩ ((n_lateAt l D k st lo a tx t0 we rd ru rw ca fp wd nu na ts df db sd se tm gs sn r_3 (by first | assumption | omega)) H.size) (cwV 2 hts (gV tw_1234 tw_1236 tw_46 tw_87 tw_1237) rfl rfl rfl (by decide +kernel) ⟨Nat.le_of_ble_eq_true rfl, Nat.le_of_ble_eq_true rfl⟩) (pV hS hAlo hlo hP hK hDL hZ [0, 2] (by decide) rfl (ci := 8) (q := (RX8, TX8, 44)) (q0 := 0) rfl rfl) rfl rfl hl.1 rfl (lv_room (Nat.le_of_ble_eq_true rfl)) dX8_garageOf_27 ⟨Nat.le_of_ble_eq_true rfl, Nat.le_of_ble_eq_true rfl⟩) hS hA hP (fun r_4 H locs hw_4 hP hS => ?_)
  try dsimp only at hw_4
  refine lv_imul hx hb dX8_garageOf_30 ?_
  refine lv_topi (fun x_5 ex_5 => ?_)
  refine lv_iadd hx hb dX8_garageOf_31 ?_
  refine lv_topi (fun x_6 ex_6 => ?_)
  refine lv_sipush (v := 1000) hx hb dX8_garageOf_32 (by decide) ?_
  refine lv_imul hx hb dX8_garageOf_35 ?_
  refine lv_topi (fun x_7 ex_7 => ?_)
  exact W.iret (v := x_7) hx hb hr (fun t ht hW => ⟨⟨x_7, (), rfl, (by show _ = fM_garage dn se tm gs sn p0; unfold fM_garage; first | (rw [ex_7, ex_6, ex_5, hw_4, hw_3, hw_2, hw_1]; done) | (rw [ex_7, ex_6, ex_5, hw_4, hw_3, hw_2, hw_1]; rfl) | (simp only [ex_7, ex_6, ex_5, hw_4, hw_3, hw_2, hw_1]; done)), trivial⟩, hS.F ht⟩) hS.2.2 dX8_garageOf_36


def fX_arrival (n : Nat) (g : Nat → Int32) (rn : Nat) : Int32 := (((nI rn) * ((nI n) + (g 7))) + (nI n))
set_option maxHeartbeats 4000000 in
set_option maxRecDepth 100000 in
theorem y_arrivalOf (l : Launch) (D : va_G) (k : Nat → ClassId) (st : Nat → Nat) (lo : Nat) (h0 : Nat) (h1 : Nat) (h2 : Nat) (h3 : Nat) (h4 : Nat) (n : Nat) (see : Nat) (tm : Nat) (g : Nat → Int32) (rn : Nat)  : CRi l D k st lo yX5_arrivalOf cX5_arrivalOf 2 (some .int) ({ frames := 0, cells := 0, slots := 0, locals := 0 }) [.ref h0, .int (nI rn)] [(h0, .inr (5, (fX5 h1 h2 h3 h4))), (aI k h1 10 (vv n see tm g))] (fun r => r = fX_arrival n g rn) := by
  intro sz
  refine Met.ofW (cc := cX5_arrivalOf) (maxL := 2) (ret := (some .int)) (by decide) rfl ?_
  intro p e s m args below meth c s₁ B hml hv
  obtain ⟨rfl, hsz, hlo, hP, hK, hDL, hZ⟩ := hv
  have hx := B.exec
  have hb := B.bytes
  have hr := B.returns
  have hts := WS_ts B.pre
  have hown : s.vm.findClass RX5 = some m.cls := findClass_of_methodNamed B.named
  have hlocks := B.notSynchronized
  subst hsz
  have hA : ∀ q : Nat, s.heap.size ≤ q → (fun q : Nat => s.heap.size ≤ q) q := fun _ h => h
  have hAlo : ∀ q : Nat, (fun q : Nat => s.heap.size ≤ q) q → lo ≤ q := fun q h => Nat.le_trans hlo h
  have hS : va_S (fun q : Nat => s.heap.size ≤ q) s.heap s.heap [] := va_S.rf
  have hl := lv_entry ([.ref h0, .int (nI rn)]) (n := 2) (Nat.le_of_ble_eq_true rfl)
  rw [lg_entry_eq]
  generalize (lg_sl ([.ref h0, .int (nI rn)]) ++ List.replicate (2 - (lg_sl ([.ref h0, .int (nI rn)])).length) Slot.unset).toArray = ls at hl ⊢
  have hl : lv_has ls 2 [(0, .ref h0), (1, .int (nI rn))] := hl
  refine lv_iload_n hx hb dX5_arrivalOf_0 rfl (lv_at hl 1 rfl) ?_
  refine lv_aload_n hx hb dX5_arrivalOf_1 rfl (lv_at hl 0 rfl) ?_
  refine va_get (D := D) (ci := 5) (v := .ref h1) (C := RX5) (T := TX5) (N := 4) hx hb hts inX5 hown hK hP 0 rfl rfl 0 (by decide) (hts _ tw_146) (fun _ h9 => h9) rfl dX5_arrivalOf_2 ?_
  refine lv_iconst (v := 0) hx hb dX5_arrivalOf_5 (by decide) ?_
  refine va_iald hx hb hK hP 1 1 rfl rfl (by unfold vp_in; decide) dX5_arrivalOf_6 ?_
  refine lv_ti (y := (nI n)) (by rfl) ?_
  refine lv_aload_n hx hb dX5_arrivalOf_7 rfl (lv_at hl 0 rfl) ?_
  refine va_get (D := D) (ci := 5) (v := .ref h1) (C := RX5) (T := TX5) (N := 4) hx hb hts inX5 hown hK hP 0 rfl rfl 0 (by decide) (hts _ tw_146) (fun _ h9 => h9) rfl dX5_arrivalOf_8 ?_
  refine lv_bipush (v := 7) hx hb dX5_arrivalOf_11 (by decide) ?_
  refine va_iald hx hb hK hP 1 1 rfl rfl (by unfold vp_in; decide) dX5_arrivalOf_13 ?_
  refine lv_ti (y := (g 7)) (by rfl) ?_
  refine lv_iadd hx hb dX5_arrivalOf_14 ?_
  refine lv_topi (fun x_1 ex_1 => ?_)
  refine lv_imul hx hb dX5_arrivalOf_15 ?_
  refine lv_topi (fun x_2 ex_2 => ?_)
  refine lv_aload_n hx hb dX5_arrivalOf_16 rfl (lv_at hl 0 rfl) ?_
  refine va_get (D := D) (ci := 5) (v := .ref h1) (C := RX5) (T := TX5) (N := 4) hx hb hts inX5 hown hK hP 0 rfl rfl 0 (by decide) (hts _ tw_146) (fun _ h9 => h9) rfl dX5_arrivalOf_17 ?_
  refine lv_iconst (v := 0) hx hb dX5_arrivalOf_20 (by decide) ?_
  refine va_iald hx hb hK hP 1 1 rfl rfl (by unfold vp_in; decide) dX5_arrivalOf_21 ?_
  refine lv_ti (y := (nI n)) (by rfl) ?_
  refine lv_iadd hx hb dX5_arrivalOf_22 ?_
  refine lv_topi (fun x_3 ex_3 => ?_)
  exact W.iret (v := x_3) hx hb hr (fun t ht hW => ⟨⟨x_3, (), rfl, (by show _ = fX_arrival n g rn; unfold fX_arrival; first | (rw [ex_3, ex_2, ex_1]; done) | (rw [ex_3, ex_2, ex_1]; rfl) | (simp only [ex_3, ex_2, ex_1]; done)), trivial⟩, hS.F ht⟩) hS.2.2 dX5_arrivalOf_23


def fX_chance (g : Nat → Int32) (ff : Nat → Int32) (i : Nat) (p1 : Int32) : Int32 := (if i = 0 then (ff i) else (if 0 < (if (if p1 = 0 then ((ff i) - (g 1)) else ((ff i) + (g 1))) < 100 then (if p1 = 0 then ((ff i) - (g 1)) else ((ff i) + (g 1))) else 100) then (if (if p1 = 0 then ((ff i) - (g 1)) else ((ff i) + (g 1))) < 100 then (if p1 = 0 then ((ff i) - (g 1)) else ((ff i) + (g 1))) else 100) else 0))
set_option maxHeartbeats 4000000 in
set_option maxRecDepth 100000 in
theorem y_chanceOf (l : Launch) (D : va_G) (k : Nat → ClassId) (st : Nat → Nat) (lo : Nat) (h0 : Nat) (h1 : Nat) (h2 : Nat) (h3 : Nat) (h4 : Nat) (n : Nat) (see : Nat) (tm : Nat) (g : Nat → Int32) (ff : Nat → Int32) (i : Nat) (p1 : Int32) (hi : i < 24) : CRi l D k st lo yX5_chanceOf cX5_chanceOf 4 (some .int) ({ frames := 1, cells := 0, slots := 0, locals := 60 }) [.ref h0, .int (nI i), .int p1] [(h0, .inr (5, (fX5 h1 h2 h3 h4))), (aI k h1 10 (vv n see tm g)), (aI k h2 24 ff)] (fun r => r = fX_chance g ff i p1) := by
  intro sz
  refine Met.ofW (cc := cX5_chanceOf) (maxL := 4) (ret := (some .int)) (by decide) rfl ?_
  intro p e s m args below meth c s₁ B hml hv
  obtain ⟨rfl, hsz, hlo, hP, hK, hDL, hZ⟩ := hv
  have hx := B.exec
  have hb := B.bytes
  have hr := B.returns
  have hts := WS_ts B.pre
  have hown : s.vm.findClass RX5 = some m.cls := findClass_of_methodNamed B.named
  have hlocks := B.notSynchronized
  subst hsz
  have hA : ∀ q : Nat, s.heap.size ≤ q → (fun q : Nat => s.heap.size ≤ q) q := fun _ h => h
  have hAlo : ∀ q : Nat, (fun q : Nat => s.heap.size ≤ q) q → lo ≤ q := fun q h => Nat.le_trans hlo h
  have hS : va_S (fun q : Nat => s.heap.size ≤ q) s.heap s.heap [] := va_S.rf
  have hl := lv_entry ([.ref h0, .int (nI i), .int p1]) (n := 4) (Nat.le_of_ble_eq_true rfl)
  rw [lg_entry_eq]
  generalize (lg_sl ([.ref h0, .int (nI i), .int p1]) ++ List.replicate (4 - (lg_sl ([.ref h0, .int (nI i), .int p1])).length) Slot.unset).toArray = ls at hl ⊢
  have hl : lv_has ls 4 [(0, .ref h0), (1, .int (nI i)), (2, .int p1)] := hl
  refine lv_iload_n hx hb dX5_chanceOf_0 rfl (lv_at hl 1 rfl) ?_
  refine lv_if_ne (tgt := 11) hx hb dX5_chanceOf_1 (by decide) (fun c_1 => ?_) (fun c_1 => ?_)
  · have c_1 : ¬ (i = 0) := fun h => c_1 ((nI_eq (a := i) (b := 0) (by omega) (by omega)).mpr h)
    refine lv_iload_n hx hb dX5_chanceOf_11 rfl (lv_at hl 2 rfl) ?_
    refine W_join (fun (x_5 : Int32) (H : Heap) (locs : List Loc) (ls : Array Slot) => x_5 = (if p1 = 0 then ((ff i) - (g 1)) else ((ff i) + (g 1))) ∧ va_P D classes [(h0, .inr (5, (fX5 h1 h2 h3 h4))), (aI k h1 10 (vv n see tm g)), (aI k h2 24 ff)] H ∧ va_S (fun q : Nat => s.heap.size ≤ q) s.heap H locs ∧ lv_has ls 4 [(2, .int p1), (1, .int (nI i)), (0, .ref h0)]) (fun (x_5 : Int32) => [.int x_5]) 44 (fun x_5 H locs ls hJ => ?_) (fun J_5 => ?_)
    · obtain ⟨hj_5, hP, hS, hl⟩ := hJ
      show W p l e _ s m _ below meth c H locs _ _ _ (F0 m 44 ls [.int x_5])
      refine lv_istore_n (lv' := [(3, .int x_5), (2, .int p1), (1, .int (nI i)), (0, .ref h0)]) hx hb dX5_chanceOf_44 rfl hl (by decide) rfl (fun ls hl => ?_)
      refine lv_iconst (v := 0) hx hb dX5_chanceOf_45 (by decide) ?_
      refine lv_bipush (v := 100) hx hb dX5_chanceOf_46 (by decide) ?_
      refine lv_iload_n hx hb dX5_chanceOf_48 rfl (lv_at hl 0 rfl) ?_
      refine va_mmin hx hb (by rw [hml]; exact hl.1.symm) hown (hts _ tw_540) (hts _ tw_529) (hts _ tw_93) (hts _ tw_530) (Nat.le_of_ble_eq_true rfl) (Nat.le_of_ble_eq_true rfl) (Nat.le_of_ble_eq_true rfl) (Nat.le_of_ble_eq_true rfl) dX5_chanceOf_49 ?_
      refine lv_topi (fun x_6 ex_6 => ?_)
      refine va_mmax hx hb (by rw [hml]; exact hl.1.symm) hown (hts _ tw_509) (hts _ tw_510) (hts _ tw_93) (hts _ tw_511) (Nat.le_of_ble_eq_true rfl) (Nat.le_of_ble_eq_true rfl) (Nat.le_of_ble_eq_true rfl) (Nat.le_of_ble_eq_true rfl) dX5_chanceOf_52 ?_
      refine lv_topi (fun x_7 ex_7 => ?_)
      exact W.iret (v := x_7) hx hb hr (fun t ht hW => ⟨⟨x_7, (), rfl, (by show _ = fX_chance g ff i p1; unfold fX_chance; first | (rw [if_neg c_1, ex_7, ex_6, hj_5]; done) | (rw [if_neg c_1, ex_7, ex_6, hj_5]; rfl) | (simp only [if_neg c_1, ex_7, ex_6, hj_5]; done)), trivial⟩, hS.F ht⟩) hS.2.2 dX5_chanceOf_55
    · refine lv_if_eq (tgt := 31) hx hb dX5_chanceOf_12 (by decide) (fun c_8 => ?_) (fun c_8 => ?_)
      · refine lv_aload_n hx hb dX5_chanceOf_31 rfl (lv_at hl 0 rfl) ?_
        refine va_get (D := D) (ci := 5) (v := .ref h2) (C := RX5) (T := TX5) (N := 4) hx hb hts inX5 hown hK hP 0 rfl rfl 1 (by decide) (hts _ tw_150) (fun _ h9 => h9) rfl dX5_chanceOf_32 ?_
        refine lv_iload_n hx hb dX5_chanceOf_35 rfl (lv_at hl 1 rfl) ?_
        refine va_iald hx hb hK hP 2 1 rfl rfl (vp_in_nI (by omega) (by decide)) dX5_chanceOf_36 ?_
        refine lv_ti (y := (ff i)) (by rw [nI_clamp (by omega)]) ?_
        refine lv_aload_n hx hb dX5_chanceOf_37 rfl (lv_at hl 0 rfl) ?_
        refine va_get (D := D) (ci := 5) (v := .ref h1) (C := RX5) (T := TX5) (N := 4) hx hb hts inX5 hown hK hP 0 rfl rfl 0 (by decide) (hts _ tw_146) (fun _ h9 => h9) rfl dX5_chanceOf_38 ?_
        refine lv_iconst (v := 1) hx hb dX5_chanceOf_41 (by decide) ?_
        refine va_iald hx hb hK hP 1 1 rfl rfl (by unfold vp_in; decide) dX5_chanceOf_42 ?_
        refine lv_ti (y := (g 1)) (by rfl) ?_
        refine lv_isub hx hb dX5_chanceOf_43 ?_
        refine lv_topi (fun x_9 ex_9 => ?_)
        exact J_5 x_9 _ _ _ ⟨(by first | (rw [if_pos c_8, ex_9]; done) | (rw [if_pos c_8, ex_9]; rfl) | (simp only [if_pos c_8, ex_9]; done)), hP, hS, lv_sub hl [2, 1, 0] rfl⟩
      · refine lv_aload_n hx hb dX5_chanceOf_15 rfl (lv_at hl 0 rfl) ?_
        refine va_get (D := D) (ci := 5) (v := .ref h2) (C := RX5) (T := TX5) (N := 4) hx hb hts inX5 hown hK hP 0 rfl rfl 1 (by decide) (hts _ tw_150) (fun _ h9 => h9) rfl dX5_chanceOf_16 ?_
        refine lv_iload_n hx hb dX5_chanceOf_19 rfl (lv_at hl 1 rfl) ?_
        refine va_iald hx hb hK hP 2 1 rfl rfl (vp_in_nI (by omega) (by decide)) dX5_chanceOf_20 ?_
        refine lv_ti (y := (ff i)) (by rw [nI_clamp (by omega)]) ?_
        refine lv_aload_n hx hb dX5_chanceOf_21 rfl (lv_at hl 0 rfl) ?_
        refine va_get (D := D) (ci := 5) (v := .ref h1) (C := RX5) (T := TX5) (N := 4) hx hb hts inX5 hown hK hP 0 rfl rfl 0 (by decide) (hts _ tw_146) (fun _ h9 => h9) rfl dX5_chanceOf_22 ?_
        refine lv_iconst (v := 1) hx hb dX5_chanceOf_25 (by decide) ?_
        refine va_iald hx hb hK hP 1 1 rfl rfl (by unfold vp_in; decide) dX5_chanceOf_26 ?_
        refine lv_ti (y := (g 1)) (by rfl) ?_
        refine lv_iadd hx hb dX5_chanceOf_27 ?_
        refine lv_topi (fun x_10 ex_10 => ?_)
        refine lv_goto (tgt := 44) hx hb dX5_chanceOf_28 (by decide) ?_
        exact J_5 x_10 _ _ _ ⟨(by first | (rw [if_neg c_8, ex_10]; done) | (rw [if_neg c_8, ex_10]; rfl) | (simp only [if_neg c_8, ex_10]; done)), hP, hS, lv_sub hl [2, 1, 0] rfl⟩
  · have c_1 := (nI_eq (a := i) (b := 0) (by omega) (by omega)).mp c_1
    refine lv_aload_n hx hb dX5_chanceOf_4 rfl (lv_at hl 0 rfl) ?_
    refine va_get (D := D) (ci := 5) (v := .ref h2) (C := RX5) (T := TX5) (N := 4) hx hb hts inX5 hown hK hP 0 rfl rfl 1 (by decide) (hts _ tw_150) (fun _ h9 => h9) rfl dX5_chanceOf_5 ?_
    refine lv_iload_n hx hb dX5_chanceOf_8 rfl (lv_at hl 1 rfl) ?_
    refine va_iald hx hb hK hP 2 1 rfl rfl (vp_in_nI (by omega) (by decide)) dX5_chanceOf_9 ?_
    refine lv_ti (y := (ff i)) (by rw [nI_clamp (by omega)]) ?_
    exact W.iret (v := (ff i)) hx hb hr (fun t ht hW => ⟨⟨(ff i), (), rfl, (by show _ = fX_chance g ff i p1; unfold fX_chance; first | (rw [if_pos c_1]; done) | (rw [if_pos c_1]; rfl) | (simp only [if_pos c_1]; done)), trivial⟩, hS.F ht⟩) hS.2.2 dX5_chanceOf_10


def fX_isLate (n : Nat) (g : Nat → Int32) (rn : Nat) : Bool := (if (fX_arrival n g rn) ≤ (g 5) then false else true)
set_option maxHeartbeats 4000000 in
set_option maxRecDepth 100000 in
theorem y_isLateIn (l : Launch) (D : va_G) (k : Nat → ClassId) (st : Nat → Nat) (lo : Nat) (h0 : Nat) (h1 : Nat) (h2 : Nat) (h3 : Nat) (h4 : Nat) (n : Nat) (see : Nat) (tm : Nat) (g : Nat → Int32) (rn : Nat)  : CRi l D k st lo yX5_isLateIn cX5_isLateIn 2 (some .boolean) ({ frames := 1, cells := 0, slots := 0, locals := 21 }) [.ref h0, .int (nI rn)] [(h0, .inr (5, (fX5 h1 h2 h3 h4))), (aI k h1 10 (vv n see tm g))] (fun r => r = (if fX_isLate n g rn = true then 1 else 0)) := by
  intro sz
  refine Met.ofW (cc := cX5_isLateIn) (maxL := 2) (ret := (some .boolean)) (by decide) rfl ?_
  intro p e s m args below meth c s₁ B hml hv
  obtain ⟨rfl, hsz, hlo, hP, hK, hDL, hZ⟩ := hv
  have hx := B.exec
  have hb := B.bytes
  have hr := B.returns
  have hts := WS_ts B.pre
  have hown : s.vm.findClass RX5 = some m.cls := findClass_of_methodNamed B.named
  have hlocks := B.notSynchronized
  subst hsz
  have hA : ∀ q : Nat, s.heap.size ≤ q → (fun q : Nat => s.heap.size ≤ q) q := fun _ h => h
  have hAlo : ∀ q : Nat, (fun q : Nat => s.heap.size ≤ q) q → lo ≤ q := fun q h => Nat.le_trans hlo h
  have hS : va_S (fun q : Nat => s.heap.size ≤ q) s.heap s.heap [] := va_S.rf
  have hl := lv_entry ([.ref h0, .int (nI rn)]) (n := 2) (Nat.le_of_ble_eq_true rfl)
  rw [lg_entry_eq]
  generalize (lg_sl ([.ref h0, .int (nI rn)]) ++ List.replicate (2 - (lg_sl ([.ref h0, .int (nI rn)])).length) Slot.unset).toArray = ls at hl ⊢
  have hl : lv_has ls 2 [(0, .ref h0), (1, .int (nI rn))] := hl
  refine lv_aload_n hx hb dX5_isLateIn_0 rfl (lv_at hl 0 rfl) ?_
  refine lv_iload_n hx hb dX5_isLateIn_1 rfl (lv_at hl 1 rfl) ?_
  refine ro_i (D := D) (va_runV (As := [.int (nI rn)]) (rest := []) ⟨hx, hb, hml, hown, hts⟩ ((y_arrivalOf l D k st lo h0 h1 h2 h3 h4 n see tm g rn) s.heap.size) (cwV 1 hts (gV tw_505 tw_507 tw_3 tw_81 tw_508) rfl rfl rfl (by decide +kernel) ⟨Nat.le_of_ble_eq_true rfl, Nat.le_of_ble_eq_true rfl⟩) (pV hS hAlo hlo hP hK hDL hZ [0, 1] (by decide) rfl (ci := 5) (q := (RX5, TX5, 4)) (q0 := 0) rfl rfl) rfl rfl hl.1 rfl (lv_room (Nat.le_of_ble_eq_true rfl)) dX5_isLateIn_2 ⟨Nat.le_of_ble_eq_true rfl, Nat.le_of_ble_eq_true rfl⟩) hS hA hP (fun r_1 H locs hw_1 hP hS => ?_)
  try dsimp only at hw_1
  refine lv_aload_n hx hb dX5_isLateIn_5 rfl (lv_at hl 0 rfl) ?_
  refine va_get (D := D) (ci := 5) (v := .ref h1) (C := RX5) (T := TX5) (N := 4) hx hb hts inX5 hown hK hP 0 rfl rfl 0 (by decide) (hts _ tw_146) (fun _ h9 => h9) rfl dX5_isLateIn_6 ?_
  refine lv_iconst (v := 5) hx hb dX5_isLateIn_9 (by decide) ?_
  refine va_iald hx hb hK hP 1 1 rfl rfl (by unfold vp_in; decide) dX5_isLateIn_10 ?_
  refine lv_ti (y := (g 5)) (by rfl) ?_
  refine lv_icmp_le (tgt := 18) hx hb dX5_isLateIn_11 (by decide) (fun c_2 => ?_) (fun c_2 => ?_)
  · rw [hw_1] at c_2
    refine lv_iconst (v := 0) hx hb dX5_isLateIn_18 (by decide) ?_
    exact W.zret (v := 0) (ty := .boolean) hx hb hr rfl (fun t ht hW => ⟨⟨0, (), rfl, (by rw [if_neg (show ¬ fX_isLate n g rn = true from (by unfold fX_isLate; first | (rw [if_pos c_2]; done) | (rw [if_pos c_2]; decide)))]), trivial⟩, hS.F ht⟩) hS.2.2 dX5_isLateIn_19
  · rw [hw_1] at c_2
    refine lv_iconst (v := 1) hx hb dX5_isLateIn_14 (by decide) ?_
    refine lv_goto (tgt := 19) hx hb dX5_isLateIn_15 (by decide) ?_
    exact W.zret (v := 1) (ty := .boolean) hx hb hr rfl (fun t ht hW => ⟨⟨1, (), rfl, (by rw [if_pos (show fX_isLate n g rn = true from (by unfold fX_isLate; first | (rw [if_neg c_2]; done) | (rw [if_neg c_2]; decide)))]), trivial⟩, hS.F ht⟩) hS.2.2 dX5_isLateIn_19


def fX_takingBy (n : Nat) (fp : Nat → Int32) (fl : Nat → Int32) (p0 : Int32) (rn : Nat) (i : Nat) : Int32 := ((((fp i) + (p0 * ((nI n) - (nI i)))) + (fl rn)) * 1000)
set_option maxHeartbeats 4000000 in
set_option maxRecDepth 100000 in
theorem y_takingBy (l : Launch) (D : va_G) (k : Nat → ClassId) (st : Nat → Nat) (lo : Nat) (h0 : Nat) (h1 : Nat) (h2 : Nat) (h3 : Nat) (h4 : Nat) (n : Nat) (see : Nat) (tm : Nat) (g : Nat → Int32) (fp : Nat → Int32) (fl : Nat → Int32) (p0 : Int32) (rn : Nat) (i : Nat) (hrn : rn ≤ 3) (hi : i < 24) : CRi l D k st lo yX5_takingBy cX5_takingBy 4 (some .int) ({ frames := 0, cells := 0, slots := 0, locals := 0 }) [.ref h0, .int p0, .int (nI rn), .int (nI i)] [(h0, .inr (5, (fX5 h1 h2 h3 h4))), (aI k h1 10 (vv n see tm g)), (aI k h3 24 fp), (aI k h4 4 fl)] (fun r => r = fX_takingBy n fp fl p0 rn i) := by
  intro sz
  refine Met.ofW (cc := cX5_takingBy) (maxL := 4) (ret := (some .int)) (by decide) rfl ?_
  intro p e s m args below meth c s₁ B hml hv
  obtain ⟨rfl, hsz, hlo, hP, hK, hDL, hZ⟩ := hv
  have hx := B.exec
  have hb := B.bytes
  have hr := B.returns
  have hts := WS_ts B.pre
  have hown : s.vm.findClass RX5 = some m.cls := findClass_of_methodNamed B.named
  have hlocks := B.notSynchronized
  subst hsz
  have hA : ∀ q : Nat, s.heap.size ≤ q → (fun q : Nat => s.heap.size ≤ q) q := fun _ h => h
  have hAlo : ∀ q : Nat, (fun q : Nat => s.heap.size ≤ q) q → lo ≤ q := fun q h => Nat.le_trans hlo h
  have hS : va_S (fun q : Nat => s.heap.size ≤ q) s.heap s.heap [] := va_S.rf
  have hl := lv_entry ([.ref h0, .int p0, .int (nI rn), .int (nI i)]) (n := 4) (Nat.le_of_ble_eq_true rfl)
  rw [lg_entry_eq]
  generalize (lg_sl ([.ref h0, .int p0, .int (nI rn), .int (nI i)]) ++ List.replicate (4 - (lg_sl ([.ref h0, .int p0, .int (nI rn), .int (nI i)])).length) Slot.unset).toArray = ls at hl ⊢
  have hl : lv_has ls 4 [(0, .ref h0), (1, .int p0), (2, .int (nI rn)), (3, .int (nI i))] := hl
  refine lv_aload_n hx hb dX5_takingBy_0 rfl (lv_at hl 0 rfl) ?_
  refine va_get (D := D) (ci := 5) (v := .ref h3) (C := RX5) (T := TX5) (N := 4) hx hb hts inX5 hown hK hP 0 rfl rfl 2 (by decide) (hts _ tw_152) (fun _ h9 => h9) rfl dX5_takingBy_1 ?_
  refine lv_iload_n hx hb dX5_takingBy_4 rfl (lv_at hl 3 rfl) ?_
  refine va_iald hx hb hK hP 2 1 rfl rfl (vp_in_nI (by omega) (by decide)) dX5_takingBy_5 ?_
  refine lv_ti (y := (fp i)) (by rw [nI_clamp (by omega)]) ?_
  refine lv_iload_n hx hb dX5_takingBy_6 rfl (lv_at hl 1 rfl) ?_
  refine lv_aload_n hx hb dX5_takingBy_7 rfl (lv_at hl 0 rfl) ?_
  refine va_get (D := D) (ci := 5) (v := .ref h1) (C := RX5) (T := TX5) (N := 4) hx hb hts inX5 hown hK hP 0 rfl rfl 0 (by decide) (hts _ tw_146) (fun _ h9 => h9) rfl dX5_takingBy_8 ?_
  refine lv_iconst (v := 0) hx hb dX5_takingBy_11 (by decide) ?_
  refine va_iald hx hb hK hP 1 1 rfl rfl (by unfold vp_in; decide) dX5_takingBy_12 ?_
  refine lv_ti (y := (nI n)) (by rfl) ?_
  refine lv_iload_n hx hb dX5_takingBy_13 rfl (lv_at hl 3 rfl) ?_
  refine lv_isub hx hb dX5_takingBy_14 ?_
  refine lv_topi (fun x_1 ex_1 => ?_)
  refine lv_imul hx hb dX5_takingBy_15 ?_
  refine lv_topi (fun x_2 ex_2 => ?_)
  refine lv_iadd hx hb dX5_takingBy_16 ?_
  refine lv_topi (fun x_3 ex_3 => ?_)
  refine lv_aload_n hx hb dX5_takingBy_17 rfl (lv_at hl 0 rfl) ?_
  refine va_get (D := D) (ci := 5) (v := .ref h4) (C := RX5) (T := TX5) (N := 4) hx hb hts inX5 hown hK hP 0 rfl rfl 3 (by decide) (hts _ tw_154) (fun _ h9 => h9) rfl dX5_takingBy_18 ?_
  refine lv_iload_n hx hb dX5_takingBy_21 rfl (lv_at hl 2 rfl) ?_
  refine va_iald hx hb hK hP 3 1 rfl rfl (vp_in_nI (by omega) (by decide)) dX5_takingBy_22 ?_
  refine lv_ti (y := (fl rn)) (by rw [nI_clamp (by omega)]) ?_
  refine lv_iadd hx hb dX5_takingBy_23 ?_
  refine lv_topi (fun x_4 ex_4 => ?_)
  refine lv_sipush (v := 1000) hx hb dX5_takingBy_24 (by decide) ?_
  refine lv_imul hx hb dX5_takingBy_27 ?_
  refine lv_topi (fun x_5 ex_5 => ?_)
  exact W.iret (v := x_5) hx hb hr (fun t ht hW => ⟨⟨x_5, (), rfl, (by show _ = fX_takingBy n fp fl p0 rn i; unfold fX_takingBy; first | (rw [ex_5, ex_4, ex_3, ex_2, ex_1]; done) | (rw [ex_5, ex_4, ex_3, ex_2, ex_1]; rfl) | (simp only [ex_5, ex_4, ex_3, ex_2, ex_1]; done)), trivial⟩, hS.F ht⟩) hS.2.2 dX5_takingBy_28


def fX_taking (n : Nat) (g : Nat → Int32) (fp : Nat → Int32) (fl : Nat → Int32) (rn : Nat) (i : Nat) : Int32 := (fX_takingBy n fp fl (g 2) rn i)
set_option maxHeartbeats 4000000 in
set_option maxRecDepth 100000 in
theorem y_takingOf (l : Launch) (D : va_G) (k : Nat → ClassId) (st : Nat → Nat) (lo : Nat) (h0 : Nat) (h1 : Nat) (h2 : Nat) (h3 : Nat) (h4 : Nat) (n : Nat) (see : Nat) (tm : Nat) (g : Nat → Int32) (fp : Nat → Int32) (fl : Nat → Int32) (rn : Nat) (i : Nat) (hrn : rn ≤ 3) (hi : i < 24) : CRi l D k st lo yX5_takingOf cX5_takingOf 3 (some .int) ({ frames := 1, cells := 0, slots := 0, locals := 23 }) [.ref h0, .int (nI rn), .int (nI i)] [(h0, .inr (5, (fX5 h1 h2 h3 h4))), (aI k h1 10 (vv n see tm g)), (aI k h3 24 fp), (aI k h4 4 fl)] (fun r => r = fX_taking n g fp fl rn i) := by
  intro sz
  refine Met.ofW (cc := cX5_takingOf) (maxL := 3) (ret := (some .int)) (by decide) rfl ?_
  intro p e s m args below meth c s₁ B hml hv
  obtain ⟨rfl, hsz, hlo, hP, hK, hDL, hZ⟩ := hv
  have hx := B.exec
  have hb := B.bytes
  have hr := B.returns
  have hts := WS_ts B.pre
  have hown : s.vm.findClass RX5 = some m.cls := findClass_of_methodNamed B.named
  have hlocks := B.notSynchronized
  subst hsz
  have hA : ∀ q : Nat, s.heap.size ≤ q → (fun q : Nat => s.heap.size ≤ q) q := fun _ h => h
  have hAlo : ∀ q : Nat, (fun q : Nat => s.heap.size ≤ q) q → lo ≤ q := fun q h => Nat.le_trans hlo h
  have hS : va_S (fun q : Nat => s.heap.size ≤ q) s.heap s.heap [] := va_S.rf
  have hl := lv_entry ([.ref h0, .int (nI rn), .int (nI i)]) (n := 3) (Nat.le_of_ble_eq_true rfl)
  rw [lg_entry_eq]
  generalize (lg_sl ([.ref h0, .int (nI rn), .int (nI i)]) ++ List.replicate (3 - (lg_sl ([.ref h0, .int (nI rn), .int (nI i)])).length) Slot.unset).toArray = ls at hl ⊢
  have hl : lv_has ls 3 [(0, .ref h0), (1, .int (nI rn)), (2, .int (nI i))] := hl
  refine lv_aload_n hx hb dX5_takingOf_0 rfl (lv_at hl 0 rfl) ?_
  refine lv_aload_n hx hb dX5_takingOf_1 rfl (lv_at hl 0 rfl) ?_
  refine va_get (D := D) (ci := 5) (v := .ref h1) (C := RX5) (T := TX5) (N := 4) hx hb hts inX5 hown hK hP 0 rfl rfl 0 (by decide) (hts _ tw_146) (fun _ h9 => h9) rfl dX5_takingOf_2 ?_
  refine lv_iconst (v := 2) hx hb dX5_takingOf_5 (by decide) ?_
  refine va_iald hx hb hK hP 1 1 rfl rfl (by unfold vp_in; decide) dX5_takingOf_6 ?_
  refine lv_ti (y := (g 2)) (by rfl) ?_
  refine lv_iload_n hx hb dX5_takingOf_7 rfl (lv_at hl 1 rfl) ?_
  refine lv_iload_n hx hb dX5_takingOf_8 rfl (lv_at hl 2 rfl) ?_
  refine ro_i (D := D) (va_runV (As := [.int (g 2), .int (nI rn), .int (nI i)]) (rest := []) ⟨hx, hb, hml, hown, hts⟩ ((y_takingBy l D k st lo h0 h1 h2 h3 h4 n see tm g fp fl (g 2) rn i (by first | assumption | omega) (by first | assumption | omega)) s.heap.size) (cwV 3 hts (gV tw_560 tw_561 tw_562 tw_81 tw_563) rfl rfl rfl (by decide +kernel) ⟨Nat.le_of_ble_eq_true rfl, Nat.le_of_ble_eq_true rfl⟩) (pV hS hAlo hlo hP hK hDL hZ [0, 1, 2, 3] (by decide) rfl (ci := 5) (q := (RX5, TX5, 4)) (q0 := 0) rfl rfl) rfl rfl hl.1 rfl (lv_room (Nat.le_of_ble_eq_true rfl)) dX5_takingOf_9 ⟨Nat.le_of_ble_eq_true rfl, Nat.le_of_ble_eq_true rfl⟩) hS hA hP (fun r_1 H locs hw_1 hP hS => ?_)
  try dsimp only at hw_1
  exact W.iret (v := r_1) hx hb hr (fun t ht hW => ⟨⟨r_1, (), rfl, (by show _ = fX_taking n g fp fl rn i; unfold fX_taking; first | (rw [hw_1]; done) | (rw [hw_1]; rfl) | (simp only [hw_1]; done)), trivial⟩, hS.F ht⟩) hS.2.2 dX5_takingOf_12


def fX_garage (g : Nat → Int32) (fl : Nat → Int32) (rn : Nat) : Int32 := (((g 9) + (fl rn)) * 1000)
set_option maxHeartbeats 4000000 in
set_option maxRecDepth 100000 in
theorem y_garageOf (l : Launch) (D : va_G) (k : Nat → ClassId) (st : Nat → Nat) (lo : Nat) (h0 : Nat) (h1 : Nat) (h2 : Nat) (h3 : Nat) (h4 : Nat) (n : Nat) (see : Nat) (tm : Nat) (g : Nat → Int32) (fl : Nat → Int32) (rn : Nat) (hrn : rn ≤ 3) : CRi l D k st lo yX5_garageOf cX5_garageOf 2 (some .int) ({ frames := 0, cells := 0, slots := 0, locals := 0 }) [.ref h0, .int (nI rn)] [(h0, .inr (5, (fX5 h1 h2 h3 h4))), (aI k h1 10 (vv n see tm g)), (aI k h4 4 fl)] (fun r => r = fX_garage g fl rn) := by
  intro sz
  refine Met.ofW (cc := cX5_garageOf) (maxL := 2) (ret := (some .int)) (by decide) rfl ?_
  intro p e s m args below meth c s₁ B hml hv
  obtain ⟨rfl, hsz, hlo, hP, hK, hDL, hZ⟩ := hv
  have hx := B.exec
  have hb := B.bytes
  have hr := B.returns
  have hts := WS_ts B.pre
  have hown : s.vm.findClass RX5 = some m.cls := findClass_of_methodNamed B.named
  have hlocks := B.notSynchronized
  subst hsz
  have hA : ∀ q : Nat, s.heap.size ≤ q → (fun q : Nat => s.heap.size ≤ q) q := fun _ h => h
  have hAlo : ∀ q : Nat, (fun q : Nat => s.heap.size ≤ q) q → lo ≤ q := fun q h => Nat.le_trans hlo h
  have hS : va_S (fun q : Nat => s.heap.size ≤ q) s.heap s.heap [] := va_S.rf
  have hl := lv_entry ([.ref h0, .int (nI rn)]) (n := 2) (Nat.le_of_ble_eq_true rfl)
  rw [lg_entry_eq]
  generalize (lg_sl ([.ref h0, .int (nI rn)]) ++ List.replicate (2 - (lg_sl ([.ref h0, .int (nI rn)])).length) Slot.unset).toArray = ls at hl ⊢
  have hl : lv_has ls 2 [(0, .ref h0), (1, .int (nI rn))] := hl
  refine lv_aload_n hx hb dX5_garageOf_0 rfl (lv_at hl 0 rfl) ?_
  refine va_get (D := D) (ci := 5) (v := .ref h1) (C := RX5) (T := TX5) (N := 4) hx hb hts inX5 hown hK hP 0 rfl rfl 0 (by decide) (hts _ tw_146) (fun _ h9 => h9) rfl dX5_garageOf_1 ?_
  refine lv_bipush (v := 9) hx hb dX5_garageOf_4 (by decide) ?_
  refine va_iald hx hb hK hP 1 1 rfl rfl (by unfold vp_in; decide) dX5_garageOf_6 ?_
  refine lv_ti (y := (g 9)) (by rfl) ?_
  refine lv_aload_n hx hb dX5_garageOf_7 rfl (lv_at hl 0 rfl) ?_
  refine va_get (D := D) (ci := 5) (v := .ref h4) (C := RX5) (T := TX5) (N := 4) hx hb hts inX5 hown hK hP 0 rfl rfl 3 (by decide) (hts _ tw_154) (fun _ h9 => h9) rfl dX5_garageOf_8 ?_
  refine lv_iload_n hx hb dX5_garageOf_11 rfl (lv_at hl 1 rfl) ?_
  refine va_iald hx hb hK hP 2 1 rfl rfl (vp_in_nI (by omega) (by decide)) dX5_garageOf_12 ?_
  refine lv_ti (y := (fl rn)) (by rw [nI_clamp (by omega)]) ?_
  refine lv_iadd hx hb dX5_garageOf_13 ?_
  refine lv_topi (fun x_1 ex_1 => ?_)
  refine lv_sipush (v := 1000) hx hb dX5_garageOf_14 (by decide) ?_
  refine lv_imul hx hb dX5_garageOf_17 ?_
  refine lv_topi (fun x_2 ex_2 => ?_)
  exact W.iret (v := x_2) hx hb hr (fun t ht hW => ⟨⟨x_2, (), rfl, (by show _ = fX_garage g fl rn; unfold fX_garage; first | (rw [ex_2, ex_1]; done) | (rw [ex_2, ex_1]; rfl) | (simp only [ex_2, ex_1]; done)), trivial⟩, hS.F ht⟩) hS.2.2 dX5_garageOf_18


def fX_passing (g : Nat → Int32) : Int32 := ((g 3) * 1000)
set_option maxHeartbeats 4000000 in
set_option maxRecDepth 100000 in
theorem y_passing (l : Launch) (D : va_G) (k : Nat → ClassId) (st : Nat → Nat) (lo : Nat) (h0 : Nat) (h1 : Nat) (h2 : Nat) (h3 : Nat) (h4 : Nat) (n : Nat) (see : Nat) (tm : Nat) (g : Nat → Int32)  : CRi l D k st lo yX5_passing cX5_passing 1 (some .int) ({ frames := 0, cells := 0, slots := 0, locals := 0 }) [.ref h0] [(h0, .inr (5, (fX5 h1 h2 h3 h4))), (aI k h1 10 (vv n see tm g))] (fun r => r = fX_passing g) := by
  intro sz
  refine Met.ofW (cc := cX5_passing) (maxL := 1) (ret := (some .int)) (by decide) rfl ?_
  intro p e s m args below meth c s₁ B hml hv
  obtain ⟨rfl, hsz, hlo, hP, hK, hDL, hZ⟩ := hv
  have hx := B.exec
  have hb := B.bytes
  have hr := B.returns
  have hts := WS_ts B.pre
  have hown : s.vm.findClass RX5 = some m.cls := findClass_of_methodNamed B.named
  have hlocks := B.notSynchronized
  subst hsz
  have hA : ∀ q : Nat, s.heap.size ≤ q → (fun q : Nat => s.heap.size ≤ q) q := fun _ h => h
  have hAlo : ∀ q : Nat, (fun q : Nat => s.heap.size ≤ q) q → lo ≤ q := fun q h => Nat.le_trans hlo h
  have hS : va_S (fun q : Nat => s.heap.size ≤ q) s.heap s.heap [] := va_S.rf
  have hl := lv_entry ([.ref h0]) (n := 1) (Nat.le_of_ble_eq_true rfl)
  rw [lg_entry_eq]
  generalize (lg_sl ([.ref h0]) ++ List.replicate (1 - (lg_sl ([.ref h0])).length) Slot.unset).toArray = ls at hl ⊢
  have hl : lv_has ls 1 [(0, .ref h0)] := hl
  refine lv_aload_n hx hb dX5_passing_0 rfl (lv_at hl 0 rfl) ?_
  refine va_get (D := D) (ci := 5) (v := .ref h1) (C := RX5) (T := TX5) (N := 4) hx hb hts inX5 hown hK hP 0 rfl rfl 0 (by decide) (hts _ tw_146) (fun _ h9 => h9) rfl dX5_passing_1 ?_
  refine lv_iconst (v := 3) hx hb dX5_passing_4 (by decide) ?_
  refine va_iald hx hb hK hP 1 1 rfl rfl (by unfold vp_in; decide) dX5_passing_5 ?_
  refine lv_ti (y := (g 3)) (by rfl) ?_
  refine lv_sipush (v := 1000) hx hb dX5_passing_6 (by decide) ?_
  refine lv_imul hx hb dX5_passing_9 ?_
  refine lv_topi (fun x_1 ex_1 => ?_)
  exact W.iret (v := x_1) hx hb hr (fun t ht hW => ⟨⟨x_1, (), rfl, (by show _ = fX_passing g; unfold fX_passing; first | (rw [ex_1]; done) | (rw [ex_1]; rfl) | (simp only [ex_1]; done)), trivial⟩, hS.F ht⟩) hS.2.2 dX5_passing_10


def fX_round (g : Nat → Int32) : Int32 := (((g 3) * (g 7)) * 1000)
set_option maxHeartbeats 4000000 in
set_option maxRecDepth 100000 in
theorem y_roundDrive (l : Launch) (D : va_G) (k : Nat → ClassId) (st : Nat → Nat) (lo : Nat) (h0 : Nat) (h1 : Nat) (h2 : Nat) (h3 : Nat) (h4 : Nat) (n : Nat) (see : Nat) (tm : Nat) (g : Nat → Int32)  : CRi l D k st lo yX5_roundDrive cX5_roundDrive 1 (some .int) ({ frames := 0, cells := 0, slots := 0, locals := 0 }) [.ref h0] [(h0, .inr (5, (fX5 h1 h2 h3 h4))), (aI k h1 10 (vv n see tm g))] (fun r => r = fX_round g) := by
  intro sz
  refine Met.ofW (cc := cX5_roundDrive) (maxL := 1) (ret := (some .int)) (by decide) rfl ?_
  intro p e s m args below meth c s₁ B hml hv
  obtain ⟨rfl, hsz, hlo, hP, hK, hDL, hZ⟩ := hv
  have hx := B.exec
  have hb := B.bytes
  have hr := B.returns
  have hts := WS_ts B.pre
  have hown : s.vm.findClass RX5 = some m.cls := findClass_of_methodNamed B.named
  have hlocks := B.notSynchronized
  subst hsz
  have hA : ∀ q : Nat, s.heap.size ≤ q → (fun q : Nat => s.heap.size ≤ q) q := fun _ h => h
  have hAlo : ∀ q : Nat, (fun q : Nat => s.heap.size ≤ q) q → lo ≤ q := fun q h => Nat.le_trans hlo h
  have hS : va_S (fun q : Nat => s.heap.size ≤ q) s.heap s.heap [] := va_S.rf
  have hl := lv_entry ([.ref h0]) (n := 1) (Nat.le_of_ble_eq_true rfl)
  rw [lg_entry_eq]
  generalize (lg_sl ([.ref h0]) ++ List.replicate (1 - (lg_sl ([.ref h0])).length) Slot.unset).toArray = ls at hl ⊢
  have hl : lv_has ls 1 [(0, .ref h0)] := hl
  refine lv_aload_n hx hb dX5_roundDrive_0 rfl (lv_at hl 0 rfl) ?_
  refine va_get (D := D) (ci := 5) (v := .ref h1) (C := RX5) (T := TX5) (N := 4) hx hb hts inX5 hown hK hP 0 rfl rfl 0 (by decide) (hts _ tw_146) (fun _ h9 => h9) rfl dX5_roundDrive_1 ?_
  refine lv_iconst (v := 3) hx hb dX5_roundDrive_4 (by decide) ?_
  refine va_iald hx hb hK hP 1 1 rfl rfl (by unfold vp_in; decide) dX5_roundDrive_5 ?_
  refine lv_ti (y := (g 3)) (by rfl) ?_
  refine lv_aload_n hx hb dX5_roundDrive_6 rfl (lv_at hl 0 rfl) ?_
  refine va_get (D := D) (ci := 5) (v := .ref h1) (C := RX5) (T := TX5) (N := 4) hx hb hts inX5 hown hK hP 0 rfl rfl 0 (by decide) (hts _ tw_146) (fun _ h9 => h9) rfl dX5_roundDrive_7 ?_
  refine lv_bipush (v := 7) hx hb dX5_roundDrive_10 (by decide) ?_
  refine va_iald hx hb hK hP 1 1 rfl rfl (by unfold vp_in; decide) dX5_roundDrive_12 ?_
  refine lv_ti (y := (g 7)) (by rfl) ?_
  refine lv_imul hx hb dX5_roundDrive_13 ?_
  refine lv_topi (fun x_1 ex_1 => ?_)
  refine lv_sipush (v := 1000) hx hb dX5_roundDrive_14 (by decide) ?_
  refine lv_imul hx hb dX5_roundDrive_17 ?_
  refine lv_topi (fun x_2 ex_2 => ?_)
  exact W.iret (v := x_2) hx hb hr (fun t ht hW => ⟨⟨x_2, (), rfl, (by show _ = fX_round g; unfold fX_round; first | (rw [ex_2, ex_1]; done) | (rw [ex_2, ex_1]; rfl) | (simp only [ex_2, ex_1]; done)), trivial⟩, hS.F ht⟩) hS.2.2 dX5_roundDrive_18

theorem f_glueP1 : True := trivial
/-! what a text tells: runs of bytes of one kind, words, numbers -/
def blB (c : Int32) : Bool := decide (c = 32)
def letB (c : Int32) : Bool := decide (97 ≤ c) && decide (c ≤ 122)
def figB (c : Int32) : Bool := decide (48 ≤ c) && decide (c ≤ 57)
theorem blB_t {c : Int32} : blB c = true ↔ c = 32 := by
  unfold blB
  simp only [decide_eq_true_eq]
theorem blB_f {c : Int32} (h : ¬ c = 32) : blB c = false := by
  unfold blB
  simp only [decide_eq_false_iff_not]
  exact h
theorem letB_t {c : Int32} : letB c = true ↔ inB c 97 122 := by
  unfold letB inB
  simp only [Bool.and_eq_true, decide_eq_true_eq]
theorem letB_f {c : Int32} (h : ¬ inB c 97 122) : letB c = false := by
  rcases hq : letB c with _ | _
  · rfl
  · exact absurd (letB_t.mp hq) h
theorem figB_t {c : Int32} : figB c = true ↔ inB c 48 57 := by
  unfold figB inB
  simp only [Bool.and_eq_true, decide_eq_true_eq]
theorem figB_f {c : Int32} (h : ¬ inB c 48 57) : figB c = false := by
  rcases hq : figB c with _ | _
  · rfl
  · exact absurd (figB_t.mp hq) h
def runF (q : Int32 → Bool) (b : Nat → Int32) : Nat → Nat → List Int32
  | 0, _ => []
  | k + 1, t => if q (b t) = true then b t :: runF q b k (t + 1) else []
/-- the run of bytes of one kind that begins at t -/
def runA (q : Int32 → Bool) (b : Nat → Int32) (n t : Nat) : List Int32 := runF q b (n - t) t
theorem runA_go {q : Int32 → Bool} {b : Nat → Int32} {n t : Nat} (h : t < n) (hq : q (b t) = true) : runA q b n t = b t :: runA q b n (t + 1) := by
  unfold runA
  rw [show n - t = (n - (t + 1)) + 1 by omega]
  show (if q (b t) = true then b t :: runF q b (n - (t + 1)) (t + 1) else []) = _
  rw [if_pos hq]
theorem runA_no {q : Int32 → Bool} {b : Nat → Int32} {n t : Nat} (hq : q (b t) = false) : runA q b n t = [] := by
  unfold runA
  rcases n - t with _ | k
  · rfl
  · show (if q (b t) = true then b t :: runF q b k (t + 1) else []) = _
    rw [if_neg (by rw [hq]; decide)]
theorem runA_end {q : Int32 → Bool} {b : Nat → Int32} {n t : Nat} (h : n ≤ t) : runA q b n t = [] := by
  unfold runA
  rw [show n - t = 0 by omega]
  rfl
theorem runF_len (q : Int32 → Bool) (b : Nat → Int32) : ∀ k t, (runF q b k t).length ≤ k := by
  intro k
  induction k with
  | zero => intro t; exact Nat.le_refl 0
  | succ k ih =>
    intro t
    show (if q (b t) = true then b t :: runF q b k (t + 1) else []).length ≤ k + 1
    split
    · exact Nat.succ_le_succ (ih (t + 1))
    · exact Nat.zero_le _
theorem runA_len {q : Int32 → Bool} {b : Nat → Int32} {n t : Nat} (h : t ≤ n) : t + (runA q b n t).length ≤ n := by
  have h2 := runF_len q b (n - t) t
  unfold runA
  omega
theorem runF_all (q : Int32 → Bool) (b : Nat → Int32) : ∀ k t, ∀ c ∈ runF q b k t, q c = true := by
  intro k
  induction k with
  | zero => intro t c hc; exact absurd hc (List.not_mem_nil)
  | succ k ih =>
    intro t c hc
    have hc2 : c ∈ (if q (b t) = true then b t :: runF q b k (t + 1) else []) := hc
    split at hc2
    · rename_i hq
      rcases List.mem_cons.mp hc2 with rfl | h
      · exact hq
      · exact ih (t + 1) c h
    · exact absurd hc2 (List.not_mem_nil)
theorem runA_all {q : Int32 → Bool} {b : Nat → Int32} {n t : Nat} : ∀ c ∈ runA q b n t, q c = true := runF_all q b (n - t) t
/-- behind the blanks -/
def skA (b : Nat → Int32) (n t : Nat) : Nat := t + (runA blB b n t).length
theorem skA_go {b : Nat → Int32} {n t : Nat} (h : t < n) (hq : b t = 32) : skA b n (t + 1) = skA b n t := by
  unfold skA
  rw [runA_go h (blB_t.mpr hq), List.length_cons]
  omega
theorem skA_no {b : Nat → Int32} {n t : Nat} (hq : ¬ b t = 32) : skA b n t = t := by
  unfold skA
  rw [runA_no (blB_f hq)]
  rfl
theorem skA_end {b : Nat → Int32} {n t : Nat} (h : n ≤ t) : skA b n t = t := by
  unfold skA
  rw [runA_end h]
  rfl
theorem skA_ge (b : Nat → Int32) (n t : Nat) : t ≤ skA b n t := by
  unfold skA
  omega
theorem skA_le {b : Nat → Int32} {n t : Nat} (h : t ≤ n) : skA b n t ≤ n := runA_len h
theorem runA_stop {q : Int32 → Bool} {b : Nat → Int32} {n : Nat} : ∀ k t, n - t = k → t + (runA q b n t).length < n → q (b (t + (runA q b n t).length)) = false := by
  intro k
  induction k with
  | zero => intro t hk h; omega
  | succ k ih =>
    intro t hk h
    rcases hq : q (b t) with _ | _
    · rw [runA_no hq]
      exact hq
    · rw [runA_go (by omega) hq, List.length_cons] at h ⊢
      rw [show t + ((runA q b n (t + 1)).length + 1) = (t + 1) + (runA q b n (t + 1)).length by omega] at h ⊢
      exact ih (t + 1) (by omega) h
theorem skA_idem {b : Nat → Int32} {n t : Nat} : skA b n (skA b n t) = skA b n t := by
  rcases Nat.lt_or_ge (skA b n t) n with h | h
  · have h2 : blB (b (skA b n t)) = false := runA_stop _ t rfl h
    exact skA_no (fun e => absurd (blB_t.mpr e) (by rw [h2]; decide))
  · exact skA_end h
/-- the byte at t, or NONE -/
def byF (b : Nat → Int32) (n t : Nat) : Int32 := if t < n then b t else -1
theorem byF_in {b : Nat → Int32} {n t : Nat} (h : t < n) : byF b n t = b t := if_pos h
theorem byF_out {b : Nat → Int32} {n t : Nat} (h : ¬ t < n) : byF b n t = -1 := if_neg h
/-- the letters that begin at t -/
def letA (b : Nat → Int32) (n t : Nat) : List Int32 := runA letB b n t
/-- the word's bytes stand there, and no letter behind them -/
theorem letA_nil {b : Nat → Int32} {n t : Nat} : letA b n t = [] ↔ ¬ inB (byF b n t) 97 122 := by
  unfold letA
  rcases Nat.lt_or_ge t n with h | h
  · rw [byF_in h]
    rcases hq : letB (b t) with _ | _
    · rw [runA_no hq]
      exact ⟨fun _ hc => absurd (letB_t.mpr hc) (by rw [hq]; decide), fun _ => rfl⟩
    · rw [runA_go h hq]
      exact ⟨fun hc => absurd hc (List.cons_ne_nil _ _), fun hc => absurd (letB_t.mp hq) hc⟩
  · rw [byF_out (by omega), runA_end h]
    exact ⟨fun _ => by unfold inB; decide, fun _ => rfl⟩
theorem letA_cons {b : Nat → Int32} {n t : Nat} {k : Int32} {K : List Int32} (hk : inB k 97 122) : letA b n t = k :: K ↔ byF b n t = k ∧ letA b n (t + 1) = K := by
  unfold letA
  rcases Nat.lt_or_ge t n with h | h
  · rw [byF_in h]
    rcases hq : letB (b t) with _ | _
    · rw [runA_no hq]
      exact ⟨fun hc => absurd hc.symm (List.cons_ne_nil _ _), fun hc => absurd (letB_t.mpr hk) (by rw [← hc.1, hq]; decide)⟩
    · rw [runA_go h hq, List.cons.injEq]
  · rw [byF_out (by omega), runA_end h]
    exact ⟨fun hc => absurd hc.symm (List.cons_ne_nil _ _), fun hc => absurd hk (by rw [← hc.1]; unfold inB; decide)⟩
/-- the same, byte by byte from place j of the word on -/
theorem letA_drop {b : Nat → Int32} {n t : Nat} {K : List Int32} (hK : ∀ c ∈ K, inB c 97 122) : ∀ j, j < K.length → (letA b n (t + j) = K.drop j ↔ byF b n (t + j) = K.getD j 0 ∧ letA b n (t + (j + 1)) = K.drop (j + 1)) := by
  intro j hj
  rw [List.drop_eq_getElem_cons hj, letA_cons (hK _ (List.getElem_mem hj))]
  have e : K.getD j 0 = K[j] := by simp [List.getD_eq_getElem?_getD, List.getElem?_eq_getElem hj]
  rw [e]
  exact Iff.rfl
theorem letA_last {b : Nat → Int32} {n t : Nat} {K : List Int32} : letA b n (t + K.length) = K.drop K.length ↔ ¬ inB (byF b n (t + K.length)) 97 122 := by
  rw [List.drop_length]
  exact letA_nil
/-! a word as a number -/
def stW (w : Int64) (c : Int32) : Int64 := if 1000000000000 < w then 2000000000000 else ((27 : Int32).toInt64) * w + c.toInt64 - ((96 : Int32).toInt64)
def wval (L : List Int32) : Int64 := L.foldl stW ((0 : Int32).toInt64)
def gN (L : List Int32) : Int := L.foldr (fun c w => if 1000000000000 < w then 2000000000000 else 27 * w + c.toInt - 96) 0
theorem gN_pos : ∀ L : List Int32, (∀ c ∈ L, inB c 97 122) → 0 ≤ gN L ∧ gN L ≤ 28000000000000 ∧ (L ≠ [] → 1 ≤ gN L) := by
  intro L
  induction L with
  | nil => intro _; exact ⟨by decide, by decide, fun h => absurd rfl h⟩
  | cons c L ih =>
    intro h
    obtain ⟨h1, h2, -⟩ := ih (fun x hx => h x (List.mem_cons_of_mem _ hx))
    have hc := h c List.mem_cons_self
    unfold inB at hc
    rw [Int32.le_iff_toInt_le, Int32.le_iff_toInt_le] at hc
    have e1 : (97 : Int32).toInt = 97 := by decide
    have e2 : (122 : Int32).toInt = 122 := by decide
    rw [e1, e2] at hc
    show 0 ≤ (if 1000000000000 < gN L then 2000000000000 else 27 * gN L + c.toInt - 96) ∧ (if 1000000000000 < gN L then 2000000000000 else 27 * gN L + c.toInt - 96) ≤ 28000000000000 ∧ (_ → 1 ≤ (if 1000000000000 < gN L then 2000000000000 else 27 * gN L + c.toInt - 96))
    split
    · exact ⟨by omega, by omega, fun _ => by omega⟩
    · exact ⟨by omega, by omega, fun _ => by omega⟩
theorem gN_inj : ∀ K L : List Int32, (∀ c ∈ K, inB c 97 122) → (∀ c ∈ L, inB c 97 122) → gN K < 100000000000 → gN L = gN K → L = K := by
  intro K
  induction K with
  | nil =>
    intro L hK hL _ h
    rcases L with _ | ⟨d, L⟩
    · rfl
    · have h2 := (gN_pos (d :: L) hL).2.2 (List.cons_ne_nil _ _)
      rw [h] at h2
      exact absurd h2 (by decide)
  | cons k K ih =>
    intro L hK hL hs h
    rcases L with _ | ⟨d, L⟩
    · have h2 := (gN_pos (k :: K) hK).2.2 (List.cons_ne_nil _ _)
      rw [← h] at h2
      exact absurd h2 (by decide)
    · have hk := hK k List.mem_cons_self
      have hd := hL d List.mem_cons_self
      have hK2 : ∀ c ∈ K, inB c 97 122 := fun c hc => hK c (List.mem_cons_of_mem _ hc)
      have hL2 : ∀ c ∈ L, inB c 97 122 := fun c hc => hL c (List.mem_cons_of_mem _ hc)
      have p1 := gN_pos K hK2
      have p2 := gN_pos L hL2
      unfold inB at hk hd
      rw [Int32.le_iff_toInt_le, Int32.le_iff_toInt_le] at hk hd
      have e1 : (97 : Int32).toInt = 97 := by decide
      have e2 : (122 : Int32).toInt = 122 := by decide
      rw [e1, e2] at hk hd
      have hs2 : (if 1000000000000 < gN K then 2000000000000 else 27 * gN K + k.toInt - 96) < 100000000000 := hs
      have h2 : (if 1000000000000 < gN L then 2000000000000 else 27 * gN L + d.toInt - 96) = (if 1000000000000 < gN K then 2000000000000 else 27 * gN K + k.toInt - 96) := h
      have c1 : ¬ 1000000000000 < gN K := fun hc => by rw [if_pos hc] at hs2; omega
      rw [if_neg c1] at hs2 h2
      have c2 : ¬ 1000000000000 < gN L := fun hc => by rw [if_pos hc] at h2; omega
      rw [if_neg c2] at h2
      have hdk : d = k := Int32.toInt_inj.mp (by omega)
      rw [hdk, ih L hK2 hL2 (by omega) (by omega)]
theorem stW_toInt {w : Int64} {c : Int32} (h0 : 0 ≤ w.toInt) (h1 : w.toInt ≤ 28000000000000) (hc : inB c 97 122) : (stW w c).toInt = if 1000000000000 < w.toInt then 2000000000000 else 27 * w.toInt + c.toInt - 96 := by
  unfold inB at hc
  rw [Int32.le_iff_toInt_le, Int32.le_iff_toInt_le] at hc
  have e1 : (97 : Int32).toInt = 97 := by decide
  have e2 : (122 : Int32).toInt = 122 := by decide
  rw [e1, e2] at hc
  have e3 : (1000000000000 : Int64).toInt = 1000000000000 := by decide
  have e4 : (2000000000000 : Int64).toInt = 2000000000000 := by decide
  have e5 : ((27 : Int32).toInt64).toInt = 27 := by decide
  have e6 : ((96 : Int32).toInt64).toInt = 96 := by decide
  have hb : ∀ z : Int, -4000000000000000 ≤ z → z ≤ 4000000000000000 → z.bmod (2 ^ 64) = z := fun z h2 h3 => Int.bmod_eq_of_le (by omega) (by omega)
  unfold stW
  by_cases h : 1000000000000 < w
  · have h2 := Int64.lt_iff_toInt_lt.mp h
    rw [e3] at h2
    rw [if_pos h, if_pos h2, e4]
  · have h2 : ¬ 1000000000000 < w.toInt := fun q => h (Int64.lt_iff_toInt_lt.mpr (by rw [e3]; exact q))
    rw [if_neg h, if_neg h2, Int64.toInt_sub, Int64.toInt_add, Int64.toInt_mul, e5, e6, Int32.toInt_toInt64, hb (27 * w.toInt) (by omega) (by omega), hb (27 * w.toInt + c.toInt) (by omega) (by omega), hb _ (by omega) (by omega)]
theorem wval_snoc (L : List Int32) (c : Int32) : wval (L ++ [c]) = stW (wval L) c := by
  unfold wval
  rw [List.foldl_append]
  rfl
theorem wval_g : ∀ R : List Int32, (∀ c ∈ R, inB c 97 122) → (wval R.reverse).toInt = gN R := by
  intro R
  induction R with
  | nil => intro _; decide
  | cons c R ih =>
    intro h
    have h2 : ∀ x ∈ R, inB x 97 122 := fun x hx => h x (List.mem_cons_of_mem _ hx)
    have p := gN_pos R h2
    have e := ih h2
    rw [List.reverse_cons, wval_snoc, stW_toInt (by rw [e]; exact p.1) (by rw [e]; exact p.2.1) (h c List.mem_cons_self), e]
    rfl
theorem wval_inj {K L : List Int32} (hK : ∀ c ∈ K, inB c 97 122) (hL : ∀ c ∈ L, inB c 97 122) (hs : (wval K).toInt < 100000000000) : wval L = wval K ↔ L = K := by
  refine ⟨fun h => ?_, fun h => by rw [h]⟩
  have hK2 : ∀ c ∈ K.reverse, inB c 97 122 := fun c hc => hK c (List.mem_reverse.mp hc)
  have hL2 : ∀ c ∈ L.reverse, inB c 97 122 := fun c hc => hL c (List.mem_reverse.mp hc)
  have g1 := wval_g K.reverse hK2
  have g2 := wval_g L.reverse hL2
  rw [List.reverse_reverse] at g1 g2
  have h3 := gN_inj K.reverse L.reverse hK2 hL2 (by rw [← g1]; exact hs) (by rw [← g1, ← g2, h])
  have h4 := congrArg List.reverse h3
  rw [List.reverse_reverse, List.reverse_reverse] at h4
  exact h4
theorem letA_all {b : Nat → Int32} {n t : Nat} : ∀ c ∈ letA b n t, inB c 97 122 := fun c hc => letB_t.mp (runA_all c hc)
/-! numbers -/
def stN (v c : Int32) : Int32 := if 10000 < v then v else 10 * v + c - 48
def vM (L : List Int32) : Int32 := L.foldl stN 0
def vXk : Nat → Int32 → List Int32 → Int32
  | _, v, [] => v
  | k, v, c :: L => vXk (k + 1) (if k < 3 then v * 10 + c - 48 else v) L
def vX (L : List Int32) : Int32 := vXk 0 0 L
theorem fig_step : ∀ a, a < 1000 → ∀ d, d < 10 → (10 : Int32) * nI a + nI (48 + d) - 48 = nI (10 * a + d) := by
  intro a _ d _
  show nI 10 * nI a + nI (48 + d) - nI 48 = _
  rw [pk_mul, nI_add, pk_sub (by omega)]
  congr 1
  omega
theorem fig_stepX : ∀ a, a < 1000 → ∀ d, d < 10 → nI a * (10 : Int32) + nI (48 + d) - 48 = nI (10 * a + d) := by
  intro a _ d _
  show nI a * nI 10 + nI (48 + d) - nI 48 = _
  rw [pk_mul, nI_add, pk_sub (by omega)]
  congr 1
  omega
theorem fig_of {c : Int32} (h : inB c 48 57) : ∃ d : Nat, d < 10 ∧ c = nI (48 + d) := by
  obtain ⟨j, h1, h2, rfl⟩ := inB_ofc (a := 48) (b := 57) (by omega) (by omega) h
  exact ⟨j - 48, by omega, by rw [show 48 + (j - 48) = j by omega]⟩
theorem stN_nI {a d : Nat} (ha : a < 1000) (hd : d < 10) : stN (nI a) (nI (48 + d)) = nI (10 * a + d) := by
  unfold stN
  rw [if_neg (fun h : (10000 : Int32) < nI a => absurd ((nI_ltI (a := 10000) (b := a) (by omega) (by omega)).mp h) (by omega)), fig_step a ha d hd]
/-- up to three figures: both ways of reading come to the same number -/
theorem v_same : ∀ L : List Int32, (∀ c ∈ L, inB c 48 57) → L.length ≤ 3 → ∃ m : Nat, m < 1000 ∧ vM L = nI m ∧ vX L = nI m := by
  intro L h hl
  have hz : (0 : Int32) = nI 0 := rfl
  rcases L with _ | ⟨c1, _ | ⟨c2, _ | ⟨c3, _ | ⟨c4, L⟩⟩⟩⟩
  · exact ⟨0, by omega, rfl, rfl⟩
  · obtain ⟨d1, h1, rfl⟩ := fig_of (h c1 (by simp))
    refine ⟨d1, by omega, ?_, ?_⟩
    · show stN 0 (nI (48 + d1)) = _
      rw [hz, stN_nI (by omega) h1]
      congr 1
      omega
    · show (0 : Int32) * 10 + nI (48 + d1) - 48 = _
      rw [hz, fig_stepX 0 (by omega) d1 h1]
      congr 1
      omega
  · obtain ⟨d1, h1, rfl⟩ := fig_of (h c1 (by simp))
    obtain ⟨d2, h2, rfl⟩ := fig_of (h c2 (by simp))
    refine ⟨10 * d1 + d2, by omega, ?_, ?_⟩
    · show stN (stN 0 (nI (48 + d1))) (nI (48 + d2)) = _
      rw [hz, stN_nI (by omega) h1, stN_nI (by omega) h2]
      congr 1
      omega
    · show ((0 : Int32) * 10 + nI (48 + d1) - 48) * 10 + nI (48 + d2) - 48 = _
      rw [hz, fig_stepX 0 (by omega) d1 h1, fig_stepX _ (by omega) d2 h2]
      congr 1
      omega
  · obtain ⟨d1, h1, rfl⟩ := fig_of (h c1 (by simp))
    obtain ⟨d2, h2, rfl⟩ := fig_of (h c2 (by simp))
    obtain ⟨d3, h3, rfl⟩ := fig_of (h c3 (by simp))
    refine ⟨100 * d1 + 10 * d2 + d3, by omega, ?_, ?_⟩
    · show stN (stN (stN 0 (nI (48 + d1))) (nI (48 + d2))) (nI (48 + d3)) = _
      rw [hz, stN_nI (by omega) h1, stN_nI (by omega) h2, stN_nI (by omega) h3]
      congr 1
      omega
    · show (((0 : Int32) * 10 + nI (48 + d1) - 48) * 10 + nI (48 + d2) - 48) * 10 + nI (48 + d3) - 48 = _
      rw [hz, fig_stepX 0 (by omega) d1 h1, fig_stepX _ (by omega) d2 h2, fig_stepX _ (by omega) d3 h3]
      congr 1
      omega
  · simp only [List.length_cons] at hl
    omega
def figA (b : Nat → Int32) (n t : Nat) : List Int32 := runA figB b n t
theorem figA_all {b : Nat → Int32} {n t : Nat} : ∀ c ∈ figA b n t, inB c 48 57 := fun c hc => figB_t.mp (runA_all c hc)
theorem figA_go {b : Nat → Int32} {n t : Nat} (h : t < n) (hq : inB (b t) 48 57) : figA b n t = b t :: figA b n (t + 1) := runA_go h (figB_t.mpr hq)
theorem figA_no {b : Nat → Int32} {n t : Nat} (hq : ¬ inB (b t) 48 57) : figA b n t = [] := runA_no (figB_f hq)
theorem figA_end {b : Nat → Int32} {n t : Nat} (h : n ≤ t) : figA b n t = [] := runA_end h
theorem letA_go {b : Nat → Int32} {n t : Nat} (h : t < n) (hq : inB (b t) 97 122) : letA b n t = b t :: letA b n (t + 1) := runA_go h (letB_t.mpr hq)
theorem letA_no {b : Nat → Int32} {n t : Nat} (hq : ¬ inB (b t) 97 122) : letA b n t = [] := runA_no (letB_f hq)
theorem letA_end {b : Nat → Int32} {n t : Nat} (h : n ≤ t) : letA b n t = [] := runA_end h
/-- a NUMBER: its fault (0, 1, 2), the fault's place, where one stands behind it, its value, where it began -/
def vS (mi : Bool) (L : List Int32) : Int32 := if mi = true then -vX L else vX L
def nuS (b : Nat → Int32) (n : Nat) (mi : Bool) (lo hi : Int32) (a f : Nat) : Nat × Nat × Nat × Int32 × Nat :=
  if figA b n f = [] then (1, f, f, 0, a)
  else if 3 < (figA b n f).length ∨ ¬ (lo ≤ vS mi (figA b n f) ∧ vS mi (figA b n f) ≤ hi) then (2, a, f + (figA b n f).length, 0, a)
  else (0, 0, f + (figA b n f).length, vS mi (figA b n f), a)
def nuR (b : Nat → Int32) (n : Nat) (sg : Bool) (lo hi : Int32) (t : Nat) : Nat × Nat × Nat × Int32 × Nat :=
  if sg = true ∧ byF b n (skA b n t) = 45 then nuS b n true lo hi (skA b n t) (skA b n t + 1) else nuS b n false lo hi (skA b n t) (skA b n t)
/-- a word that must stand; a semicolon -/
def wdR (b : Nat → Int32) (n : Nat) (K : List Int32) (t : Nat) : Nat × Nat × Nat :=
  if letA b n (skA b n t) = K then (0, 0, skA b n t + K.length) else (1, skA b n t, skA b n t)
def smR (b : Nat → Int32) (n t : Nat) : Nat × Nat × Nat :=
  if byF b n (skA b n t) = 59 then (0, 0, skA b n t + 1) else (1, skA b n t, skA b n t)

theorem f_glueP2 : True := trivial
def bF (f : Nat → Int32) : Nat → Int32 := fun j => f j &&& 255
theorem sKl : ∀ wi, wi < 14 → (sByt.getD wi []).length = sLen.getD wi 0 := by decide
theorem sKa : ∀ wi, wi < 14 → ∀ c ∈ sByt.getD wi [], (97 : Int32) ≤ c ∧ c ≤ 122 := by decide +kernel
theorem sKs : ∀ wi, wi < 14 → (wval (sByt.getD wi [])).toInt < 100000000000 := by decide +kernel
theorem chr_ok : ∀ wi, wi < 14 → ∀ i, i < sLen.getD wi 0 → ((sByt.getD wi []).getD i 0) &&& 255 = (sByt.getD wi []).getD i 0 ∧ (((sByt.getD wi []).getD i 0).toUInt32 % 65536).toInt32 = (sByt.getD wi []).getD i 0 ∧ narrow .char (.int ((sByt.getD wi []).getD i 0)) = .int ((sByt.getD wi []).getD i 0) := by decide +kernel
theorem tw_step {b : Nat → Int32} {n T kk : Nat} {K : List Int32} {r1 r2 : Int32} (hK : ∀ c ∈ K, inB c 97 122) (hk : kk < K.length) (HB : r1 = byF b n (T + kk)) (HC : r2 = K.getD kk 0) (C : r1 = r2) (h : letA b n (T + kk) = K.drop kk ↔ letA b n T = K) : (letA b n (T + (kk + 1)) = K.drop (kk + 1) ↔ letA b n T = K) ∧ T + (kk + 1) ≤ n := by
  have e : byF b n (T + kk) = K.getD kk 0 := HB.symm.trans (C.trans HC)
  have D := letA_drop (b := b) (n := n) (t := T) hK kk hk
  refine ⟨⟨fun q => h.mp (D.mpr ⟨e, q⟩), fun q => (D.mp (h.mpr q)).2⟩, ?_⟩
  rcases Nat.lt_or_ge (T + kk) n with q | q
  · omega
  · rw [byF_out (by omega)] at e
    have hm : K.getD kk 0 ∈ K := by
      rw [List.getD_eq_getElem?_getD, List.getElem?_eq_getElem hk]
      exact List.getElem_mem hk
    have h3 := hK _ hm
    rw [← e] at h3
    exact absurd h3.1 (by decide)
theorem tw_no {b : Nat → Int32} {n T kk : Nat} {K : List Int32} {r1 r2 : Int32} (hK : ∀ c ∈ K, inB c 97 122) (hk : kk < K.length) (HB : r1 = byF b n (T + kk)) (HC : r2 = K.getD kk 0) (C : ¬ r1 = r2) (h : letA b n (T + kk) = K.drop kk ↔ letA b n T = K) : ¬ letA b n T = K := by
  intro q
  have D := letA_drop (b := b) (n := n) (t := T) hK kk hk
  exact C (HB.trans ((D.mp (h.mpr q)).1.trans HC.symm))
theorem tw_end1 {b : Nat → Int32} {n T kk : Nat} {K : List Int32} (hk : kk = K.length) (h : letA b n (T + kk) = K.drop kk ↔ letA b n T = K) (hl : ¬ inB (byF b n (T + K.length)) 97 122) : letA b n T = K := by
  subst hk
  exact h.mp (letA_last.mpr hl)
theorem tw_end0 {b : Nat → Int32} {n T kk : Nat} {K : List Int32} (hk : kk = K.length) (h : letA b n (T + kk) = K.drop kk ↔ letA b n T = K) (hl : inB (byF b n (T + K.length)) 97 122) : ¬ letA b n T = K := by
  subst hk
  exact fun q => letA_last.mp (h.mpr q) hl
theorem wdR_1 {b : Nat → Int32} {n t t2 : Nat} {K : List Int32} (h : letA b n (skA b n t) = K) (e : t2 = skA b n t + K.length) : wdR b n K t = (0, 0, t2) := by
  unfold wdR
  rw [if_pos h, e]
theorem wdR_0 {b : Nat → Int32} {n t t2 : Nat} {K : List Int32} (h : ¬ letA b n (skA b n t) = K) (e : t2 = skA b n t) : wdR b n K t = (1, t2, t2) := by
  unfold wdR
  rw [if_neg h, e]
theorem smR_1 {b : Nat → Int32} {n t T : Nat} {r : Int32} (e : T = skA b n t) (h : r = byF b n T) (c : r = 59) : smR b n t = (0, 0, T + 1) := by
  unfold smR
  rw [← e, if_pos (h.symm.trans c)]
theorem smR_0 {b : Nat → Int32} {n t T : Nat} {r : Int32} (e : T = skA b n t) (h : r = byF b n T) (c : ¬ r = 59) : smR b n t = (1, T, T) := by
  unfold smR
  rw [← e, if_neg (fun q => c (h.trans q))]
theorem nn_step {b : Nat → Int32} {n F t : Nat} {va V : Int32} (ht : F ≤ t) (h : t < n) (hf : inB (byF b n t) 48 57) (hl : F + (figA b n F).length = t + (figA b n t).length) (hv : vXk (t - F) va (figA b n t) = V) : F + (figA b n F).length = t + 1 + (figA b n (t + 1)).length ∧ (t - F < 3 → ∀ r : Int32, r = byF b n t → vXk (t + 1 - F) (va * 10 + r - 48) (figA b n (t + 1)) = V) ∧ (¬ t - F < 3 → vXk (t + 1 - F) va (figA b n (t + 1)) = V) := by
  rw [byF_in h] at hf
  have g := figA_go h hf
  rw [g, List.length_cons] at hl
  rw [g] at hv
  have hv2 : vXk (t - F + 1) (if t - F < 3 then va * 10 + b t - 48 else va) (figA b n (t + 1)) = V := hv
  rw [show t - F + 1 = t + 1 - F by omega] at hv2
  refine ⟨by omega, fun c r hr => ?_, fun c => ?_⟩
  · rw [if_pos c] at hv2
    rw [hr, byF_in h]
    exact hv2
  · rw [if_neg c] at hv2
    exact hv2
/-- behind the figures -/
theorem nn_out {b : Nat → Int32} {n F t : Nat} {va V : Int32} (h : figA b n t = []) (hl : F + (figA b n F).length = t + (figA b n t).length) (hv : vXk (t - F) va (figA b n t) = V) : F + (figA b n F).length = t ∧ va = V := by
  rw [h] at hl hv
  exact ⟨hl, hv⟩
theorem nn_fe {b : Nat → Int32} {n t : Nat} (h : ¬ inB (byF b n t) 48 57) : figA b n t = [] := by
  rcases Nat.lt_or_ge t n with q | q
  · rw [byF_in q] at h
    exact figA_no h
  · exact figA_end q
theorem nuR_A {b : Nat → Int32} {n t a : Nat} {lo hi : Int32} (h : 0 ≤ lo) (e : a = skA b n t) : nuR b n (decide (lo < 0)) lo hi t = nuS b n false lo hi a a := by
  unfold nuR
  rw [if_neg (fun q => absurd (of_decide_eq_true q.1) (Int32.not_lt.mpr h)), e]
theorem nuR_B {b : Nat → Int32} {n t a : Nat} {lo hi r : Int32} {sg : Bool} (hr : r = byF b n a) (h : ¬ r = 45) (e : a = skA b n t) : nuR b n sg lo hi t = nuS b n false lo hi a a := by
  unfold nuR
  rw [if_neg (fun q => h (hr.trans (by rw [e]; exact q.2))), e]
theorem nuR_C {b : Nat → Int32} {n t a : Nat} {lo hi r : Int32} (h0 : ¬ 0 ≤ lo) (hr : r = byF b n a) (h : r = 45) (e : a = skA b n t) : nuR b n (decide (lo < 0)) lo hi t = nuS b n true lo hi a (a + 1) := by
  unfold nuR
  rw [if_pos ⟨decide_eq_true (Int32.not_le.mp h0), by rw [← e]; exact hr.symm.trans h⟩, e]
theorem nuS_1 {b : Nat → Int32} {n a f : Nat} {mi : Bool} {lo hi : Int32} (h : figA b n f = []) : nuS b n mi lo hi a f = (1, f, f, 0, a) := by
  unfold nuS
  rw [if_pos h]
theorem nuS_2 {b : Nat → Int32} {n a f t : Nat} {mi : Bool} {lo hi v : Int32} (hl : f + (figA b n f).length = t) (h : t ≠ f) (hv : vS mi (figA b n f) = v) (h2 : 3 < t - f ∨ ¬ (lo ≤ v ∧ v ≤ hi)) : nuS b n mi lo hi a f = (2, a, t, 0, a) := by
  unfold nuS
  rw [if_neg (fun q => h (by rw [← hl, q]; rfl)), hv, if_pos (h2.imp (fun q => by omega) id), hl]
theorem nuS_0 {b : Nat → Int32} {n a f t : Nat} {mi : Bool} {lo hi v : Int32} (hl : f + (figA b n f).length = t) (h : t ≠ f) (hv : vS mi (figA b n f) = v) (h2 : ¬ 3 < t - f) (h3 : lo ≤ v ∧ v ≤ hi) : nuS b n mi lo hi a f = (0, 0, t, v, a) := by
  unfold nuS
  rw [if_neg (fun q => h (by rw [← hl, q]; rfl)), hv, if_neg (fun q => q.elim (fun q => h2 (by omega)) (fun q => q h3)), hl]
theorem vS_f {L : List Int32} {v : Int32} (h : v = vX L) : vS false L = v := by
  rw [h]
  rfl
theorem vS_t {L : List Int32} {v w : Int32} (h : v = vX L) (e : w = -v) : vS true L = w := by
  rw [e, h]
  rfl
theorem nuS_1t {b : Nat → Int32} {n a f t : Nat} {mi : Bool} {lo hi : Int32} (hl : f + (figA b n f).length = t) (h : t = f) : nuS b n mi lo hi a f = (1, t, t, 0, a) := by
  have e : figA b n f = [] := List.eq_nil_of_length_eq_zero (by omega)
  rw [nuS_1 e, h]


set_option maxHeartbeats 4000000 in
set_option maxRecDepth 100000 in
theorem y_charAtL (l : Launch) (D : va_G) (k : Nat → ClassId) (st : Nat → Nat) (lo : Nat) (wi : Nat) (i : Nat) (hwi : wi < 14) (hi : i < sLen.getD wi 0) : CWi l D k st lo yJ1_charAt_3b067 cJ1_charAt_3b067 2 (some .char) ({ frames := 2, cells := 0, slots := 0, locals := 43 }) 0 0 [.ref (st (200 + wi)), .int (nI i)] [] (fun (r : Int32) (_ : Unit) => r = (sByt.getD wi []).getD i 0) (fun (_ : Unit) => []) := by
  intro sz
  refine Met.ofW (cc := cJ1_charAt_3b067) (maxL := 2) (ret := (some .char)) (by decide) rfl ?_
  intro p e s m args below meth c s₁ B hml hv
  obtain ⟨rfl, hsz, hlo, hP, hK, hDL, hZ⟩ := hv
  have hx := B.exec
  have hb := B.bytes
  have hr := B.returns
  have hts := WS_ts B.pre
  have hown : s.vm.findClass RJ1 = some m.cls := findClass_of_methodNamed B.named
  have hlocks := B.notSynchronized
  subst hsz
  have hD := hDL.self (sz := s.heap.size)
  have hAlo := A_lo hDL hlo
  generalize hAe : va_A [] s.heap.size = A at hD hAlo ⊢
  have hA : ∀ q : Nat, s.heap.size ≤ q → A q := fun q h => by rw [← hAe]; exact Or.inr h
  have hS : va_S A s.heap s.heap [] := va_S.rf
  have hl := lv_entry ([.ref (st (200 + wi)), .int (nI i)]) (n := 2) (Nat.le_of_ble_eq_true rfl)
  rw [lg_entry_eq]
  generalize (lg_sl ([.ref (st (200 + wi)), .int (nI i)]) ++ List.replicate (2 - (lg_sl ([.ref (st (200 + wi)), .int (nI i)])).length) Slot.unset).toArray = ls at hl ⊢
  have hl : lv_has ls 2 [(0, .ref (st (200 + wi))), (1, .int (nI i))] := hl
  have hsl := sLen_le wi hwi
  refine lv_iload_n hx hb dJ1_charAt_3b067_0 rfl (lv_at hl 1 rfl) ?_
  refine lv_aload_n hx hb dJ1_charAt_3b067_1 rfl (lv_at hl 0 rfl) ?_
  refine va_tlen (A := A) hx hb ((hZ.2.2.2.2.2.2.2.2.2.1.1 wi (by omega)).2.2.2.narrow hAlo) hS (v := (nI (sLen.getD wi 0))) rfl dJ1_charAt_3b067_2 ?_
  refine rw_v (D := D) (wr := []) (va_runS (As := [.int (nI i), .int (nI (sLen.getD wi 0))]) (rest := []) ⟨hx, hb, hml, hown, hts⟩ ((x_six l D k st lo i (sLen.getD wi 0) (by first | assumption | omega) (by first | assumption | omega)) s.heap.size) (va_cwS 2 hts (gS tw_424 tw_425 tw_89 tw_426) rfl rfl rfl (by decide +kernel) ⟨Nat.le_of_ble_eq_true rfl, Nat.le_of_ble_eq_true rfl⟩) (pS hS hAlo hlo hP hK (va_Dlo hD hAlo) hZ [] (by decide) rfl) rfl rfl hl.1 rfl (lv_room (Nat.le_of_ble_eq_true rfl)) dJ1_charAt_3b067_3 ⟨Nat.le_of_ble_eq_true rfl, Nat.le_of_ble_eq_true rfl⟩) hS hA hP hD [] [] rfl rfl (by decide) (by decide) (fun u H locs hw_1 hP hD hS => ?_)
  have hQ9 := pd_mk [] hP hD
  clear hP hD
  obtain ⟨hP, hD⟩ := hQ9
  try dsimp only at hw_1
  refine lv_aload_n hx hb dJ1_charAt_3b067_6 rfl (lv_at hl 0 rfl) ?_
  refine lv_iload_n hx hb dJ1_charAt_3b067_7 rfl (lv_at hl 1 rfl) ?_
  refine va_tb (A := A) hx hb ((hZ.2.2.2.2.2.2.2.2.2.1.1 wi (by omega)).2.2.2.narrow hAlo) hS (i := (nI i)) (vp_in_nI (by omega) (by omega)) (v := .int ((sByt.getD wi []).getD i 0)) (by show Value.int ((sByt.getD wi []).getD ((nI i)).toNatClampNeg 0) = _; rw [nI_clamp (by omega)]) dJ1_charAt_3b067_8 ?_
  refine lv_sipush (v := 255) hx hb dJ1_charAt_3b067_9 (by decide) ?_
  refine lv_iand hx hb dJ1_charAt_3b067_12 ?_
  refine lv_topi (fun x_2 ex_2 => ?_)
  refine lv_ti (y := ((sByt.getD wi []).getD i 0)) (by rw [ex_2]; exact (chr_ok wi hwi i hi).1) ?_
  refine lv_i2c (v := ((sByt.getD wi []).getD i 0)) hx hb dJ1_charAt_3b067_13 (chr_ok wi hwi i hi).2.1 ?_
  obtain ⟨hP9, hD9⟩ := pd_sub [] [] hP hD (by decide) rfl
  exact W.zret (v := ((sByt.getD wi []).getD i 0)) (ty := .char) hx hb hr (chr_ok wi hwi i hi).2.2 (fun t ht hW => ⟨⟨((sByt.getD wi []).getD i 0), (), rfl, rfl, by rw [ht]; exact hP9, hD9⟩, hS.F ht⟩) hS.2.2 dJ1_charAt_3b067_14


set_option maxHeartbeats 4000000 in
set_option maxRecDepth 100000 in
theorem y_charAt (l : Launch) (D : va_G) (k : Nat → ClassId) (st : Nat → Nat) (lo : Nat) (wi : Nat) (i : Nat) (hwi : wi < 14) (hi : i < sLen.getD wi 0) : CWi l D k st lo yJ0_charAt_5068e cJ0_charAt_5068e 2 (some .char) ({ frames := 3, cells := 0, slots := 0, locals := 64 }) 0 0 [.ref (st (100 + wi)), .int (nI i)] [] (fun (r : Int32) (_ : Unit) => r = (sByt.getD wi []).getD i 0) (fun (_ : Unit) => []) := by
  intro sz
  refine Met.ofW (cc := cJ0_charAt_5068e) (maxL := 2) (ret := (some .char)) (by decide) rfl ?_
  intro p e s m args below meth c s₁ B hml hv
  obtain ⟨rfl, hsz, hlo, hP, hK, hDL, hZ⟩ := hv
  have hx := B.exec
  have hb := B.bytes
  have hr := B.returns
  have hts := WS_ts B.pre
  have hown : s.vm.findClass RJ0 = some m.cls := findClass_of_methodNamed B.named
  have hlocks := B.notSynchronized
  subst hsz
  have hD := hDL.self (sz := s.heap.size)
  have hAlo := A_lo hDL hlo
  generalize hAe : va_A [] s.heap.size = A at hD hAlo ⊢
  have hA : ∀ q : Nat, s.heap.size ≤ q → A q := fun q h => by rw [← hAe]; exact Or.inr h
  have hS : va_S A s.heap s.heap [] := va_S.rf
  have hl := lv_entry ([.ref (st (100 + wi)), .int (nI i)]) (n := 2) (Nat.le_of_ble_eq_true rfl)
  rw [lg_entry_eq]
  generalize (lg_sl ([.ref (st (100 + wi)), .int (nI i)]) ++ List.replicate (2 - (lg_sl ([.ref (st (100 + wi)), .int (nI i)])).length) Slot.unset).toArray = ls at hl ⊢
  have hl : lv_has ls 2 [(0, .ref (st (100 + wi))), (1, .int (nI i))] := hl
  have hsl := sLen_le wi hwi
  refine lv_aload_n hx hb dJ0_charAt_5068e_0 rfl (lv_at hl 0 rfl) ?_
  refine ro_i (D := D) (va_runV (As := []) (rest := []) ⟨hx, hb, hml, hown, hts⟩ ((x_isLatin1 l D k st lo wi (by first | assumption | omega)) s.heap.size) (cwV 0 hts (gV tw_417 tw_418 tw_419 tw_89 tw_420) rfl rfl rfl (by decide +kernel) ⟨Nat.le_of_ble_eq_true rfl, Nat.le_of_ble_eq_true rfl⟩) (pVs (i := wi) (by omega) hS hAlo hlo hP hK (va_Dlo hD hAlo) hZ [] (by decide) rfl) rfl rfl hl.1 rfl (lv_room (Nat.le_of_ble_eq_true rfl)) dJ0_charAt_5068e_1 ⟨Nat.le_of_ble_eq_true rfl, Nat.le_of_ble_eq_true rfl⟩) hS hA hP (fun r_1 H locs hw_1 hP hS => ?_)
  try dsimp only at hw_1
  subst hw_1
  refine lv_if_eq (tgt := 16) hx hb dJ0_charAt_5068e_4 (by decide) (fun h => absurd h (by decide)) (fun _ => ?_)
  refine lv_aload_n hx hb dJ0_charAt_5068e_7 rfl (lv_at hl 0 rfl) ?_
  refine vk_getf (A := A) hx hb ((hZ.2.2.2.2.2.2.2.2.2.1.1 wi (by omega)).2.2.1.narrow hAlo) hS hown (hts _ tw_1502) (fun _ h9 => h9) dJ0_charAt_5068e_8 ?_
  refine lv_iload_n hx hb dJ0_charAt_5068e_11 rfl (lv_at hl 1 rfl) ?_
  refine rw_i (D := D) (wr := []) (va_runS (As := [.ref (st (200 + wi)), .int (nI i)]) (rest := []) ⟨hx, hb, hml, hown, hts⟩ ((y_charAtL l D k st lo wi i (by first | assumption | omega) (by first | assumption | omega)) H.size) (va_cwS 2 hts (gS tw_421 tw_422 tw_90 tw_423) rfl rfl rfl (by decide +kernel) ⟨Nat.le_of_ble_eq_true rfl, Nat.le_of_ble_eq_true rfl⟩) (pS hS hAlo hlo hP hK (va_Dlo hD hAlo) hZ [] (by decide) rfl) rfl rfl hl.1 rfl (lv_room (Nat.le_of_ble_eq_true rfl)) dJ0_charAt_5068e_12 ⟨Nat.le_of_ble_eq_true rfl, Nat.le_of_ble_eq_true rfl⟩) hS hA hP hD [] [] rfl rfl (by decide) (by decide) (fun r_2 u H locs hw_2 hP hD hS => ?_)
  have hQ9 := pd_mk [] hP hD
  clear hP hD
  obtain ⟨hP, hD⟩ := hQ9
  try dsimp only at hw_2
  obtain ⟨hP9, hD9⟩ := pd_sub [] [] hP hD (by decide) rfl
  exact W.zret (v := r_2) (ty := .char) hx hb hr (by rw [hw_2]; exact (chr_ok wi hwi i hi).2.2) (fun t ht hW => ⟨⟨r_2, (), rfl, hw_2, by rw [ht]; exact hP9, hD9⟩, hS.F ht⟩) hS.2.2 dJ0_charAt_5068e_15


set_option maxHeartbeats 4000000 in
set_option maxRecDepth 100000 in
theorem y_byteAt (l : Launch) (D : va_G) (k : Nat → ClassId) (st : Nat → Nat) (lo : Nat) (x0 : Nat) (x1 : Nat) (tz : Nat) (ta : Nat) (na : Int32) (fn : Int32) (fb : Int32) (fx : Nat → Int32) (i : Nat) (hz : tz ≤ 240) (hi : i < 2 ^ 31) : CRi l D k st lo yX6_byteAt cX6_byteAt 2 (some .int) ({ frames := 0, cells := 0, slots := 0, locals := 0 }) [.ref x0, .int (nI i)] [(x0, .inr (6, (fX6 x1 (nI tz) (nI ta) na fn fb))), (aB k x1 240 fx)] (fun r => r = byF (bF fx) tz i) := by
  intro sz
  refine Met.ofW (cc := cX6_byteAt) (maxL := 2) (ret := (some .int)) (by decide) rfl ?_
  intro p e s m args below meth c s₁ B hml hv
  obtain ⟨rfl, hsz, hlo, hP, hK, hDL, hZ⟩ := hv
  have hx := B.exec
  have hb := B.bytes
  have hr := B.returns
  have hts := WS_ts B.pre
  have hown : s.vm.findClass RX6 = some m.cls := findClass_of_methodNamed B.named
  have hlocks := B.notSynchronized
  subst hsz
  have hA : ∀ q : Nat, s.heap.size ≤ q → (fun q : Nat => s.heap.size ≤ q) q := fun _ h => h
  have hAlo : ∀ q : Nat, (fun q : Nat => s.heap.size ≤ q) q → lo ≤ q := fun q h => Nat.le_trans hlo h
  have hS : va_S (fun q : Nat => s.heap.size ≤ q) s.heap s.heap [] := va_S.rf
  have hl := lv_entry ([.ref x0, .int (nI i)]) (n := 2) (Nat.le_of_ble_eq_true rfl)
  rw [lg_entry_eq]
  generalize (lg_sl ([.ref x0, .int (nI i)]) ++ List.replicate (2 - (lg_sl ([.ref x0, .int (nI i)])).length) Slot.unset).toArray = ls at hl ⊢
  have hl : lv_has ls 2 [(0, .ref x0), (1, .int (nI i))] := hl
  refine lv_iload_n hx hb dX6_byteAt_0 rfl (lv_at hl 1 rfl) ?_
  refine lv_if_lt (tgt := 25) hx hb dX6_byteAt_1 (by decide) (fun h => absurd h (nI_pos0 (by omega))) (fun _ => ?_)
  refine lv_iload_n hx hb dX6_byteAt_4 rfl (lv_at hl 1 rfl) ?_
  refine lv_aload_n hx hb dX6_byteAt_5 rfl (lv_at hl 0 rfl) ?_
  refine va_get (D := D) (ci := 6) (v := .int (nI tz)) (C := RX6) (T := TX6) (N := 6) hx hb hts inX6 hown hK hP 0 rfl rfl 1 (by decide) (hts _ tw_110) (fun _ h9 => h9) rfl dX6_byteAt_6 ?_
  refine lv_icmp_ge (tgt := 25) hx hb dX6_byteAt_9 (by decide) (fun c_1 => ?_) (fun c_1 => ?_)
  · have c_1 := (nI_leI (a := tz) (b := i) (by omega) (by omega)).mp c_1
    refine lv_iconst (v := (-1)) hx hb dX6_byteAt_25 (by decide) ?_
    exact W.iret (v := (-1)) hx hb hr (fun t ht hW => ⟨⟨(-1), (), rfl, (byF_out (by omega)).symm, trivial⟩, hS.F ht⟩) hS.2.2 dX6_byteAt_26
  · have c_1 : ¬ (tz ≤ i) := fun h => c_1 ((nI_leI (a := tz) (b := i) (by omega) (by omega)).mpr h)
    refine lv_aload_n hx hb dX6_byteAt_12 rfl (lv_at hl 0 rfl) ?_
    refine va_get (D := D) (ci := 6) (v := .ref x1) (C := RX6) (T := TX6) (N := 6) hx hb hts inX6 hown hK hP 0 rfl rfl 0 (by decide) (hts _ tw_109) (fun _ h9 => h9) rfl dX6_byteAt_13 ?_
    refine lv_iload_n hx hb dX6_byteAt_16 rfl (lv_at hl 1 rfl) ?_
    refine va_bald hx hb hK hP 1 0 rfl rfl (vp_in_nI (by omega) (by decide)) dX6_byteAt_17 ?_
    refine lv_ti (y := (fx i)) (by rw [nI_clamp (by omega)]) ?_
    refine lv_sipush (v := 255) hx hb dX6_byteAt_18 (by decide) ?_
    refine lv_iand hx hb dX6_byteAt_21 ?_
    refine lv_topi (fun x_2 ex_2 => ?_)
    refine lv_goto (tgt := 26) hx hb dX6_byteAt_22 (by decide) ?_
    exact W.iret (v := x_2) hx hb hr (fun t ht hW => ⟨⟨x_2, (), rfl, (by rw [byF_in (by omega), ex_2]; rfl), trivial⟩, hS.F ht⟩) hS.2.2 dX6_byteAt_26


set_option maxHeartbeats 4000000 in
set_option maxRecDepth 100000 in
theorem y_skip (l : Launch) (D : va_G) (k : Nat → ClassId) (st : Nat → Nat) (lo : Nat) (x0 : Nat) (x1 : Nat) (tz : Nat) (ta : Nat) (na : Int32) (fn : Int32) (fb : Int32) (fx : Nat → Int32) (ht : ta ≤ tz) (hz : tz ≤ 240) : CWv l D k st lo yX6_skipBlanks cX6_skipBlanks 1 none ({ frames := 1, cells := 0, slots := 0, locals := 21 }) 0 0 [.ref x0] [(x0, .inr (6, (fX6 x1 (nI tz) (nI ta) na fn fb))), (aB k x1 240 fx)] (fun (ta_ : Nat) => ta_ = skA (bF fx) tz ta ∧ ta ≤ ta_ ∧ ta_ ≤ tz) (fun (ta_ : Nat) => [(x0, .inr (6, (fX6 x1 (nI tz) (nI ta_) na fn fb))), (aB k x1 240 fx)]) := by
  intro sz
  refine Met.ofW (cc := cX6_skipBlanks) (maxL := 1) (ret := none) (by decide) rfl ?_
  intro p e s m args below meth c s₁ B hml hv
  obtain ⟨rfl, hsz, hlo, hP, hK, hDL, hZ⟩ := hv
  have hx := B.exec
  have hb := B.bytes
  have hr := B.returns
  have hts := WS_ts B.pre
  have hown : s.vm.findClass RX6 = some m.cls := findClass_of_methodNamed B.named
  have hlocks := B.notSynchronized
  subst hsz
  have hD := hDL.self (sz := s.heap.size)
  have hAlo := A_lo hDL hlo
  generalize hAe : va_A [(x0, .inr (6, (fX6 x1 (nI tz) (nI ta) na fn fb))), (aB k x1 240 fx)] s.heap.size = A at hD hAlo ⊢
  have hA : ∀ q : Nat, s.heap.size ≤ q → A q := fun q h => by rw [← hAe]; exact Or.inr h
  have hS : va_S A s.heap s.heap [] := va_S.rf
  have hl := lv_entry ([.ref x0]) (n := 1) (Nat.le_of_ble_eq_true rfl)
  rw [lg_entry_eq]
  generalize (lg_sl ([.ref x0]) ++ List.replicate (1 - (lg_sl ([.ref x0])).length) Slot.unset).toArray = ls at hl ⊢
  have hl : lv_has ls 1 [(0, .ref x0)] := hl
  refine W_loop (σ := Nat) (fun (n_ : Nat) (t2_1 : Nat) (H : Heap) (locs : List Loc) (ls : Array Slot) => n_ = tz - t2_1 ∧ (skA (bF fx) tz t2_1 = skA (bF fx) tz ta ∧ ta ≤ t2_1 ∧ t2_1 ≤ tz) ∧ va_P D classes [(x0, .inr (6, (fX6 x1 (nI tz) (nI t2_1) na fn fb))), (aB k x1 240 fx)] H ∧ va_D A [(x0, .inr (6, (fX6 x1 (nI tz) (nI t2_1) na fn fb))), (aB k x1 240 fx)] ∧ va_S A s.heap H locs ∧ lv_has ls 1 [(0, .ref x0)]) (fun n_1 x_1 H locs ls hI ih_1 => ?_) _ ta ⟨rfl, ⟨rfl, by omega, by omega⟩, hP, hD, hS, (lv_sub hl [0] rfl)⟩
  obtain ⟨t2_1, rfl⟩ : ∃ z, z = x_1 := ⟨_, rfl⟩
  obtain ⟨hm_1, hv_1, hP, hD, hS, hl⟩ := hI
  subst hm_1
  refine lv_aload_n hx hb dX6_skipBlanks_0 rfl (lv_at hl 0 rfl) ?_
  refine va_get (D := D) (ci := 6) (v := .int (nI t2_1)) (C := RX6) (T := TX6) (N := 6) hx hb hts inX6 hown hK hP 0 rfl rfl 2 (by decide) (hts _ tw_113) (fun _ h9 => h9) rfl dX6_skipBlanks_1 ?_
  refine lv_aload_n hx hb dX6_skipBlanks_4 rfl (lv_at hl 0 rfl) ?_
  refine va_get (D := D) (ci := 6) (v := .int (nI tz)) (C := RX6) (T := TX6) (N := 6) hx hb hts inX6 hown hK hP 0 rfl rfl 1 (by decide) (hts _ tw_110) (fun _ h9 => h9) rfl dX6_skipBlanks_5 ?_
  refine lv_icmp_ge (tgt := 37) hx hb dX6_skipBlanks_8 (by decide) (fun c_2 => ?_) (fun c_2 => ?_)
  · have c_2 := (nI_leI (a := tz) (b := t2_1) (by omega) (by omega)).mp c_2
    obtain ⟨hP9, hD9⟩ := pd_sub [(x0, .inr (6, (fX6 x1 (nI tz) (nI t2_1) na fn fb))), (aB k x1 240 fx)] [0, 1] hP hD (by decide) rfl
    exact W.vret hx hb hr (fun t ht hW => ⟨⟨t2_1, rfl, ⟨(skA_end (by omega)).symm.trans hv_1.1, by omega, by omega⟩, by rw [ht]; exact hP9, hD9⟩, hS.F ht⟩) hS.2.2 dX6_skipBlanks_37
  · have c_2 : ¬ (tz ≤ t2_1) := fun h => c_2 ((nI_leI (a := tz) (b := t2_1) (by omega) (by omega)).mpr h)
    refine lv_aload_n hx hb dX6_skipBlanks_11 rfl (lv_at hl 0 rfl) ?_
    refine lv_aload_n hx hb dX6_skipBlanks_12 rfl (lv_at hl 0 rfl) ?_
    refine va_get (D := D) (ci := 6) (v := .int (nI t2_1)) (C := RX6) (T := TX6) (N := 6) hx hb hts inX6 hown hK hP 0 rfl rfl 2 (by decide) (hts _ tw_113) (fun _ h9 => h9) rfl dX6_skipBlanks_13 ?_
    refine ro_i (D := D) (va_runV (As := [.int (nI t2_1)]) (rest := []) ⟨hx, hb, hml, hown, hts⟩ ((y_byteAt l D k st lo x0 x1 tz t2_1 na fn fb fx t2_1 (by first | assumption | omega) (by first | assumption | omega)) H.size) (cwV 1 hts (gV tw_379 tw_380 tw_381 tw_80 tw_382) rfl rfl rfl (by decide +kernel) ⟨Nat.le_of_ble_eq_true rfl, Nat.le_of_ble_eq_true rfl⟩) (pV hS hAlo hlo hP hK (va_Dlo hD hAlo) hZ [0, 1] (by decide) rfl (ci := 6) (q := (RX6, TX6, 6)) (q0 := 0) rfl rfl) rfl rfl hl.1 rfl (lv_room (Nat.le_of_ble_eq_true rfl)) dX6_skipBlanks_16 ⟨Nat.le_of_ble_eq_true rfl, Nat.le_of_ble_eq_true rfl⟩) hS hA hP (fun r_3 H locs hw_3 hP hS => ?_)
    try dsimp only at hw_3
    refine lv_bipush (v := 32) hx hb dX6_skipBlanks_19 (by decide) ?_
    refine lv_icmp_ne (tgt := 37) hx hb dX6_skipBlanks_21 (by decide) (fun c_4 => ?_) (fun c_4 => ?_)
    · obtain ⟨hP9, hD9⟩ := pd_sub [(x0, .inr (6, (fX6 x1 (nI tz) (nI t2_1) na fn fb))), (aB k x1 240 fx)] [0, 1] hP hD (by decide) rfl
      exact W.vret hx hb hr (fun t ht hW => ⟨⟨t2_1, rfl, ⟨(skA_no (fun e => c_4 (hw_3.trans ((byF_in (by omega)).trans e)))).symm.trans hv_1.1, by omega, by omega⟩, by rw [ht]; exact hP9, hD9⟩, hS.F ht⟩) hS.2.2 dX6_skipBlanks_37
    · refine lv_aload_n hx hb dX6_skipBlanks_24 rfl (lv_at hl 0 rfl) ?_
      refine lv_dup hx hb dX6_skipBlanks_25 rfl ?_
      refine va_get (D := D) (ci := 6) (v := .int (nI t2_1)) (C := RX6) (T := TX6) (N := 6) hx hb hts inX6 hown hK hP 0 rfl rfl 2 (by decide) (hts _ tw_113) (fun _ h9 => h9) rfl dX6_skipBlanks_26 ?_
      refine lv_iconst (v := 1) hx hb dX6_skipBlanks_29 (by decide) ?_
      refine lv_iadd hx hb dX6_skipBlanks_30 ?_
      refine lv_ti (y := (nI (t2_1 + 1))) (nI_add t2_1 1) ?_
      refine va_put (D := D) (ci := 6) (v := .int (nI (t2_1 + 1))) (ty := .int) (C := RX6) (T := TX6) (N := 6) hx hb hts inX6 tyX6 tyX6_ok nmX6 hown hK hP hD hS 0 rfl rfl 2 (by decide) (hts _ tw_113) (fun _ h9 => h9) rfl (by decide +kernel) rfl rfl (Nat.le_of_ble_eq_true rfl) dX6_skipBlanks_31 (fun H locs hP hD hS => ?_)
      have hQ9 := pd_mk [(x0, .inr (6, (fX6 x1 (nI tz) (nI (t2_1 + 1)) na fn fb))), (aB k x1 240 fx)] hP hD
      clear hP hD
      obtain ⟨hP, hD⟩ := hQ9
      refine lv_goto (tgt := 0) hx hb dX6_skipBlanks_34 (by decide) ?_
      exact ih_1 _ (t2_1 + 1) _ _ _ (by omega) ⟨rfl, ⟨(skA_go (by omega) (((byF_in (by omega)).symm.trans hw_3.symm).trans c_4)).trans hv_1.1, by omega, by omega⟩, hP, hD, hS, (lv_sub hl [0] rfl)⟩


set_option maxHeartbeats 4000000 in
set_option maxRecDepth 100000 in
theorem y_isAtEnd (l : Launch) (D : va_G) (k : Nat → ClassId) (st : Nat → Nat) (lo : Nat) (x0 : Nat) (x1 : Nat) (tz : Nat) (ta : Nat) (na : Int32) (fn : Int32) (fb : Int32) (fx : Nat → Int32) (ht : ta ≤ tz) (hz : tz ≤ 240) : CWi l D k st lo yX6_isAtEnd cX6_isAtEnd 1 (some .boolean) ({ frames := 2, cells := 0, slots := 0, locals := 41 }) 0 0 [.ref x0] [(x0, .inr (6, (fX6 x1 (nI tz) (nI ta) na fn fb))), (aB k x1 240 fx)] (fun (r : Int32) (ta_ : Nat) => ((r = 1 ∧ tz ≤ ta_) ∨ (r = 0 ∧ ta_ < tz)) ∧ ta_ = skA (bF fx) tz ta ∧ ta ≤ ta_ ∧ ta_ ≤ tz) (fun (ta_ : Nat) => [(x0, .inr (6, (fX6 x1 (nI tz) (nI ta_) na fn fb))), (aB k x1 240 fx)]) := by
  intro sz
  refine Met.ofW (cc := cX6_isAtEnd) (maxL := 1) (ret := (some .boolean)) (by decide) rfl ?_
  intro p e s m args below meth c s₁ B hml hv
  obtain ⟨rfl, hsz, hlo, hP, hK, hDL, hZ⟩ := hv
  have hx := B.exec
  have hb := B.bytes
  have hr := B.returns
  have hts := WS_ts B.pre
  have hown : s.vm.findClass RX6 = some m.cls := findClass_of_methodNamed B.named
  have hlocks := B.notSynchronized
  subst hsz
  have hD := hDL.self (sz := s.heap.size)
  have hAlo := A_lo hDL hlo
  generalize hAe : va_A [(x0, .inr (6, (fX6 x1 (nI tz) (nI ta) na fn fb))), (aB k x1 240 fx)] s.heap.size = A at hD hAlo ⊢
  have hA : ∀ q : Nat, s.heap.size ≤ q → A q := fun q h => by rw [← hAe]; exact Or.inr h
  have hS : va_S A s.heap s.heap [] := va_S.rf
  have hl := lv_entry ([.ref x0]) (n := 1) (Nat.le_of_ble_eq_true rfl)
  rw [lg_entry_eq]
  generalize (lg_sl ([.ref x0]) ++ List.replicate (1 - (lg_sl ([.ref x0])).length) Slot.unset).toArray = ls at hl ⊢
  have hl : lv_has ls 1 [(0, .ref x0)] := hl
  refine lv_aload_n hx hb dX6_isAtEnd_0 rfl (lv_at hl 0 rfl) ?_
  refine rw_v (D := D) (wr := []) (va_runV (As := []) (rest := []) ⟨hx, hb, hml, hown, hts⟩ ((y_skip l D k st lo x0 x1 tz ta na fn fb fx (by first | assumption | omega) (by first | assumption | omega)) s.heap.size) (cwV 0 hts (gV tw_375 tw_376 tw_377 tw_80 tw_378) rfl rfl rfl (by decide +kernel) ⟨Nat.le_of_ble_eq_true rfl, Nat.le_of_ble_eq_true rfl⟩) (pV hS hAlo hlo hP hK (va_Dlo hD hAlo) hZ [0, 1] (by decide) rfl (ci := 6) (q := (RX6, TX6, 6)) (q0 := 0) rfl rfl) rfl rfl hl.1 rfl (lv_room (Nat.le_of_ble_eq_true rfl)) dX6_isAtEnd_1 ⟨Nat.le_of_ble_eq_true rfl, Nat.le_of_ble_eq_true rfl⟩) hS hA hP hD [0, 1] [] rfl rfl (by decide) (by decide) (fun u H locs hw_1 hP hD hS => ?_)
  obtain ⟨ta__1, rfl⟩ : ∃ z, z = u := ⟨_, rfl⟩
  have hQ9 := pd_mk [(x0, .inr (6, (fX6 x1 (nI tz) (nI ta__1) na fn fb))), (aB k x1 240 fx)] hP hD
  clear hP hD
  obtain ⟨hP, hD⟩ := hQ9
  try dsimp only at hw_1
  refine lv_aload_n hx hb dX6_isAtEnd_4 rfl (lv_at hl 0 rfl) ?_
  refine va_get (D := D) (ci := 6) (v := .int (nI ta__1)) (C := RX6) (T := TX6) (N := 6) hx hb hts inX6 hown hK hP 0 rfl rfl 2 (by decide) (hts _ tw_113) (fun _ h9 => h9) rfl dX6_isAtEnd_5 ?_
  refine lv_aload_n hx hb dX6_isAtEnd_8 rfl (lv_at hl 0 rfl) ?_
  refine va_get (D := D) (ci := 6) (v := .int (nI tz)) (C := RX6) (T := TX6) (N := 6) hx hb hts inX6 hown hK hP 0 rfl rfl 1 (by decide) (hts _ tw_110) (fun _ h9 => h9) rfl dX6_isAtEnd_9 ?_
  refine lv_icmp_lt (tgt := 19) hx hb dX6_isAtEnd_12 (by decide) (fun c_2 => ?_) (fun c_2 => ?_)
  · have c_2 := (nI_ltI (a := ta__1) (b := tz) (by omega) (by omega)).mp c_2
    refine lv_iconst (v := 0) hx hb dX6_isAtEnd_19 (by decide) ?_
    obtain ⟨hP9, hD9⟩ := pd_sub [(x0, .inr (6, (fX6 x1 (nI tz) (nI ta__1) na fn fb))), (aB k x1 240 fx)] [0, 1] hP hD (by decide) rfl
    exact W.zret (v := 0) (ty := .boolean) hx hb hr rfl (fun t ht hW => ⟨⟨0, ta__1, rfl, ⟨.inr ⟨rfl, by omega⟩, hw_1.1, by omega, by omega⟩, by rw [ht]; exact hP9, hD9⟩, hS.F ht⟩) hS.2.2 dX6_isAtEnd_20
  · have c_2 : ¬ (ta__1 < tz) := fun h => c_2 ((nI_ltI (a := ta__1) (b := tz) (by omega) (by omega)).mpr h)
    refine lv_iconst (v := 1) hx hb dX6_isAtEnd_15 (by decide) ?_
    refine lv_goto (tgt := 20) hx hb dX6_isAtEnd_16 (by decide) ?_
    obtain ⟨hP9, hD9⟩ := pd_sub [(x0, .inr (6, (fX6 x1 (nI tz) (nI ta__1) na fn fb))), (aB k x1 240 fx)] [0, 1] hP hD (by decide) rfl
    exact W.zret (v := 1) (ty := .boolean) hx hb hr rfl (fun t ht hW => ⟨⟨1, ta__1, rfl, ⟨.inl ⟨rfl, by omega⟩, hw_1.1, by omega, by omega⟩, by rw [ht]; exact hP9, hD9⟩, hS.F ht⟩) hS.2.2 dX6_isAtEnd_20


set_option maxHeartbeats 4000000 in
set_option maxRecDepth 100000 in
theorem y_isLetterAt (l : Launch) (D : va_G) (k : Nat → ClassId) (st : Nat → Nat) (lo : Nat) (x0 : Nat) (x1 : Nat) (tz : Nat) (ta : Nat) (na : Int32) (fn : Int32) (fb : Int32) (fx : Nat → Int32) (i : Nat) (hz : tz ≤ 240) (hi : i < 2 ^ 31) : CRi l D k st lo yX6_isLetterAt cX6_isLetterAt 3 (some .boolean) ({ frames := 1, cells := 0, slots := 0, locals := 21 }) [.ref x0, .int (nI i)] [(x0, .inr (6, (fX6 x1 (nI tz) (nI ta) na fn fb))), (aB k x1 240 fx)] (fun r => isB r (byF (bF fx) tz i) 97 122) := by
  intro sz
  refine Met.ofW (cc := cX6_isLetterAt) (maxL := 3) (ret := (some .boolean)) (by decide) rfl ?_
  intro p e s m args below meth c s₁ B hml hv
  obtain ⟨rfl, hsz, hlo, hP, hK, hDL, hZ⟩ := hv
  have hx := B.exec
  have hb := B.bytes
  have hr := B.returns
  have hts := WS_ts B.pre
  have hown : s.vm.findClass RX6 = some m.cls := findClass_of_methodNamed B.named
  have hlocks := B.notSynchronized
  subst hsz
  have hA : ∀ q : Nat, s.heap.size ≤ q → (fun q : Nat => s.heap.size ≤ q) q := fun _ h => h
  have hAlo : ∀ q : Nat, (fun q : Nat => s.heap.size ≤ q) q → lo ≤ q := fun q h => Nat.le_trans hlo h
  have hS : va_S (fun q : Nat => s.heap.size ≤ q) s.heap s.heap [] := va_S.rf
  have hl := lv_entry ([.ref x0, .int (nI i)]) (n := 3) (Nat.le_of_ble_eq_true rfl)
  rw [lg_entry_eq]
  generalize (lg_sl ([.ref x0, .int (nI i)]) ++ List.replicate (3 - (lg_sl ([.ref x0, .int (nI i)])).length) Slot.unset).toArray = ls at hl ⊢
  have hl : lv_has ls 3 [(0, .ref x0), (1, .int (nI i))] := hl
  refine lv_aload_n hx hb dX6_isLetterAt_0 rfl (lv_at hl 0 rfl) ?_
  refine lv_iload_n hx hb dX6_isLetterAt_1 rfl (lv_at hl 1 rfl) ?_
  refine ro_i (D := D) (va_runV (As := [.int (nI i)]) (rest := []) ⟨hx, hb, hml, hown, hts⟩ ((y_byteAt l D k st lo x0 x1 tz ta na fn fb fx i (by first | assumption | omega) (by first | assumption | omega)) s.heap.size) (cwV 1 hts (gV tw_379 tw_380 tw_381 tw_80 tw_382) rfl rfl rfl (by decide +kernel) ⟨Nat.le_of_ble_eq_true rfl, Nat.le_of_ble_eq_true rfl⟩) (pV hS hAlo hlo hP hK hDL hZ [0, 1] (by decide) rfl (ci := 6) (q := (RX6, TX6, 6)) (q0 := 0) rfl rfl) rfl rfl hl.1 rfl (lv_room (Nat.le_of_ble_eq_true rfl)) dX6_isLetterAt_2 ⟨Nat.le_of_ble_eq_true rfl, Nat.le_of_ble_eq_true rfl⟩) hS hA hP (fun r_1 H locs hw_1 hP hS => ?_)
  try dsimp only at hw_1
  refine lv_istore_n (lv' := [(2, .int r_1), (0, .ref x0), (1, .int (nI i))]) hx hb dX6_isLetterAt_5 rfl hl (by decide) rfl (fun ls hl => ?_)
  refine lv_iload_n hx hb dX6_isLetterAt_6 rfl (lv_at hl 0 rfl) ?_
  refine lv_bipush (v := 97) hx hb dX6_isLetterAt_7 (by decide) ?_
  refine lv_icmp_lt (tgt := 22) hx hb dX6_isLetterAt_9 (by decide) (fun c_2 => ?_) (fun c_2 => ?_)
  · refine lv_iconst (v := 0) hx hb dX6_isLetterAt_22 (by decide) ?_
    exact W.zret (v := 0) (ty := .boolean) hx hb hr rfl (fun t ht hW => ⟨⟨0, (), rfl, .inr ⟨rfl, fun h => absurd (show (97 : Int32) ≤ r_1 by rw [hw_1]; exact h.1) (Int32.not_le.mpr c_2)⟩, trivial⟩, hS.F ht⟩) hS.2.2 dX6_isLetterAt_23
  · refine lv_iload_n hx hb dX6_isLetterAt_12 rfl (lv_at hl 0 rfl) ?_
    refine lv_bipush (v := 122) hx hb dX6_isLetterAt_13 (by decide) ?_
    refine lv_icmp_gt (tgt := 22) hx hb dX6_isLetterAt_15 (by decide) (fun c_3 => ?_) (fun c_3 => ?_)
    · refine lv_iconst (v := 0) hx hb dX6_isLetterAt_22 (by decide) ?_
      exact W.zret (v := 0) (ty := .boolean) hx hb hr rfl (fun t ht hW => ⟨⟨0, (), rfl, .inr ⟨rfl, fun h => absurd (show r_1 ≤ 122 by rw [hw_1]; exact h.2) (Int32.not_le.mpr c_3)⟩, trivial⟩, hS.F ht⟩) hS.2.2 dX6_isLetterAt_23
    · refine lv_iconst (v := 1) hx hb dX6_isLetterAt_18 (by decide) ?_
      refine lv_goto (tgt := 23) hx hb dX6_isLetterAt_19 (by decide) ?_
      exact W.zret (v := 1) (ty := .boolean) hx hb hr rfl (fun t ht hW => ⟨⟨1, (), rfl, .inl ⟨rfl, by rw [← hw_1]; exact ⟨Int32.not_lt.mp c_2, Int32.not_lt.mp c_3⟩⟩, trivial⟩, hS.F ht⟩) hS.2.2 dX6_isLetterAt_23


set_option maxHeartbeats 4000000 in
set_option maxRecDepth 100000 in
theorem y_isFigureAt (l : Launch) (D : va_G) (k : Nat → ClassId) (st : Nat → Nat) (lo : Nat) (x0 : Nat) (x1 : Nat) (tz : Nat) (ta : Nat) (na : Int32) (fn : Int32) (fb : Int32) (fx : Nat → Int32) (i : Nat) (hz : tz ≤ 240) (hi : i < 2 ^ 31) : CRi l D k st lo yX6_isFigureAt cX6_isFigureAt 3 (some .boolean) ({ frames := 1, cells := 0, slots := 0, locals := 21 }) [.ref x0, .int (nI i)] [(x0, .inr (6, (fX6 x1 (nI tz) (nI ta) na fn fb))), (aB k x1 240 fx)] (fun r => isB r (byF (bF fx) tz i) 48 57) := by
  intro sz
  refine Met.ofW (cc := cX6_isFigureAt) (maxL := 3) (ret := (some .boolean)) (by decide) rfl ?_
  intro p e s m args below meth c s₁ B hml hv
  obtain ⟨rfl, hsz, hlo, hP, hK, hDL, hZ⟩ := hv
  have hx := B.exec
  have hb := B.bytes
  have hr := B.returns
  have hts := WS_ts B.pre
  have hown : s.vm.findClass RX6 = some m.cls := findClass_of_methodNamed B.named
  have hlocks := B.notSynchronized
  subst hsz
  have hA : ∀ q : Nat, s.heap.size ≤ q → (fun q : Nat => s.heap.size ≤ q) q := fun _ h => h
  have hAlo : ∀ q : Nat, (fun q : Nat => s.heap.size ≤ q) q → lo ≤ q := fun q h => Nat.le_trans hlo h
  have hS : va_S (fun q : Nat => s.heap.size ≤ q) s.heap s.heap [] := va_S.rf
  have hl := lv_entry ([.ref x0, .int (nI i)]) (n := 3) (Nat.le_of_ble_eq_true rfl)
  rw [lg_entry_eq]
  generalize (lg_sl ([.ref x0, .int (nI i)]) ++ List.replicate (3 - (lg_sl ([.ref x0, .int (nI i)])).length) Slot.unset).toArray = ls at hl ⊢
  have hl : lv_has ls 3 [(0, .ref x0), (1, .int (nI i))] := hl
  refine lv_aload_n hx hb dX6_isFigureAt_0 rfl (lv_at hl 0 rfl) ?_
  refine lv_iload_n hx hb dX6_isFigureAt_1 rfl (lv_at hl 1 rfl) ?_
  refine ro_i (D := D) (va_runV (As := [.int (nI i)]) (rest := []) ⟨hx, hb, hml, hown, hts⟩ ((y_byteAt l D k st lo x0 x1 tz ta na fn fb fx i (by first | assumption | omega) (by first | assumption | omega)) s.heap.size) (cwV 1 hts (gV tw_379 tw_380 tw_381 tw_80 tw_382) rfl rfl rfl (by decide +kernel) ⟨Nat.le_of_ble_eq_true rfl, Nat.le_of_ble_eq_true rfl⟩) (pV hS hAlo hlo hP hK hDL hZ [0, 1] (by decide) rfl (ci := 6) (q := (RX6, TX6, 6)) (q0 := 0) rfl rfl) rfl rfl hl.1 rfl (lv_room (Nat.le_of_ble_eq_true rfl)) dX6_isFigureAt_2 ⟨Nat.le_of_ble_eq_true rfl, Nat.le_of_ble_eq_true rfl⟩) hS hA hP (fun r_1 H locs hw_1 hP hS => ?_)
  try dsimp only at hw_1
  refine lv_istore_n (lv' := [(2, .int r_1), (0, .ref x0), (1, .int (nI i))]) hx hb dX6_isFigureAt_5 rfl hl (by decide) rfl (fun ls hl => ?_)
  refine lv_iload_n hx hb dX6_isFigureAt_6 rfl (lv_at hl 0 rfl) ?_
  refine lv_bipush (v := 48) hx hb dX6_isFigureAt_7 (by decide) ?_
  refine lv_icmp_lt (tgt := 22) hx hb dX6_isFigureAt_9 (by decide) (fun c_2 => ?_) (fun c_2 => ?_)
  · refine lv_iconst (v := 0) hx hb dX6_isFigureAt_22 (by decide) ?_
    exact W.zret (v := 0) (ty := .boolean) hx hb hr rfl (fun t ht hW => ⟨⟨0, (), rfl, .inr ⟨rfl, fun h => absurd (show (48 : Int32) ≤ r_1 by rw [hw_1]; exact h.1) (Int32.not_le.mpr c_2)⟩, trivial⟩, hS.F ht⟩) hS.2.2 dX6_isFigureAt_23
  · refine lv_iload_n hx hb dX6_isFigureAt_12 rfl (lv_at hl 0 rfl) ?_
    refine lv_bipush (v := 57) hx hb dX6_isFigureAt_13 (by decide) ?_
    refine lv_icmp_gt (tgt := 22) hx hb dX6_isFigureAt_15 (by decide) (fun c_3 => ?_) (fun c_3 => ?_)
    · refine lv_iconst (v := 0) hx hb dX6_isFigureAt_22 (by decide) ?_
      exact W.zret (v := 0) (ty := .boolean) hx hb hr rfl (fun t ht hW => ⟨⟨0, (), rfl, .inr ⟨rfl, fun h => absurd (show r_1 ≤ 57 by rw [hw_1]; exact h.2) (Int32.not_le.mpr c_3)⟩, trivial⟩, hS.F ht⟩) hS.2.2 dX6_isFigureAt_23
    · refine lv_iconst (v := 1) hx hb dX6_isFigureAt_18 (by decide) ?_
      refine lv_goto (tgt := 23) hx hb dX6_isFigureAt_19 (by decide) ?_
      exact W.zret (v := 1) (ty := .boolean) hx hb hr rfl (fun t ht hW => ⟨⟨1, (), rfl, .inl ⟨rfl, by rw [← hw_1]; exact ⟨Int32.not_lt.mp c_2, Int32.not_lt.mp c_3⟩⟩, trivial⟩, hS.F ht⟩) hS.2.2 dX6_isFigureAt_23


set_option maxHeartbeats 4000000 in
set_option maxRecDepth 100000 in
theorem y_takeWord (l : Launch) (D : va_G) (k : Nat → ClassId) (st : Nat → Nat) (lo : Nat) (x0 : Nat) (x1 : Nat) (tz : Nat) (ta : Nat) (na : Int32) (fn : Int32) (fb : Int32) (fx : Nat → Int32) (wi : Nat) (ht : ta ≤ tz) (hz : tz ≤ 240) (hwi : wi < 14) : CWi l D k st lo yX6_takeWord cX6_takeWord 4 (some .boolean) ({ frames := 4, cells := 0, slots := 0, locals := 85 }) 0 0 [.ref x0, .ref (st (100 + wi))] [(x0, .inr (6, (fX6 x1 (nI tz) (nI ta) na fn fb))), (aB k x1 240 fx)] (fun (r : Int32) (ta_ : Nat) => ((r = 1 ∧ letA (bF fx) tz (skA (bF fx) tz ta) = (sByt.getD wi []) ∧ ta_ = skA (bF fx) tz ta + sLen.getD wi 0) ∨ (r = 0 ∧ ¬ letA (bF fx) tz (skA (bF fx) tz ta) = (sByt.getD wi []) ∧ ta_ = skA (bF fx) tz ta)) ∧ ta ≤ ta_ ∧ ta_ ≤ tz) (fun (ta_ : Nat) => [(x0, .inr (6, (fX6 x1 (nI tz) (nI ta_) na fn fb))), (aB k x1 240 fx)]) := by
  intro sz
  refine Met.ofW (cc := cX6_takeWord) (maxL := 4) (ret := (some .boolean)) (by decide) rfl ?_
  intro p e s m args below meth c s₁ B hml hv
  obtain ⟨rfl, hsz, hlo, hP, hK, hDL, hZ⟩ := hv
  have hx := B.exec
  have hb := B.bytes
  have hr := B.returns
  have hts := WS_ts B.pre
  have hown : s.vm.findClass RX6 = some m.cls := findClass_of_methodNamed B.named
  have hlocks := B.notSynchronized
  subst hsz
  have hD := hDL.self (sz := s.heap.size)
  have hAlo := A_lo hDL hlo
  generalize hAe : va_A [(x0, .inr (6, (fX6 x1 (nI tz) (nI ta) na fn fb))), (aB k x1 240 fx)] s.heap.size = A at hD hAlo ⊢
  have hA : ∀ q : Nat, s.heap.size ≤ q → A q := fun q h => by rw [← hAe]; exact Or.inr h
  have hS : va_S A s.heap s.heap [] := va_S.rf
  have hl := lv_entry ([.ref x0, .ref (st (100 + wi))]) (n := 4) (Nat.le_of_ble_eq_true rfl)
  rw [lg_entry_eq]
  generalize (lg_sl ([.ref x0, .ref (st (100 + wi))]) ++ List.replicate (4 - (lg_sl ([.ref x0, .ref (st (100 + wi))])).length) Slot.unset).toArray = ls at hl ⊢
  have hl : lv_has ls 4 [(0, .ref x0), (1, .ref (st (100 + wi)))] := hl
  have hsl := sLen_le wi hwi
  refine lv_aload_n hx hb dX6_takeWord_0 rfl (lv_at hl 0 rfl) ?_
  refine rw_v (D := D) (wr := []) (va_runV (As := []) (rest := []) ⟨hx, hb, hml, hown, hts⟩ ((y_skip l D k st lo x0 x1 tz ta na fn fb fx (by first | assumption | omega) (by first | assumption | omega)) s.heap.size) (cwV 0 hts (gV tw_375 tw_376 tw_377 tw_80 tw_378) rfl rfl rfl (by decide +kernel) ⟨Nat.le_of_ble_eq_true rfl, Nat.le_of_ble_eq_true rfl⟩) (pV hS hAlo hlo hP hK (va_Dlo hD hAlo) hZ [0, 1] (by decide) rfl (ci := 6) (q := (RX6, TX6, 6)) (q0 := 0) rfl rfl) rfl rfl hl.1 rfl (lv_room (Nat.le_of_ble_eq_true rfl)) dX6_takeWord_1 ⟨Nat.le_of_ble_eq_true rfl, Nat.le_of_ble_eq_true rfl⟩) hS hA hP hD [0, 1] [] rfl rfl (by decide) (by decide) (fun u H locs hw_1 hP hD hS => ?_)
  obtain ⟨ta__1, rfl⟩ : ∃ z, z = u := ⟨_, rfl⟩
  have hQ9 := pd_mk [(x0, .inr (6, (fX6 x1 (nI tz) (nI ta__1) na fn fb))), (aB k x1 240 fx)] hP hD
  clear hP hD
  obtain ⟨hP, hD⟩ := hQ9
  try dsimp only at hw_1
  refine lv_aload_n hx hb dX6_takeWord_4 rfl (lv_at hl 0 rfl) ?_
  refine va_get (D := D) (ci := 6) (v := .int (nI ta__1)) (C := RX6) (T := TX6) (N := 6) hx hb hts inX6 hown hK hP 0 rfl rfl 2 (by decide) (hts _ tw_113) (fun _ h9 => h9) rfl dX6_takeWord_5 ?_
  refine lv_aload_n hx hb dX6_takeWord_8 rfl (lv_at hl 1 rfl) ?_
  refine ro_i (D := D) (va_runV (As := []) (rest := [.int (nI ta__1)]) ⟨hx, hb, hml, hown, hts⟩ ((x_length l D k st lo wi (by first | assumption | omega)) H.size) (cwV 0 hts (gV tw_403 tw_404 tw_405 tw_89 tw_406) rfl rfl rfl (by decide +kernel) ⟨Nat.le_of_ble_eq_true rfl, Nat.le_of_ble_eq_true rfl⟩) (pVs (i := wi) (by omega) hS hAlo hlo hP hK (va_Dlo hD hAlo) hZ [] (by decide) rfl) rfl rfl hl.1 rfl (lv_room (Nat.le_of_ble_eq_true rfl)) dX6_takeWord_9 ⟨Nat.le_of_ble_eq_true rfl, Nat.le_of_ble_eq_true rfl⟩) hS hA hP (fun r_2 H locs hw_2 hP hS => ?_)
  try dsimp only at hw_2
  subst hw_2
  refine lv_iadd hx hb dX6_takeWord_12 ?_
  refine lv_ti (y := (nI (ta__1 + sLen.getD wi 0))) (nI_add ta__1 (sLen.getD wi 0)) ?_
  refine lv_istore_n (lv' := [(2, .int (nI (ta__1 + sLen.getD wi 0))), (0, .ref x0), (1, .ref (st (100 + wi)))]) hx hb dX6_takeWord_13 rfl hl (by decide) rfl (fun ls hl => ?_)
  refine lv_iconst (v := 0) hx hb dX6_takeWord_14 (by decide) ?_
  refine lv_istore_n (lv' := [(3, .int 0), (2, .int (nI (ta__1 + sLen.getD wi 0))), (0, .ref x0), (1, .ref (st (100 + wi)))]) hx hb dX6_takeWord_15 rfl hl (by decide) rfl (fun ls hl => ?_)
  refine W_loop (σ := Nat) (fun (n_ : Nat) (kk_3 : Nat) (H : Heap) (locs : List Loc) (ls : Array Slot) => n_ = sLen.getD wi 0 - kk_3 ∧ ((letA (bF fx) tz (ta__1 + kk_3) = (sByt.getD wi []).drop kk_3 ↔ letA (bF fx) tz ta__1 = (sByt.getD wi [])) ∧ ta__1 + kk_3 ≤ tz ∧ kk_3 ≤ sLen.getD wi 0) ∧ va_P D classes [(x0, .inr (6, (fX6 x1 (nI tz) (nI ta__1) na fn fb))), (aB k x1 240 fx)] H ∧ va_D A [(x0, .inr (6, (fX6 x1 (nI tz) (nI ta__1) na fn fb))), (aB k x1 240 fx)] ∧ va_S A s.heap H locs ∧ lv_has ls 4 [(3, .int (nI kk_3)), (2, .int (nI (ta__1 + sLen.getD wi 0))), (0, .ref x0), (1, .ref (st (100 + wi)))]) (fun n_3 x_3 H locs ls hI ih_3 => ?_) _ 0 ⟨rfl, ⟨Iff.rfl, by omega, by omega⟩, hP, hD, hS, (lv_sub hl [0, 1, 2, 3] rfl)⟩
  obtain ⟨kk_3, rfl⟩ : ∃ z, z = x_3 := ⟨_, rfl⟩
  obtain ⟨hm_3, hv_3, hP, hD, hS, hl⟩ := hI
  subst hm_3
  refine lv_iload_n hx hb dX6_takeWord_16 rfl (lv_at hl 0 rfl) ?_
  refine lv_aload_n hx hb dX6_takeWord_17 rfl (lv_at hl 3 rfl) ?_
  refine ro_i (D := D) (va_runV (As := []) (rest := [.int (nI kk_3)]) ⟨hx, hb, hml, hown, hts⟩ ((x_length l D k st lo wi (by first | assumption | omega)) H.size) (cwV 0 hts (gV tw_403 tw_404 tw_405 tw_89 tw_406) rfl rfl rfl (by decide +kernel) ⟨Nat.le_of_ble_eq_true rfl, Nat.le_of_ble_eq_true rfl⟩) (pVs (i := wi) (by omega) hS hAlo hlo hP hK (va_Dlo hD hAlo) hZ [] (by decide) rfl) rfl rfl hl.1 rfl (lv_room (Nat.le_of_ble_eq_true rfl)) dX6_takeWord_18 ⟨Nat.le_of_ble_eq_true rfl, Nat.le_of_ble_eq_true rfl⟩) hS hA hP (fun r_4 H locs hw_4 hP hS => ?_)
  try dsimp only at hw_4
  subst hw_4
  refine lv_icmp_ge (tgt := 50) hx hb dX6_takeWord_21 (by decide) (fun c_5 => ?_) (fun c_5 => ?_)
  · have c_5 := (nI_leI (a := (sLen.getD wi 0)) (b := kk_3) (by omega) (by omega)).mp c_5
    refine lv_aload_n hx hb dX6_takeWord_50 rfl (lv_at hl 2 rfl) ?_
    refine lv_iload_n hx hb dX6_takeWord_51 rfl (lv_at hl 1 rfl) ?_
    refine ro_i (D := D) (va_runV (As := [.int (nI (ta__1 + sLen.getD wi 0))]) (rest := []) ⟨hx, hb, hml, hown, hts⟩ ((y_isLetterAt l D k st lo x0 x1 tz ta__1 na fn fb fx (ta__1 + sLen.getD wi 0) (by first | assumption | omega) (by first | assumption | omega)) H.size) (cwV 1 hts (gV tw_451 tw_452 tw_453 tw_80 tw_454) rfl rfl rfl (by decide +kernel) ⟨Nat.le_of_ble_eq_true rfl, Nat.le_of_ble_eq_true rfl⟩) (pV hS hAlo hlo hP hK (va_Dlo hD hAlo) hZ [0, 1] (by decide) rfl (ci := 6) (q := (RX6, TX6, 6)) (q0 := 0) rfl rfl) rfl rfl hl.1 rfl (lv_room (Nat.le_of_ble_eq_true rfl)) dX6_takeWord_52 ⟨Nat.le_of_ble_eq_true rfl, Nat.le_of_ble_eq_true rfl⟩) hS hA hP (fun r_6 H locs hw_6 hP hS => ?_)
    try dsimp only at hw_6
    rcases hw_6 with ⟨rfl, hw_6⟩ | ⟨rfl, hw_6⟩
    · refine lv_if_eq (tgt := 60) hx hb dX6_takeWord_55 (by decide) (fun h => absurd h (by decide)) (fun _ => ?_)
      refine lv_iconst (v := 0) hx hb dX6_takeWord_58 (by decide) ?_
      obtain ⟨hP9, hD9⟩ := pd_sub [(x0, .inr (6, (fX6 x1 (nI tz) (nI ta__1) na fn fb))), (aB k x1 240 fx)] [0, 1] hP hD (by decide) rfl
      exact W.zret (v := 0) (ty := .boolean) hx hb hr rfl (fun t ht hW => ⟨⟨0, ta__1, rfl, ⟨.inr ⟨rfl, (by rw [← hw_1.1]; exact tw_end0 (by rw [sKl wi hwi]; omega) hv_3.1 (by rw [sKl wi hwi]; exact hw_6)), hw_1.1⟩, by omega, by omega⟩, by rw [ht]; exact hP9, hD9⟩, hS.F ht⟩) hS.2.2 dX6_takeWord_59
    · refine lv_if_eq (tgt := 60) hx hb dX6_takeWord_55 (by decide) (fun _ => ?_) (fun h => absurd (by decide) h)
      refine lv_aload_n hx hb dX6_takeWord_60 rfl (lv_at hl 2 rfl) ?_
      refine lv_iload_n hx hb dX6_takeWord_61 rfl (lv_at hl 1 rfl) ?_
      refine va_put (D := D) (ci := 6) (v := .int (nI (ta__1 + sLen.getD wi 0))) (ty := .int) (C := RX6) (T := TX6) (N := 6) hx hb hts inX6 tyX6 tyX6_ok nmX6 hown hK hP hD hS 0 rfl rfl 2 (by decide) (hts _ tw_113) (fun _ h9 => h9) rfl (by decide +kernel) rfl rfl (Nat.le_of_ble_eq_true rfl) dX6_takeWord_62 (fun H locs hP hD hS => ?_)
      have hQ9 := pd_mk [(x0, .inr (6, (fX6 x1 (nI tz) (nI (ta__1 + sLen.getD wi 0)) na fn fb))), (aB k x1 240 fx)] hP hD
      clear hP hD
      obtain ⟨hP, hD⟩ := hQ9
      refine lv_iconst (v := 1) hx hb dX6_takeWord_65 (by decide) ?_
      obtain ⟨hP9, hD9⟩ := pd_sub [(x0, .inr (6, (fX6 x1 (nI tz) (nI (ta__1 + sLen.getD wi 0)) na fn fb))), (aB k x1 240 fx)] [0, 1] hP hD (by decide) rfl
      exact W.zret (v := 1) (ty := .boolean) hx hb hr rfl (fun t ht hW => ⟨⟨1, (ta__1 + sLen.getD wi 0), rfl, ⟨.inl ⟨rfl, (by rw [← hw_1.1]; exact tw_end1 (by rw [sKl wi hwi]; omega) hv_3.1 (by rw [sKl wi hwi]; exact hw_6)), by rw [← hw_1.1]⟩, by omega, by omega⟩, by rw [ht]; exact hP9, hD9⟩, hS.F ht⟩) hS.2.2 dX6_takeWord_66
  · have c_5 : ¬ ((sLen.getD wi 0) ≤ kk_3) := fun h => c_5 ((nI_leI (a := (sLen.getD wi 0)) (b := kk_3) (by omega) (by omega)).mpr h)
    refine lv_aload_n hx hb dX6_takeWord_24 rfl (lv_at hl 2 rfl) ?_
    refine lv_aload_n hx hb dX6_takeWord_25 rfl (lv_at hl 2 rfl) ?_
    refine va_get (D := D) (ci := 6) (v := .int (nI ta__1)) (C := RX6) (T := TX6) (N := 6) hx hb hts inX6 hown hK hP 0 rfl rfl 2 (by decide) (hts _ tw_113) (fun _ h9 => h9) rfl dX6_takeWord_26 ?_
    refine lv_iload_n hx hb dX6_takeWord_29 rfl (lv_at hl 0 rfl) ?_
    refine lv_iadd hx hb dX6_takeWord_30 ?_
    refine lv_ti (y := (nI (ta__1 + kk_3))) (nI_add ta__1 kk_3) ?_
    refine ro_i (D := D) (va_runV (As := [.int (nI (ta__1 + kk_3))]) (rest := []) ⟨hx, hb, hml, hown, hts⟩ ((y_byteAt l D k st lo x0 x1 tz ta__1 na fn fb fx (ta__1 + kk_3) (by first | assumption | omega) (by first | assumption | omega)) H.size) (cwV 1 hts (gV tw_379 tw_380 tw_381 tw_80 tw_382) rfl rfl rfl (by decide +kernel) ⟨Nat.le_of_ble_eq_true rfl, Nat.le_of_ble_eq_true rfl⟩) (pV hS hAlo hlo hP hK (va_Dlo hD hAlo) hZ [0, 1] (by decide) rfl (ci := 6) (q := (RX6, TX6, 6)) (q0 := 0) rfl rfl) rfl rfl hl.1 rfl (lv_room (Nat.le_of_ble_eq_true rfl)) dX6_takeWord_31 ⟨Nat.le_of_ble_eq_true rfl, Nat.le_of_ble_eq_true rfl⟩) hS hA hP (fun r_7 H locs hw_7 hP hS => ?_)
    try dsimp only at hw_7
    refine lv_aload_n hx hb dX6_takeWord_34 rfl (lv_at hl 3 rfl) ?_
    refine lv_iload_n hx hb dX6_takeWord_35 rfl (lv_at hl 0 rfl) ?_
    refine rw_i (D := D) (wr := [(x0, .inr (6, (fX6 x1 (nI tz) (nI ta__1) na fn fb))), (aB k x1 240 fx)]) (va_runV (As := [.int (nI kk_3)]) (rest := [.int r_7]) ⟨hx, hb, hml, hown, hts⟩ ((y_charAt l D k st lo wi kk_3 (by first | assumption | omega) (by first | assumption | omega)) H.size) (cwV 1 hts (gV tw_413 tw_414 tw_415 tw_89 tw_416) rfl rfl rfl (by decide +kernel) ⟨Nat.le_of_ble_eq_true rfl, Nat.le_of_ble_eq_true rfl⟩) (pVs (i := wi) (by omega) hS hAlo hlo hP hK (va_Dlo hD hAlo) hZ [] (by decide) rfl) rfl rfl hl.1 rfl (lv_room (Nat.le_of_ble_eq_true rfl)) dX6_takeWord_36 ⟨Nat.le_of_ble_eq_true rfl, Nat.le_of_ble_eq_true rfl⟩) hS hA hP hD [] [0, 1] rfl rfl (by decide) (by decide) (fun r_8 u H locs hw_8 hP hD hS => ?_)
    have hQ9 := pd_mk [(x0, .inr (6, (fX6 x1 (nI tz) (nI ta__1) na fn fb))), (aB k x1 240 fx)] hP hD
    clear hP hD
    obtain ⟨hP, hD⟩ := hQ9
    try dsimp only at hw_8
    refine lv_icmp_eq (tgt := 44) hx hb dX6_takeWord_39 (by decide) (fun c_9 => ?_) (fun c_9 => ?_)
    · refine lv_iinc (v := (nI (kk_3 + 1))) (lv' := [(3, .int (nI (kk_3 + 1))), (2, .int (nI (ta__1 + sLen.getD wi 0))), (0, .ref x0), (1, .ref (st (100 + wi)))]) hx hb dX6_takeWord_44 hl (k := 0) rfl (nI_add kk_3 1) (by decide) rfl (fun ls hl => ?_)
      refine lv_goto (tgt := 16) hx hb dX6_takeWord_47 (by decide) ?_
      have hst_10 := tw_step (K := (sByt.getD wi [])) (sKa wi hwi) (by rw [sKl wi hwi]; omega) hw_7 hw_8 c_9 hv_3.1
      exact ih_3 _ (kk_3 + 1) _ _ _ (by omega) ⟨rfl, ⟨hst_10.1, hst_10.2, by omega⟩, hP, hD, hS, (lv_sub hl [0, 1, 2, 3] rfl)⟩
    · refine lv_iconst (v := 0) hx hb dX6_takeWord_42 (by decide) ?_
      obtain ⟨hP9, hD9⟩ := pd_sub [(x0, .inr (6, (fX6 x1 (nI tz) (nI ta__1) na fn fb))), (aB k x1 240 fx)] [0, 1] hP hD (by decide) rfl
      exact W.zret (v := 0) (ty := .boolean) hx hb hr rfl (fun t ht hW => ⟨⟨0, ta__1, rfl, ⟨.inr ⟨rfl, (by rw [← hw_1.1]; exact tw_no (K := (sByt.getD wi [])) (sKa wi hwi) (by rw [sKl wi hwi]; omega) hw_7 hw_8 c_9 hv_3.1), hw_1.1⟩, by omega, by omega⟩, by rw [ht]; exact hP9, hD9⟩, hS.F ht⟩) hS.2.2 dX6_takeWord_43


set_option maxHeartbeats 4000000 in
set_option maxRecDepth 100000 in
theorem y_fail (l : Launch) (D : va_G) (k : Nat → ClassId) (st : Nat → Nat) (lo : Nat) (x0 : Nat) (x1 : Nat) (tz : Nat) (ta : Nat) (na : Int32) (fn : Int32) (fb : Int32) (p0 : Int32) (p1 : Int32) (hp0 : ¬ p0 = 0) : CWv l D k st lo yX6_fail cX6_fail 3 none ({ frames := 0, cells := 0, slots := 0, locals := 0 }) 0 0 [.ref x0, .int p0, .int p1] [(x0, .inr (6, (fX6 x1 (nI tz) (nI ta) na fn fb)))] (fun (u : Int32 × Int32) => match u with | (fn_, fb_) => ¬ fn_ = 0 ∧ (fn = 0 → fn_ = p0 ∧ fb_ = p1) ∧ (¬ fn = 0 → fn_ = fn ∧ fb_ = fb)) (fun (u : Int32 × Int32) => match u with | (fn_, fb_) => [(x0, .inr (6, (fX6 x1 (nI tz) (nI ta) na fn_ fb_)))]) := by
  intro sz
  refine Met.ofW (cc := cX6_fail) (maxL := 3) (ret := none) (by decide) rfl ?_
  intro p e s m args below meth c s₁ B hml hv
  obtain ⟨rfl, hsz, hlo, hP, hK, hDL, hZ⟩ := hv
  have hx := B.exec
  have hb := B.bytes
  have hr := B.returns
  have hts := WS_ts B.pre
  have hown : s.vm.findClass RX6 = some m.cls := findClass_of_methodNamed B.named
  have hlocks := B.notSynchronized
  subst hsz
  have hD := hDL.self (sz := s.heap.size)
  have hAlo := A_lo hDL hlo
  generalize hAe : va_A [(x0, .inr (6, (fX6 x1 (nI tz) (nI ta) na fn fb)))] s.heap.size = A at hD hAlo ⊢
  have hA : ∀ q : Nat, s.heap.size ≤ q → A q := fun q h => by rw [← hAe]; exact Or.inr h
  have hS : va_S A s.heap s.heap [] := va_S.rf
  have hl := lv_entry ([.ref x0, .int p0, .int p1]) (n := 3) (Nat.le_of_ble_eq_true rfl)
  rw [lg_entry_eq]
  generalize (lg_sl ([.ref x0, .int p0, .int p1]) ++ List.replicate (3 - (lg_sl ([.ref x0, .int p0, .int p1])).length) Slot.unset).toArray = ls at hl ⊢
  have hl : lv_has ls 3 [(0, .ref x0), (1, .int p0), (2, .int p1)] := hl
  refine lv_aload_n hx hb dX6_fail_0 rfl (lv_at hl 0 rfl) ?_
  refine va_get (D := D) (ci := 6) (v := .int fn) (C := RX6) (T := TX6) (N := 6) hx hb hts inX6 hown hK hP 0 rfl rfl 4 (by decide) (hts _ tw_119) (fun _ h9 => h9) rfl dX6_fail_1 ?_
  refine lv_if_ne (tgt := 17) hx hb dX6_fail_4 (by decide) (fun c_1 => ?_) (fun c_1 => ?_)
  · obtain ⟨hP9, hD9⟩ := pd_sub [(x0, .inr (6, (fX6 x1 (nI tz) (nI ta) na fn fb)))] [0] hP hD (by decide) rfl
    exact W.vret hx hb hr (fun t ht hW => ⟨⟨(fn, fb), rfl, ⟨c_1, fun h => absurd h c_1, fun _ => ⟨rfl, rfl⟩⟩, by rw [ht]; exact hP9, hD9⟩, hS.F ht⟩) hS.2.2 dX6_fail_17
  · refine lv_aload_n hx hb dX6_fail_7 rfl (lv_at hl 0 rfl) ?_
    refine lv_iload_n hx hb dX6_fail_8 rfl (lv_at hl 1 rfl) ?_
    refine va_put (D := D) (ci := 6) (v := .int p0) (ty := .int) (C := RX6) (T := TX6) (N := 6) hx hb hts inX6 tyX6 tyX6_ok nmX6 hown hK hP hD hS 0 rfl rfl 4 (by decide) (hts _ tw_119) (fun _ h9 => h9) rfl (by decide +kernel) rfl rfl (Nat.le_of_ble_eq_true rfl) dX6_fail_9 (fun H locs hP hD hS => ?_)
    have hQ9 := pd_mk [(x0, .inr (6, (fX6 x1 (nI tz) (nI ta) na p0 fb)))] hP hD
    clear hP hD
    obtain ⟨hP, hD⟩ := hQ9
    refine lv_aload_n hx hb dX6_fail_12 rfl (lv_at hl 0 rfl) ?_
    refine lv_iload_n hx hb dX6_fail_13 rfl (lv_at hl 2 rfl) ?_
    refine va_put (D := D) (ci := 6) (v := .int p1) (ty := .int) (C := RX6) (T := TX6) (N := 6) hx hb hts inX6 tyX6 tyX6_ok nmX6 hown hK hP hD hS 0 rfl rfl 5 (by decide) (hts _ tw_121) (fun _ h9 => h9) rfl (by decide +kernel) rfl rfl (Nat.le_of_ble_eq_true rfl) dX6_fail_14 (fun H locs hP hD hS => ?_)
    have hQ9 := pd_mk [(x0, .inr (6, (fX6 x1 (nI tz) (nI ta) na p0 p1)))] hP hD
    clear hP hD
    obtain ⟨hP, hD⟩ := hQ9
    obtain ⟨hP9, hD9⟩ := pd_sub [(x0, .inr (6, (fX6 x1 (nI tz) (nI ta) na p0 p1)))] [0] hP hD (by decide) rfl
    exact W.vret hx hb hr (fun t ht hW => ⟨⟨(p0, p1), rfl, ⟨hp0, fun _ => ⟨rfl, rfl⟩, fun h => absurd c_1 h⟩, by rw [ht]; exact hP9, hD9⟩, hS.F ht⟩) hS.2.2 dX6_fail_17


set_option maxHeartbeats 4000000 in
set_option maxRecDepth 100000 in
theorem y_needWord (l : Launch) (D : va_G) (k : Nat → ClassId) (st : Nat → Nat) (lo : Nat) (x0 : Nat) (x1 : Nat) (tz : Nat) (ta : Nat) (na : Int32) (fn : Int32) (fb : Int32) (fx : Nat → Int32) (wi : Nat) (ht : ta ≤ tz) (hz : tz ≤ 240) (hwi : wi < 14) : CWv l D k st lo yX6_needWord cX6_needWord 2 none ({ frames := 5, cells := 0, slots := 0, locals := 108 }) 0 0 [.ref x0, .ref (st (100 + wi))] [(x0, .inr (6, (fX6 x1 (nI tz) (nI ta) na fn fb))), (aB k x1 240 fx)] (fun (u : Nat × Int32 × Int32) => match u with | (ta_, fn_, fb_) => (¬ fn = 0 → ta_ = ta ∧ fn_ = fn ∧ fb_ = fb) ∧ (fn = 0 → (fn_ = 0 ∧ wdR (bF fx) tz (sByt.getD wi []) ta = (0, 0, ta_)) ∨ (fn_ = 1 ∧ ∃ pl : Nat, wdR (bF fx) tz (sByt.getD wi []) ta = (1, pl, ta_) ∧ fb_ = nI pl)) ∧ ta ≤ ta_ ∧ ta_ ≤ tz) (fun (u : Nat × Int32 × Int32) => match u with | (ta_, fn_, fb_) => [(x0, .inr (6, (fX6 x1 (nI tz) (nI ta_) na fn_ fb_))), (aB k x1 240 fx)]) := by
  intro sz
  refine Met.ofW (cc := cX6_needWord) (maxL := 2) (ret := none) (by decide) rfl ?_
  intro p e s m args below meth c s₁ B hml hv
  obtain ⟨rfl, hsz, hlo, hP, hK, hDL, hZ⟩ := hv
  have hx := B.exec
  have hb := B.bytes
  have hr := B.returns
  have hts := WS_ts B.pre
  have hown : s.vm.findClass RX6 = some m.cls := findClass_of_methodNamed B.named
  have hlocks := B.notSynchronized
  subst hsz
  have hD := hDL.self (sz := s.heap.size)
  have hAlo := A_lo hDL hlo
  generalize hAe : va_A [(x0, .inr (6, (fX6 x1 (nI tz) (nI ta) na fn fb))), (aB k x1 240 fx)] s.heap.size = A at hD hAlo ⊢
  have hA : ∀ q : Nat, s.heap.size ≤ q → A q := fun q h => by rw [← hAe]; exact Or.inr h
  have hS : va_S A s.heap s.heap [] := va_S.rf
  have hl := lv_entry ([.ref x0, .ref (st (100 + wi))]) (n := 2) (Nat.le_of_ble_eq_true rfl)
  rw [lg_entry_eq]
  generalize (lg_sl ([.ref x0, .ref (st (100 + wi))]) ++ List.replicate (2 - (lg_sl ([.ref x0, .ref (st (100 + wi))])).length) Slot.unset).toArray = ls at hl ⊢
  have hl : lv_has ls 2 [(0, .ref x0), (1, .ref (st (100 + wi)))] := hl
  refine lv_aload_n hx hb dX6_needWord_0 rfl (lv_at hl 0 rfl) ?_
  refine ro_i (D := D) (va_runV (As := []) (rest := []) ⟨hx, hb, hml, hown, hts⟩ ((x_failed l D k st lo x0 x1 tz ta na fn fb) s.heap.size) (cwV 0 hts (gV tw_471 tw_368 tw_369 tw_80 tw_370) rfl rfl rfl (by decide +kernel) ⟨Nat.le_of_ble_eq_true rfl, Nat.le_of_ble_eq_true rfl⟩) (pV hS hAlo hlo hP hK (va_Dlo hD hAlo) hZ [0] (by decide) rfl (ci := 6) (q := (RX6, TX6, 6)) (q0 := 0) rfl rfl) rfl rfl hl.1 rfl (lv_room (Nat.le_of_ble_eq_true rfl)) dX6_needWord_1 ⟨Nat.le_of_ble_eq_true rfl, Nat.le_of_ble_eq_true rfl⟩) hS hA hP (fun r_1 H locs hw_1 hP hS => ?_)
  try dsimp only at hw_1
  rcases hw_1 with ⟨rfl, hw_1⟩ | ⟨rfl, rfl⟩
  · refine lv_if_ne (tgt := 24) hx hb dX6_needWord_4 (by decide) (fun _ => ?_) (fun h => absurd h (by decide))
    obtain ⟨hP9, hD9⟩ := pd_sub [(x0, .inr (6, (fX6 x1 (nI tz) (nI ta) na fn fb))), (aB k x1 240 fx)] [0, 1] hP hD (by decide) rfl
    exact W.vret hx hb hr (fun t ht hW => ⟨⟨(ta, fn, fb), rfl, ⟨fun _ => ⟨rfl, rfl, rfl⟩, fun h => absurd h hw_1, by omega, by omega⟩, by rw [ht]; exact hP9, hD9⟩, hS.F ht⟩) hS.2.2 dX6_needWord_24
  · refine lv_if_ne (tgt := 24) hx hb dX6_needWord_4 (by decide) (fun h => absurd (by decide) h) (fun _ => ?_)
    refine lv_aload_n hx hb dX6_needWord_7 rfl (lv_at hl 0 rfl) ?_
    refine lv_aload_n hx hb dX6_needWord_8 rfl (lv_at hl 1 rfl) ?_
    refine rw_i (D := D) (wr := []) (va_runV (As := [.ref (st (100 + wi))]) (rest := []) ⟨hx, hb, hml, hown, hts⟩ ((y_takeWord l D k st lo x0 x1 tz ta na 0 fb fx wi (by first | assumption | omega) (by first | assumption | omega) (by first | assumption | omega)) H.size) (cwV 1 hts (gV tw_486 tw_400 tw_401 tw_80 tw_402) rfl rfl rfl (by decide +kernel) ⟨Nat.le_of_ble_eq_true rfl, Nat.le_of_ble_eq_true rfl⟩) (pV hS hAlo hlo hP hK (va_Dlo hD hAlo) hZ [0, 1] (by decide) rfl (ci := 6) (q := (RX6, TX6, 6)) (q0 := 0) rfl rfl) rfl rfl hl.1 rfl (lv_room (Nat.le_of_ble_eq_true rfl)) dX6_needWord_9 ⟨Nat.le_of_ble_eq_true rfl, Nat.le_of_ble_eq_true rfl⟩) hS hA hP hD [0, 1] [] rfl rfl (by decide) (by decide) (fun r_2 u H locs hw_2 hP hD hS => ?_)
    obtain ⟨ta__2, rfl⟩ : ∃ z, z = u := ⟨_, rfl⟩
    have hQ9 := pd_mk [(x0, .inr (6, (fX6 x1 (nI tz) (nI ta__2) na 0 fb))), (aB k x1 240 fx)] hP hD
    clear hP hD
    obtain ⟨hP, hD⟩ := hQ9
    try dsimp only at hw_2
    rcases hw_2 with ⟨⟨rfl, hL_3, hT_3⟩ | ⟨rfl, hL_3, hT_3⟩, hw_2⟩
    · refine lv_if_ne (tgt := 24) hx hb dX6_needWord_12 (by decide) (fun _ => ?_) (fun h => absurd h (by decide))
      obtain ⟨hP9, hD9⟩ := pd_sub [(x0, .inr (6, (fX6 x1 (nI tz) (nI ta__2) na 0 fb))), (aB k x1 240 fx)] [0, 1] hP hD (by decide) rfl
      exact W.vret hx hb hr (fun t ht hW => ⟨⟨(ta__2, 0, fb), rfl, ⟨fun h => absurd rfl h, fun _ => .inl ⟨rfl, wdR_1 hL_3 (by rw [sKl wi hwi]; exact hT_3)⟩, by omega, by omega⟩, by rw [ht]; exact hP9, hD9⟩, hS.F ht⟩) hS.2.2 dX6_needWord_24
    · refine lv_if_ne (tgt := 24) hx hb dX6_needWord_12 (by decide) (fun h => absurd (by decide) h) (fun _ => ?_)
      refine lv_aload_n hx hb dX6_needWord_15 rfl (lv_at hl 0 rfl) ?_
      refine lv_iconst (v := 1) hx hb dX6_needWord_16 (by decide) ?_
      refine lv_aload_n hx hb dX6_needWord_17 rfl (lv_at hl 0 rfl) ?_
      refine va_get (D := D) (ci := 6) (v := .int (nI ta__2)) (C := RX6) (T := TX6) (N := 6) hx hb hts inX6 hown hK hP 0 rfl rfl 2 (by decide) (hts _ tw_113) (fun _ h9 => h9) rfl dX6_needWord_18 ?_
      refine rw_v (D := D) (wr := [(aB k x1 240 fx)]) (va_runV (As := [.int 1, .int (nI ta__2)]) (rest := []) ⟨hx, hb, hml, hown, hts⟩ ((y_fail l D k st lo x0 x1 tz ta__2 na 0 fb 1 (nI ta__2) (by decide)) H.size) (cwV 2 hts (gV tw_476 tw_456 tw_457 tw_80 tw_458) rfl rfl rfl (by decide +kernel) ⟨Nat.le_of_ble_eq_true rfl, Nat.le_of_ble_eq_true rfl⟩) (pV hS hAlo hlo hP hK (va_Dlo hD hAlo) hZ [0] (by decide) rfl (ci := 6) (q := (RX6, TX6, 6)) (q0 := 0) rfl rfl) rfl rfl hl.1 rfl (lv_room (Nat.le_of_ble_eq_true rfl)) dX6_needWord_21 ⟨Nat.le_of_ble_eq_true rfl, Nat.le_of_ble_eq_true rfl⟩) hS hA hP hD [0] [1] rfl rfl (by decide) (by decide) (fun u H locs hw_4 hP hD hS => ?_)
      obtain ⟨fn__4, fb__4⟩ := u
      have hQ9 := pd_mk [(aB k x1 240 fx), (x0, .inr (6, (fX6 x1 (nI tz) (nI ta__2) na fn__4 fb__4)))] hP hD
      clear hP hD
      obtain ⟨hP, hD⟩ := hQ9
      try dsimp only at hw_4
      obtain ⟨hs0_5, hs1_5⟩ := hw_4.2.1 rfl
      replace hs0_5 := hs0_5.symm
      subst hs0_5
      replace hs1_5 := hs1_5.symm
      subst hs1_5
      obtain ⟨hP9, hD9⟩ := pd_sub [(x0, .inr (6, (fX6 x1 (nI tz) (nI ta__2) na 1 (nI ta__2)))), (aB k x1 240 fx)] [1, 0] hP hD (by decide) rfl
      exact W.vret hx hb hr (fun t ht hW => ⟨⟨(ta__2, 1, (nI ta__2)), rfl, ⟨fun h => absurd rfl h, fun _ => .inr ⟨rfl, _, wdR_0 hL_3 hT_3, rfl⟩, by omega, by omega⟩, by rw [ht]; exact hP9, hD9⟩, hS.F ht⟩) hS.2.2 dX6_needWord_24


set_option maxHeartbeats 4000000 in
set_option maxRecDepth 100000 in
theorem y_needSemicolon (l : Launch) (D : va_G) (k : Nat → ClassId) (st : Nat → Nat) (lo : Nat) (x0 : Nat) (x1 : Nat) (tz : Nat) (ta : Nat) (na : Int32) (fn : Int32) (fb : Int32) (fx : Nat → Int32) (ht : ta ≤ tz) (hz : tz ≤ 240) : CWv l D k st lo yX6_needSemicolon cX6_needSemicolon 1 none ({ frames := 2, cells := 0, slots := 0, locals := 41 }) 0 0 [.ref x0] [(x0, .inr (6, (fX6 x1 (nI tz) (nI ta) na fn fb))), (aB k x1 240 fx)] (fun (u : Nat × Int32 × Int32) => match u with | (ta_, fn_, fb_) => (¬ fn = 0 → fn_ = fn ∧ fb_ = fb) ∧ (fn = 0 → (fn_ = 0 ∧ smR (bF fx) tz ta = (0, 0, ta_)) ∨ (fn_ = 1 ∧ ∃ pl : Nat, smR (bF fx) tz ta = (1, pl, ta_) ∧ fb_ = nI pl)) ∧ ta ≤ ta_ ∧ ta_ ≤ tz) (fun (u : Nat × Int32 × Int32) => match u with | (ta_, fn_, fb_) => [(x0, .inr (6, (fX6 x1 (nI tz) (nI ta_) na fn_ fb_))), (aB k x1 240 fx)]) := by
  intro sz
  refine Met.ofW (cc := cX6_needSemicolon) (maxL := 1) (ret := none) (by decide) rfl ?_
  intro p e s m args below meth c s₁ B hml hv
  obtain ⟨rfl, hsz, hlo, hP, hK, hDL, hZ⟩ := hv
  have hx := B.exec
  have hb := B.bytes
  have hr := B.returns
  have hts := WS_ts B.pre
  have hown : s.vm.findClass RX6 = some m.cls := findClass_of_methodNamed B.named
  have hlocks := B.notSynchronized
  subst hsz
  have hD := hDL.self (sz := s.heap.size)
  have hAlo := A_lo hDL hlo
  generalize hAe : va_A [(x0, .inr (6, (fX6 x1 (nI tz) (nI ta) na fn fb))), (aB k x1 240 fx)] s.heap.size = A at hD hAlo ⊢
  have hA : ∀ q : Nat, s.heap.size ≤ q → A q := fun q h => by rw [← hAe]; exact Or.inr h
  have hS : va_S A s.heap s.heap [] := va_S.rf
  have hl := lv_entry ([.ref x0]) (n := 1) (Nat.le_of_ble_eq_true rfl)
  rw [lg_entry_eq]
  generalize (lg_sl ([.ref x0]) ++ List.replicate (1 - (lg_sl ([.ref x0])).length) Slot.unset).toArray = ls at hl ⊢
  have hl : lv_has ls 1 [(0, .ref x0)] := hl
  rcases Decidable.em (fn = 0) with rfl | hf0
  · refine lv_aload_n hx hb dX6_needSemicolon_0 rfl (lv_at hl 0 rfl) ?_
    refine rw_v (D := D) (wr := []) (va_runV (As := []) (rest := []) ⟨hx, hb, hml, hown, hts⟩ ((y_skip l D k st lo x0 x1 tz ta na 0 fb fx (by first | assumption | omega) (by first | assumption | omega)) s.heap.size) (cwV 0 hts (gV tw_375 tw_376 tw_377 tw_80 tw_378) rfl rfl rfl (by decide +kernel) ⟨Nat.le_of_ble_eq_true rfl, Nat.le_of_ble_eq_true rfl⟩) (pV hS hAlo hlo hP hK (va_Dlo hD hAlo) hZ [0, 1] (by decide) rfl (ci := 6) (q := (RX6, TX6, 6)) (q0 := 0) rfl rfl) rfl rfl hl.1 rfl (lv_room (Nat.le_of_ble_eq_true rfl)) dX6_needSemicolon_1 ⟨Nat.le_of_ble_eq_true rfl, Nat.le_of_ble_eq_true rfl⟩) hS hA hP hD [0, 1] [] rfl rfl (by decide) (by decide) (fun u H locs hw_1 hP hD hS => ?_)
    obtain ⟨ta__1, rfl⟩ : ∃ z, z = u := ⟨_, rfl⟩
    have hQ9 := pd_mk [(x0, .inr (6, (fX6 x1 (nI tz) (nI ta__1) na 0 fb))), (aB k x1 240 fx)] hP hD
    clear hP hD
    obtain ⟨hP, hD⟩ := hQ9
    try dsimp only at hw_1
    refine lv_aload_n hx hb dX6_needSemicolon_4 rfl (lv_at hl 0 rfl) ?_
    refine lv_aload_n hx hb dX6_needSemicolon_5 rfl (lv_at hl 0 rfl) ?_
    refine va_get (D := D) (ci := 6) (v := .int (nI ta__1)) (C := RX6) (T := TX6) (N := 6) hx hb hts inX6 hown hK hP 0 rfl rfl 2 (by decide) (hts _ tw_113) (fun _ h9 => h9) rfl dX6_needSemicolon_6 ?_
    refine ro_i (D := D) (va_runV (As := [.int (nI ta__1)]) (rest := []) ⟨hx, hb, hml, hown, hts⟩ ((y_byteAt l D k st lo x0 x1 tz ta__1 na 0 fb fx ta__1 (by first | assumption | omega) (by first | assumption | omega)) H.size) (cwV 1 hts (gV tw_379 tw_380 tw_381 tw_80 tw_382) rfl rfl rfl (by decide +kernel) ⟨Nat.le_of_ble_eq_true rfl, Nat.le_of_ble_eq_true rfl⟩) (pV hS hAlo hlo hP hK (va_Dlo hD hAlo) hZ [0, 1] (by decide) rfl (ci := 6) (q := (RX6, TX6, 6)) (q0 := 0) rfl rfl) rfl rfl hl.1 rfl (lv_room (Nat.le_of_ble_eq_true rfl)) dX6_needSemicolon_9 ⟨Nat.le_of_ble_eq_true rfl, Nat.le_of_ble_eq_true rfl⟩) hS hA hP (fun r_2 H locs hw_2 hP hS => ?_)
    try dsimp only at hw_2
    refine lv_bipush (v := 59) hx hb dX6_needSemicolon_12 (by decide) ?_
    refine lv_icmp_ne (tgt := 30) hx hb dX6_needSemicolon_14 (by decide) (fun c_3 => ?_) (fun c_3 => ?_)
    · refine lv_aload_n hx hb dX6_needSemicolon_30 rfl (lv_at hl 0 rfl) ?_
      refine lv_iconst (v := 1) hx hb dX6_needSemicolon_31 (by decide) ?_
      refine lv_aload_n hx hb dX6_needSemicolon_32 rfl (lv_at hl 0 rfl) ?_
      refine va_get (D := D) (ci := 6) (v := .int (nI ta__1)) (C := RX6) (T := TX6) (N := 6) hx hb hts inX6 hown hK hP 0 rfl rfl 2 (by decide) (hts _ tw_113) (fun _ h9 => h9) rfl dX6_needSemicolon_33 ?_
      refine rw_v (D := D) (wr := [(aB k x1 240 fx)]) (va_runV (As := [.int 1, .int (nI ta__1)]) (rest := []) ⟨hx, hb, hml, hown, hts⟩ ((y_fail l D k st lo x0 x1 tz ta__1 na 0 fb 1 (nI ta__1) (by decide)) H.size) (cwV 2 hts (gV tw_476 tw_456 tw_457 tw_80 tw_458) rfl rfl rfl (by decide +kernel) ⟨Nat.le_of_ble_eq_true rfl, Nat.le_of_ble_eq_true rfl⟩) (pV hS hAlo hlo hP hK (va_Dlo hD hAlo) hZ [0] (by decide) rfl (ci := 6) (q := (RX6, TX6, 6)) (q0 := 0) rfl rfl) rfl rfl hl.1 rfl (lv_room (Nat.le_of_ble_eq_true rfl)) dX6_needSemicolon_36 ⟨Nat.le_of_ble_eq_true rfl, Nat.le_of_ble_eq_true rfl⟩) hS hA hP hD [0] [1] rfl rfl (by decide) (by decide) (fun u H locs hw_4 hP hD hS => ?_)
      obtain ⟨fn__4, fb__4⟩ := u
      have hQ9 := pd_mk [(aB k x1 240 fx), (x0, .inr (6, (fX6 x1 (nI tz) (nI ta__1) na fn__4 fb__4)))] hP hD
      clear hP hD
      obtain ⟨hP, hD⟩ := hQ9
      try dsimp only at hw_4
      obtain ⟨hs0_5, hs1_5⟩ := hw_4.2.1 rfl
      replace hs0_5 := hs0_5.symm
      subst hs0_5
      replace hs1_5 := hs1_5.symm
      subst hs1_5
      obtain ⟨hP9, hD9⟩ := pd_sub [(x0, .inr (6, (fX6 x1 (nI tz) (nI ta__1) na 1 (nI ta__1)))), (aB k x1 240 fx)] [1, 0] hP hD (by decide) rfl
      exact W.vret hx hb hr (fun t ht hW => ⟨⟨(ta__1, 1, (nI ta__1)), rfl, ⟨fun h => absurd rfl h, fun _ => .inr ⟨rfl, _, smR_0 hw_1.1 hw_2 c_3, rfl⟩, by omega, by omega⟩, by rw [ht]; exact hP9, hD9⟩, hS.F ht⟩) hS.2.2 dX6_needSemicolon_39
    · have hlt_6 : ta__1 < tz := by rcases Nat.lt_or_ge (ta__1) tz with h | h; exact h; exact absurd (c_3.symm.trans (hw_2.trans (byF_out (by omega)))) (by decide)
      refine lv_aload_n hx hb dX6_needSemicolon_17 rfl (lv_at hl 0 rfl) ?_
      refine lv_dup hx hb dX6_needSemicolon_18 rfl ?_
      refine va_get (D := D) (ci := 6) (v := .int (nI ta__1)) (C := RX6) (T := TX6) (N := 6) hx hb hts inX6 hown hK hP 0 rfl rfl 2 (by decide) (hts _ tw_113) (fun _ h9 => h9) rfl dX6_needSemicolon_19 ?_
      refine lv_iconst (v := 1) hx hb dX6_needSemicolon_22 (by decide) ?_
      refine lv_iadd hx hb dX6_needSemicolon_23 ?_
      refine lv_ti (y := (nI (ta__1 + 1))) (nI_add ta__1 1) ?_
      refine va_put (D := D) (ci := 6) (v := .int (nI (ta__1 + 1))) (ty := .int) (C := RX6) (T := TX6) (N := 6) hx hb hts inX6 tyX6 tyX6_ok nmX6 hown hK hP hD hS 0 rfl rfl 2 (by decide) (hts _ tw_113) (fun _ h9 => h9) rfl (by decide +kernel) rfl rfl (Nat.le_of_ble_eq_true rfl) dX6_needSemicolon_24 (fun H locs hP hD hS => ?_)
      have hQ9 := pd_mk [(x0, .inr (6, (fX6 x1 (nI tz) (nI (ta__1 + 1)) na 0 fb))), (aB k x1 240 fx)] hP hD
      clear hP hD
      obtain ⟨hP, hD⟩ := hQ9
      refine lv_goto (tgt := 39) hx hb dX6_needSemicolon_27 (by decide) ?_
      obtain ⟨hP9, hD9⟩ := pd_sub [(x0, .inr (6, (fX6 x1 (nI tz) (nI (ta__1 + 1)) na 0 fb))), (aB k x1 240 fx)] [0, 1] hP hD (by decide) rfl
      exact W.vret hx hb hr (fun t ht hW => ⟨⟨((ta__1 + 1), 0, fb), rfl, ⟨fun h => absurd rfl h, fun _ => .inl ⟨rfl, smR_1 hw_1.1 hw_2 c_3⟩, by omega, by omega⟩, by rw [ht]; exact hP9, hD9⟩, hS.F ht⟩) hS.2.2 dX6_needSemicolon_39
  · refine lv_aload_n hx hb dX6_needSemicolon_0 rfl (lv_at hl 0 rfl) ?_
    refine rw_v (D := D) (wr := []) (va_runV (As := []) (rest := []) ⟨hx, hb, hml, hown, hts⟩ ((y_skip l D k st lo x0 x1 tz ta na fn fb fx (by first | assumption | omega) (by first | assumption | omega)) s.heap.size) (cwV 0 hts (gV tw_375 tw_376 tw_377 tw_80 tw_378) rfl rfl rfl (by decide +kernel) ⟨Nat.le_of_ble_eq_true rfl, Nat.le_of_ble_eq_true rfl⟩) (pV hS hAlo hlo hP hK (va_Dlo hD hAlo) hZ [0, 1] (by decide) rfl (ci := 6) (q := (RX6, TX6, 6)) (q0 := 0) rfl rfl) rfl rfl hl.1 rfl (lv_room (Nat.le_of_ble_eq_true rfl)) dX6_needSemicolon_1 ⟨Nat.le_of_ble_eq_true rfl, Nat.le_of_ble_eq_true rfl⟩) hS hA hP hD [0, 1] [] rfl rfl (by decide) (by decide) (fun u H locs hw_7 hP hD hS => ?_)
    obtain ⟨ta__7, rfl⟩ : ∃ z, z = u := ⟨_, rfl⟩
    have hQ9 := pd_mk [(x0, .inr (6, (fX6 x1 (nI tz) (nI ta__7) na fn fb))), (aB k x1 240 fx)] hP hD
    clear hP hD
    obtain ⟨hP, hD⟩ := hQ9
    try dsimp only at hw_7
    refine lv_aload_n hx hb dX6_needSemicolon_4 rfl (lv_at hl 0 rfl) ?_
    refine lv_aload_n hx hb dX6_needSemicolon_5 rfl (lv_at hl 0 rfl) ?_
    refine va_get (D := D) (ci := 6) (v := .int (nI ta__7)) (C := RX6) (T := TX6) (N := 6) hx hb hts inX6 hown hK hP 0 rfl rfl 2 (by decide) (hts _ tw_113) (fun _ h9 => h9) rfl dX6_needSemicolon_6 ?_
    refine ro_i (D := D) (va_runV (As := [.int (nI ta__7)]) (rest := []) ⟨hx, hb, hml, hown, hts⟩ ((y_byteAt l D k st lo x0 x1 tz ta__7 na fn fb fx ta__7 (by first | assumption | omega) (by first | assumption | omega)) H.size) (cwV 1 hts (gV tw_379 tw_380 tw_381 tw_80 tw_382) rfl rfl rfl (by decide +kernel) ⟨Nat.le_of_ble_eq_true rfl, Nat.le_of_ble_eq_true rfl⟩) (pV hS hAlo hlo hP hK (va_Dlo hD hAlo) hZ [0, 1] (by decide) rfl (ci := 6) (q := (RX6, TX6, 6)) (q0 := 0) rfl rfl) rfl rfl hl.1 rfl (lv_room (Nat.le_of_ble_eq_true rfl)) dX6_needSemicolon_9 ⟨Nat.le_of_ble_eq_true rfl, Nat.le_of_ble_eq_true rfl⟩) hS hA hP (fun r_8 H locs hw_8 hP hS => ?_)
    try dsimp only at hw_8
    refine lv_bipush (v := 59) hx hb dX6_needSemicolon_12 (by decide) ?_
    refine lv_icmp_ne (tgt := 30) hx hb dX6_needSemicolon_14 (by decide) (fun c_9 => ?_) (fun c_9 => ?_)
    · refine lv_aload_n hx hb dX6_needSemicolon_30 rfl (lv_at hl 0 rfl) ?_
      refine lv_iconst (v := 1) hx hb dX6_needSemicolon_31 (by decide) ?_
      refine lv_aload_n hx hb dX6_needSemicolon_32 rfl (lv_at hl 0 rfl) ?_
      refine va_get (D := D) (ci := 6) (v := .int (nI ta__7)) (C := RX6) (T := TX6) (N := 6) hx hb hts inX6 hown hK hP 0 rfl rfl 2 (by decide) (hts _ tw_113) (fun _ h9 => h9) rfl dX6_needSemicolon_33 ?_
      refine rw_v (D := D) (wr := [(aB k x1 240 fx)]) (va_runV (As := [.int 1, .int (nI ta__7)]) (rest := []) ⟨hx, hb, hml, hown, hts⟩ ((y_fail l D k st lo x0 x1 tz ta__7 na fn fb 1 (nI ta__7) (by decide)) H.size) (cwV 2 hts (gV tw_476 tw_456 tw_457 tw_80 tw_458) rfl rfl rfl (by decide +kernel) ⟨Nat.le_of_ble_eq_true rfl, Nat.le_of_ble_eq_true rfl⟩) (pV hS hAlo hlo hP hK (va_Dlo hD hAlo) hZ [0] (by decide) rfl (ci := 6) (q := (RX6, TX6, 6)) (q0 := 0) rfl rfl) rfl rfl hl.1 rfl (lv_room (Nat.le_of_ble_eq_true rfl)) dX6_needSemicolon_36 ⟨Nat.le_of_ble_eq_true rfl, Nat.le_of_ble_eq_true rfl⟩) hS hA hP hD [0] [1] rfl rfl (by decide) (by decide) (fun u H locs hw_10 hP hD hS => ?_)
      obtain ⟨fn__10, fb__10⟩ := u
      have hQ9 := pd_mk [(aB k x1 240 fx), (x0, .inr (6, (fX6 x1 (nI tz) (nI ta__7) na fn__10 fb__10)))] hP hD
      clear hP hD
      obtain ⟨hP, hD⟩ := hQ9
      try dsimp only at hw_10
      obtain ⟨hs0_11, hs1_11⟩ := hw_10.2.2 hf0
      replace hs0_11 := hs0_11.symm
      subst hs0_11
      replace hs1_11 := hs1_11.symm
      subst hs1_11
      obtain ⟨hP9, hD9⟩ := pd_sub [(x0, .inr (6, (fX6 x1 (nI tz) (nI ta__7) na fn fb))), (aB k x1 240 fx)] [1, 0] hP hD (by decide) rfl
      exact W.vret hx hb hr (fun t ht hW => ⟨⟨(ta__7, fn, fb), rfl, ⟨fun _ => ⟨rfl, rfl⟩, fun h => absurd h hf0, by omega, by omega⟩, by rw [ht]; exact hP9, hD9⟩, hS.F ht⟩) hS.2.2 dX6_needSemicolon_39
    · have hlt_12 : ta__7 < tz := by rcases Nat.lt_or_ge (ta__7) tz with h | h; exact h; exact absurd (c_9.symm.trans (hw_8.trans (byF_out (by omega)))) (by decide)
      refine lv_aload_n hx hb dX6_needSemicolon_17 rfl (lv_at hl 0 rfl) ?_
      refine lv_dup hx hb dX6_needSemicolon_18 rfl ?_
      refine va_get (D := D) (ci := 6) (v := .int (nI ta__7)) (C := RX6) (T := TX6) (N := 6) hx hb hts inX6 hown hK hP 0 rfl rfl 2 (by decide) (hts _ tw_113) (fun _ h9 => h9) rfl dX6_needSemicolon_19 ?_
      refine lv_iconst (v := 1) hx hb dX6_needSemicolon_22 (by decide) ?_
      refine lv_iadd hx hb dX6_needSemicolon_23 ?_
      refine lv_ti (y := (nI (ta__7 + 1))) (nI_add ta__7 1) ?_
      refine va_put (D := D) (ci := 6) (v := .int (nI (ta__7 + 1))) (ty := .int) (C := RX6) (T := TX6) (N := 6) hx hb hts inX6 tyX6 tyX6_ok nmX6 hown hK hP hD hS 0 rfl rfl 2 (by decide) (hts _ tw_113) (fun _ h9 => h9) rfl (by decide +kernel) rfl rfl (Nat.le_of_ble_eq_true rfl) dX6_needSemicolon_24 (fun H locs hP hD hS => ?_)
      have hQ9 := pd_mk [(x0, .inr (6, (fX6 x1 (nI tz) (nI (ta__7 + 1)) na fn fb))), (aB k x1 240 fx)] hP hD
      clear hP hD
      obtain ⟨hP, hD⟩ := hQ9
      refine lv_goto (tgt := 39) hx hb dX6_needSemicolon_27 (by decide) ?_
      obtain ⟨hP9, hD9⟩ := pd_sub [(x0, .inr (6, (fX6 x1 (nI tz) (nI (ta__7 + 1)) na fn fb))), (aB k x1 240 fx)] [0, 1] hP hD (by decide) rfl
      exact W.vret hx hb hr (fun t ht hW => ⟨⟨((ta__7 + 1), fn, fb), rfl, ⟨fun _ => ⟨rfl, rfl⟩, fun h => absurd h hf0, by omega, by omega⟩, by rw [ht]; exact hP9, hD9⟩, hS.F ht⟩) hS.2.2 dX6_needSemicolon_39


set_option maxHeartbeats 4000000 in
set_option maxRecDepth 100000 in
theorem y_needNumber (l : Launch) (D : va_G) (k : Nat → ClassId) (st : Nat → Nat) (lo : Nat) (x0 : Nat) (x1 : Nat) (tz : Nat) (ta : Nat) (na : Int32) (fn : Int32) (fb : Int32) (fx : Nat → Int32) (p0 : Int32) (p1 : Int32) (ht : ta ≤ tz) (hz : tz ≤ 240) (hle : p0 ≤ p1) : CWi l D k st lo yX6_needNumber cX6_needNumber 6 (some .int) ({ frames := 2, cells := 0, slots := 0, locals := 43 }) 0 0 [.ref x0, .int p0, .int p1] [(x0, .inr (6, (fX6 x1 (nI tz) (nI ta) na fn fb))), (aB k x1 240 fx)] (fun (r : Int32) (u : Nat × Int32 × Int32 × Int32) => match u with | (ta_, na_, fn_, fb_) => (¬ fn = 0 → r = p0 ∧ ta_ = ta ∧ na_ = na ∧ fn_ = fn ∧ fb_ = fb) ∧ (fn = 0 → ∃ pl q : Nat, na_ = nI q ∧ ((fn_ = 0 ∧ nuR (bF fx) tz (decide (p0 < 0)) p0 p1 ta = (0, 0, ta_, r, q)) ∨ (fn_ = 1 ∧ r = p0 ∧ fb_ = nI pl ∧ nuR (bF fx) tz (decide (p0 < 0)) p0 p1 ta = (1, pl, ta_, 0, q)) ∨ (fn_ = 2 ∧ r = p0 ∧ fb_ = nI pl ∧ nuR (bF fx) tz (decide (p0 < 0)) p0 p1 ta = (2, pl, ta_, 0, q)))) ∧ ta ≤ ta_ ∧ ta_ ≤ tz ∧ inB r p0 p1) (fun (u : Nat × Int32 × Int32 × Int32) => match u with | (ta_, na_, fn_, fb_) => [(x0, .inr (6, (fX6 x1 (nI tz) (nI ta_) na_ fn_ fb_))), (aB k x1 240 fx)]) := by
  intro sz
  refine Met.ofW (cc := cX6_needNumber) (maxL := 6) (ret := (some .int)) (by decide) rfl ?_
  intro p e s m args below meth c s₁ B hml hv
  obtain ⟨rfl, hsz, hlo, hP, hK, hDL, hZ⟩ := hv
  have hx := B.exec
  have hb := B.bytes
  have hr := B.returns
  have hts := WS_ts B.pre
  have hown : s.vm.findClass RX6 = some m.cls := findClass_of_methodNamed B.named
  have hlocks := B.notSynchronized
  subst hsz
  have hD := hDL.self (sz := s.heap.size)
  have hAlo := A_lo hDL hlo
  generalize hAe : va_A [(x0, .inr (6, (fX6 x1 (nI tz) (nI ta) na fn fb))), (aB k x1 240 fx)] s.heap.size = A at hD hAlo ⊢
  have hA : ∀ q : Nat, s.heap.size ≤ q → A q := fun q h => by rw [← hAe]; exact Or.inr h
  have hS : va_S A s.heap s.heap [] := va_S.rf
  have hl := lv_entry ([.ref x0, .int p0, .int p1]) (n := 6) (Nat.le_of_ble_eq_true rfl)
  rw [lg_entry_eq]
  generalize (lg_sl ([.ref x0, .int p0, .int p1]) ++ List.replicate (6 - (lg_sl ([.ref x0, .int p0, .int p1])).length) Slot.unset).toArray = ls at hl ⊢
  have hl : lv_has ls 6 [(0, .ref x0), (1, .int p0), (2, .int p1)] := hl
  refine lv_aload_n hx hb dX6_needNumber_0 rfl (lv_at hl 0 rfl) ?_
  refine ro_i (D := D) (va_runV (As := []) (rest := []) ⟨hx, hb, hml, hown, hts⟩ ((x_failed l D k st lo x0 x1 tz ta na fn fb) s.heap.size) (cwV 0 hts (gV tw_471 tw_368 tw_369 tw_80 tw_370) rfl rfl rfl (by decide +kernel) ⟨Nat.le_of_ble_eq_true rfl, Nat.le_of_ble_eq_true rfl⟩) (pV hS hAlo hlo hP hK (va_Dlo hD hAlo) hZ [0] (by decide) rfl (ci := 6) (q := (RX6, TX6, 6)) (q0 := 0) rfl rfl) rfl rfl hl.1 rfl (lv_room (Nat.le_of_ble_eq_true rfl)) dX6_needNumber_1 ⟨Nat.le_of_ble_eq_true rfl, Nat.le_of_ble_eq_true rfl⟩) hS hA hP (fun r_1 H locs hw_1 hP hS => ?_)
  try dsimp only at hw_1
  rcases hw_1 with ⟨rfl, hw_1⟩ | ⟨rfl, rfl⟩
  · refine lv_if_eq (tgt := 9) hx hb dX6_needNumber_4 (by decide) (fun h => absurd h (by decide)) (fun _ => ?_)
    refine lv_iload_n hx hb dX6_needNumber_7 rfl (lv_at hl 1 rfl) ?_
    obtain ⟨hP9, hD9⟩ := pd_sub [(x0, .inr (6, (fX6 x1 (nI tz) (nI ta) na fn fb))), (aB k x1 240 fx)] [0, 1] hP hD (by decide) rfl
    exact W.iret (v := p0) hx hb hr (fun t ht hW => ⟨⟨p0, (ta, na, fn, fb), rfl, ⟨fun _ => ⟨rfl, rfl, rfl, rfl, rfl⟩, fun h => absurd h hw_1, by omega, by omega, Int32.le_refl _, hle⟩, by rw [ht]; exact hP9, hD9⟩, hS.F ht⟩) hS.2.2 dX6_needNumber_8
  · refine lv_if_eq (tgt := 9) hx hb dX6_needNumber_4 (by decide) (fun _ => ?_) (fun h => absurd (by decide) h)
    refine lv_aload_n hx hb dX6_needNumber_9 rfl (lv_at hl 0 rfl) ?_
    refine rw_v (D := D) (wr := []) (va_runV (As := []) (rest := []) ⟨hx, hb, hml, hown, hts⟩ ((y_skip l D k st lo x0 x1 tz ta na 0 fb fx (by first | assumption | omega) (by first | assumption | omega)) H.size) (cwV 0 hts (gV tw_375 tw_376 tw_377 tw_80 tw_378) rfl rfl rfl (by decide +kernel) ⟨Nat.le_of_ble_eq_true rfl, Nat.le_of_ble_eq_true rfl⟩) (pV hS hAlo hlo hP hK (va_Dlo hD hAlo) hZ [0, 1] (by decide) rfl (ci := 6) (q := (RX6, TX6, 6)) (q0 := 0) rfl rfl) rfl rfl hl.1 rfl (lv_room (Nat.le_of_ble_eq_true rfl)) dX6_needNumber_10 ⟨Nat.le_of_ble_eq_true rfl, Nat.le_of_ble_eq_true rfl⟩) hS hA hP hD [0, 1] [] rfl rfl (by decide) (by decide) (fun u H locs hw_2 hP hD hS => ?_)
    obtain ⟨ta__2, rfl⟩ : ∃ z, z = u := ⟨_, rfl⟩
    have hQ9 := pd_mk [(x0, .inr (6, (fX6 x1 (nI tz) (nI ta__2) na 0 fb))), (aB k x1 240 fx)] hP hD
    clear hP hD
    obtain ⟨hP, hD⟩ := hQ9
    try dsimp only at hw_2
    refine lv_aload_n hx hb dX6_needNumber_13 rfl (lv_at hl 0 rfl) ?_
    refine lv_aload_n hx hb dX6_needNumber_14 rfl (lv_at hl 0 rfl) ?_
    refine va_get (D := D) (ci := 6) (v := .int (nI ta__2)) (C := RX6) (T := TX6) (N := 6) hx hb hts inX6 hown hK hP 0 rfl rfl 2 (by decide) (hts _ tw_113) (fun _ h9 => h9) rfl dX6_needNumber_15 ?_
    refine va_put (D := D) (ci := 6) (v := .int (nI ta__2)) (ty := .int) (C := RX6) (T := TX6) (N := 6) hx hb hts inX6 tyX6 tyX6_ok nmX6 hown hK hP hD hS 0 rfl rfl 3 (by decide) (hts _ tw_116) (fun _ h9 => h9) rfl (by decide +kernel) rfl rfl (Nat.le_of_ble_eq_true rfl) dX6_needNumber_18 (fun H locs hP hD hS => ?_)
    have hQ9 := pd_mk [(x0, .inr (6, (fX6 x1 (nI tz) (nI ta__2) (nI ta__2) 0 fb))), (aB k x1 240 fx)] hP hD
    clear hP hD
    obtain ⟨hP, hD⟩ := hQ9
    refine lv_iload_n hx hb dX6_needNumber_21 rfl (lv_at hl 1 rfl) ?_
    refine lv_if_ge (tgt := 42) hx hb dX6_needNumber_22 (by decide) (fun c_3 => ?_) (fun c_3 => ?_)
    · refine lv_iconst (v := 0) hx hb dX6_needNumber_42 (by decide) ?_
      refine lv_istore_n (lv' := [(3, .int 0), (0, .ref x0), (1, .int p0), (2, .int p1)]) hx hb dX6_needNumber_43 rfl hl (by decide) rfl (fun ls hl => ?_)
      refine lv_iload_n hx hb dX6_needNumber_44 rfl (lv_at hl 0 rfl) ?_
      refine lv_if_eq (tgt := 58) hx hb dX6_needNumber_45 (by decide) (fun _ => ?_) (fun h => absurd (by decide) h)
      refine lv_aload_n hx hb dX6_needNumber_58 rfl (lv_at hl 1 rfl) ?_
      refine va_get (D := D) (ci := 6) (v := .int (nI ta__2)) (C := RX6) (T := TX6) (N := 6) hx hb hts inX6 hown hK hP 0 rfl rfl 2 (by decide) (hts _ tw_113) (fun _ h9 => h9) rfl dX6_needNumber_59 ?_
      refine lv_istore (lv' := [(4, .int (nI ta__2)), (3, .int 0), (0, .ref x0), (1, .int p0), (2, .int p1)]) hx hb dX6_needNumber_62 hl (by decide) rfl (fun ls hl => ?_)
      refine lv_iconst (v := 0) hx hb dX6_needNumber_64 (by decide) ?_
      refine lv_istore (lv' := [(5, .int 0), (4, .int (nI ta__2)), (3, .int 0), (0, .ref x0), (1, .int p0), (2, .int p1)]) hx hb dX6_needNumber_65 hl (by decide) rfl (fun ls hl => ?_)
      refine W_loop (σ := Nat × Int32) (fun (n_ : Nat) (x_ : Nat × Int32) (H : Heap) (locs : List Loc) (ls : Array Slot) => match x_ with | (t2_4, va_4) => n_ = tz - t2_4 ∧ (ta__2 ≤ t2_4 ∧ t2_4 ≤ tz ∧ ta__2 + (figA (bF fx) tz (ta__2)).length = t2_4 + (figA (bF fx) tz t2_4).length ∧ vXk (t2_4 - (ta__2)) va_4 (figA (bF fx) tz t2_4) = vX (figA (bF fx) tz (ta__2))) ∧ va_P D classes [(x0, .inr (6, (fX6 x1 (nI tz) (nI t2_4) (nI ta__2) 0 fb))), (aB k x1 240 fx)] H ∧ va_D A [(x0, .inr (6, (fX6 x1 (nI tz) (nI t2_4) (nI ta__2) 0 fb))), (aB k x1 240 fx)] ∧ va_S A s.heap H locs ∧ lv_has ls 6 [(5, .int va_4), (4, .int (nI ta__2)), (3, .int 0), (0, .ref x0), (1, .int p0), (2, .int p1)]) (fun n_4 x_4 H locs ls hI ih_4 => ?_) _ (ta__2, 0) ⟨rfl, ⟨by omega, by omega, rfl, by rw [Nat.sub_self]; rfl⟩, hP, hD, hS, (lv_sub hl [0, 1, 2, 3, 4, 5] rfl)⟩
      obtain ⟨t2_4, va_4⟩ := x_4
      obtain ⟨hm_4, hv_4, hP, hD, hS, hl⟩ := hI
      subst hm_4
      refine lv_aload_n hx hb dX6_needNumber_67 rfl (lv_at hl 3 rfl) ?_
      refine va_get (D := D) (ci := 6) (v := .int (nI t2_4)) (C := RX6) (T := TX6) (N := 6) hx hb hts inX6 hown hK hP 0 rfl rfl 2 (by decide) (hts _ tw_113) (fun _ h9 => h9) rfl dX6_needNumber_68 ?_
      refine lv_aload_n hx hb dX6_needNumber_71 rfl (lv_at hl 3 rfl) ?_
      refine va_get (D := D) (ci := 6) (v := .int (nI tz)) (C := RX6) (T := TX6) (N := 6) hx hb hts inX6 hown hK hP 0 rfl rfl 1 (by decide) (hts _ tw_110) (fun _ h9 => h9) rfl dX6_needNumber_72 ?_
      refine lv_icmp_ge (tgt := 132) hx hb dX6_needNumber_75 (by decide) (fun c_5 => ?_) (fun c_5 => ?_)
      · have c_5 := (nI_leI (a := tz) (b := t2_4) (by omega) (by omega)).mp c_5
        obtain ⟨hle_6, hve_6⟩ := nn_out (figA_end (by omega)) hv_4.2.2.1 hv_4.2.2.2
        refine lv_iload_n hx hb dX6_needNumber_132 rfl (lv_at hl 2 rfl) ?_
        refine lv_if_eq (tgt := 141) hx hb dX6_needNumber_133 (by decide) (fun _ => ?_) (fun h => absurd (by decide) h)
        refine lv_aload_n hx hb dX6_needNumber_141 rfl (lv_at hl 3 rfl) ?_
        refine va_get (D := D) (ci := 6) (v := .int (nI t2_4)) (C := RX6) (T := TX6) (N := 6) hx hb hts inX6 hown hK hP 0 rfl rfl 2 (by decide) (hts _ tw_113) (fun _ h9 => h9) rfl dX6_needNumber_142 ?_
        refine lv_iload hx hb dX6_needNumber_145 (lv_at hl 1 rfl) ?_
        refine lv_icmp_ne (tgt := 162) hx hb dX6_needNumber_147 (by decide) (fun c_7 => ?_) (fun c_7 => ?_)
        · have c_7 : ¬ (t2_4 = ta__2) := fun h => c_7 ((nI_eq (a := t2_4) (b := ta__2) (by omega) (by omega)).mpr h)
          refine lv_aload_n hx hb dX6_needNumber_162 rfl (lv_at hl 3 rfl) ?_
          refine va_get (D := D) (ci := 6) (v := .int (nI t2_4)) (C := RX6) (T := TX6) (N := 6) hx hb hts inX6 hown hK hP 0 rfl rfl 2 (by decide) (hts _ tw_113) (fun _ h9 => h9) rfl dX6_needNumber_163 ?_
          refine lv_iload hx hb dX6_needNumber_166 (lv_at hl 1 rfl) ?_
          refine lv_isub hx hb dX6_needNumber_168 ?_
          refine lv_ti (y := (nI (t2_4 - ta__2))) (pk_sub (a := t2_4) (b := ta__2) (by omega)) ?_
          refine lv_iconst (v := 3) hx hb dX6_needNumber_169 (by decide) ?_
          refine lv_icmp_gt (tgt := 185) hx hb dX6_needNumber_170 (by decide) (fun c_8 => ?_) (fun c_8 => ?_)
          · have c_8 := (nI_ltI (a := 3) (b := (t2_4 - ta__2)) (by omega) (by omega)).mp c_8
            refine lv_aload_n hx hb dX6_needNumber_185 rfl (lv_at hl 3 rfl) ?_
            refine lv_iconst (v := 2) hx hb dX6_needNumber_186 (by decide) ?_
            refine lv_aload_n hx hb dX6_needNumber_187 rfl (lv_at hl 3 rfl) ?_
            refine va_get (D := D) (ci := 6) (v := .int (nI ta__2)) (C := RX6) (T := TX6) (N := 6) hx hb hts inX6 hown hK hP 0 rfl rfl 3 (by decide) (hts _ tw_116) (fun _ h9 => h9) rfl dX6_needNumber_188 ?_
            refine rw_v (D := D) (wr := [(aB k x1 240 fx)]) (va_runV (As := [.int 2, .int (nI ta__2)]) (rest := []) ⟨hx, hb, hml, hown, hts⟩ ((y_fail l D k st lo x0 x1 tz t2_4 (nI ta__2) 0 fb 2 (nI ta__2) (by decide)) H.size) (cwV 2 hts (gV tw_476 tw_456 tw_457 tw_80 tw_458) rfl rfl rfl (by decide +kernel) ⟨Nat.le_of_ble_eq_true rfl, Nat.le_of_ble_eq_true rfl⟩) (pV hS hAlo hlo hP hK (va_Dlo hD hAlo) hZ [0] (by decide) rfl (ci := 6) (q := (RX6, TX6, 6)) (q0 := 0) rfl rfl) rfl rfl hl.1 rfl (lv_room (Nat.le_of_ble_eq_true rfl)) dX6_needNumber_191 ⟨Nat.le_of_ble_eq_true rfl, Nat.le_of_ble_eq_true rfl⟩) hS hA hP hD [0] [1] rfl rfl (by decide) (by decide) (fun u H locs hw_9 hP hD hS => ?_)
            obtain ⟨fn__9, fb__9⟩ := u
            have hQ9 := pd_mk [(aB k x1 240 fx), (x0, .inr (6, (fX6 x1 (nI tz) (nI t2_4) (nI ta__2) fn__9 fb__9)))] hP hD
            clear hP hD
            obtain ⟨hP, hD⟩ := hQ9
            try dsimp only at hw_9
            obtain ⟨hs0_10, hs1_10⟩ := hw_9.2.1 rfl
            replace hs0_10 := hs0_10.symm
            subst hs0_10
            replace hs1_10 := hs1_10.symm
            subst hs1_10
            refine lv_aload_n hx hb dX6_needNumber_194 rfl (lv_at hl 3 rfl) ?_
            refine ro_i (D := D) (va_runV (As := []) (rest := []) ⟨hx, hb, hml, hown, hts⟩ ((x_failed l D k st lo x0 x1 tz t2_4 (nI ta__2) 2 (nI ta__2)) H.size) (cwV 0 hts (gV tw_471 tw_368 tw_369 tw_80 tw_370) rfl rfl rfl (by decide +kernel) ⟨Nat.le_of_ble_eq_true rfl, Nat.le_of_ble_eq_true rfl⟩) (pV hS hAlo hlo hP hK (va_Dlo hD hAlo) hZ [1] (by decide) rfl (ci := 6) (q := (RX6, TX6, 6)) (q0 := 0) rfl rfl) rfl rfl hl.1 rfl (lv_room (Nat.le_of_ble_eq_true rfl)) dX6_needNumber_195 ⟨Nat.le_of_ble_eq_true rfl, Nat.le_of_ble_eq_true rfl⟩) hS hA hP (fun r_11 H locs hw_11 hP hS => ?_)
            try dsimp only at hw_11
            obtain rfl : r_11 = 1 := by rcases hw_11 with ⟨h, h2⟩ | ⟨h, h2⟩ <;> first | exact h | exact absurd rfl h2 | exact absurd h2 (by decide)
            refine lv_if_eq (tgt := 205) hx hb dX6_needNumber_198 (by decide) (fun h => absurd h (by decide)) (fun _ => ?_)
            refine lv_iload_n hx hb dX6_needNumber_201 rfl (lv_at hl 4 rfl) ?_
            refine lv_goto (tgt := 207) hx hb dX6_needNumber_202 (by decide) ?_
            obtain ⟨hP9, hD9⟩ := pd_sub [(x0, .inr (6, (fX6 x1 (nI tz) (nI t2_4) (nI ta__2) 2 (nI ta__2)))), (aB k x1 240 fx)] [1, 0] hP hD (by decide) rfl
            exact W.iret (v := p0) hx hb hr (fun t ht hW => ⟨⟨p0, (t2_4, (nI ta__2), 2, (nI ta__2)), rfl, ⟨fun h => absurd rfl h, fun _ => ⟨_, _, rfl, .inr (.inr ⟨rfl, rfl, rfl, (nuR_A c_3 hw_2.1).trans (nuS_2 hle_6 (by omega) (vS_f hve_6) (.inl (by omega)))⟩)⟩, by omega, by omega, ⟨Int32.le_refl _, hle⟩⟩, by rw [ht]; exact hP9, hD9⟩, hS.F ht⟩) hS.2.2 dX6_needNumber_207
          · have c_8 : ¬ (3 < (t2_4 - ta__2)) := fun h => c_8 ((nI_ltI (a := 3) (b := (t2_4 - ta__2)) (by omega) (by omega)).mpr h)
            refine lv_iload hx hb dX6_needNumber_173 (lv_at hl 0 rfl) ?_
            refine lv_iload_n hx hb dX6_needNumber_175 rfl (lv_at hl 4 rfl) ?_
            refine lv_icmp_lt (tgt := 185) hx hb dX6_needNumber_176 (by decide) (fun c_12 => ?_) (fun c_12 => ?_)
            · refine lv_aload_n hx hb dX6_needNumber_185 rfl (lv_at hl 3 rfl) ?_
              refine lv_iconst (v := 2) hx hb dX6_needNumber_186 (by decide) ?_
              refine lv_aload_n hx hb dX6_needNumber_187 rfl (lv_at hl 3 rfl) ?_
              refine va_get (D := D) (ci := 6) (v := .int (nI ta__2)) (C := RX6) (T := TX6) (N := 6) hx hb hts inX6 hown hK hP 0 rfl rfl 3 (by decide) (hts _ tw_116) (fun _ h9 => h9) rfl dX6_needNumber_188 ?_
              refine rw_v (D := D) (wr := [(aB k x1 240 fx)]) (va_runV (As := [.int 2, .int (nI ta__2)]) (rest := []) ⟨hx, hb, hml, hown, hts⟩ ((y_fail l D k st lo x0 x1 tz t2_4 (nI ta__2) 0 fb 2 (nI ta__2) (by decide)) H.size) (cwV 2 hts (gV tw_476 tw_456 tw_457 tw_80 tw_458) rfl rfl rfl (by decide +kernel) ⟨Nat.le_of_ble_eq_true rfl, Nat.le_of_ble_eq_true rfl⟩) (pV hS hAlo hlo hP hK (va_Dlo hD hAlo) hZ [0] (by decide) rfl (ci := 6) (q := (RX6, TX6, 6)) (q0 := 0) rfl rfl) rfl rfl hl.1 rfl (lv_room (Nat.le_of_ble_eq_true rfl)) dX6_needNumber_191 ⟨Nat.le_of_ble_eq_true rfl, Nat.le_of_ble_eq_true rfl⟩) hS hA hP hD [0] [1] rfl rfl (by decide) (by decide) (fun u H locs hw_13 hP hD hS => ?_)
              obtain ⟨fn__13, fb__13⟩ := u
              have hQ9 := pd_mk [(aB k x1 240 fx), (x0, .inr (6, (fX6 x1 (nI tz) (nI t2_4) (nI ta__2) fn__13 fb__13)))] hP hD
              clear hP hD
              obtain ⟨hP, hD⟩ := hQ9
              try dsimp only at hw_13
              obtain ⟨hs0_14, hs1_14⟩ := hw_13.2.1 rfl
              replace hs0_14 := hs0_14.symm
              subst hs0_14
              replace hs1_14 := hs1_14.symm
              subst hs1_14
              refine lv_aload_n hx hb dX6_needNumber_194 rfl (lv_at hl 3 rfl) ?_
              refine ro_i (D := D) (va_runV (As := []) (rest := []) ⟨hx, hb, hml, hown, hts⟩ ((x_failed l D k st lo x0 x1 tz t2_4 (nI ta__2) 2 (nI ta__2)) H.size) (cwV 0 hts (gV tw_471 tw_368 tw_369 tw_80 tw_370) rfl rfl rfl (by decide +kernel) ⟨Nat.le_of_ble_eq_true rfl, Nat.le_of_ble_eq_true rfl⟩) (pV hS hAlo hlo hP hK (va_Dlo hD hAlo) hZ [1] (by decide) rfl (ci := 6) (q := (RX6, TX6, 6)) (q0 := 0) rfl rfl) rfl rfl hl.1 rfl (lv_room (Nat.le_of_ble_eq_true rfl)) dX6_needNumber_195 ⟨Nat.le_of_ble_eq_true rfl, Nat.le_of_ble_eq_true rfl⟩) hS hA hP (fun r_15 H locs hw_15 hP hS => ?_)
              try dsimp only at hw_15
              obtain rfl : r_15 = 1 := by rcases hw_15 with ⟨h, h2⟩ | ⟨h, h2⟩ <;> first | exact h | exact absurd rfl h2 | exact absurd h2 (by decide)
              refine lv_if_eq (tgt := 205) hx hb dX6_needNumber_198 (by decide) (fun h => absurd h (by decide)) (fun _ => ?_)
              refine lv_iload_n hx hb dX6_needNumber_201 rfl (lv_at hl 4 rfl) ?_
              refine lv_goto (tgt := 207) hx hb dX6_needNumber_202 (by decide) ?_
              obtain ⟨hP9, hD9⟩ := pd_sub [(x0, .inr (6, (fX6 x1 (nI tz) (nI t2_4) (nI ta__2) 2 (nI ta__2)))), (aB k x1 240 fx)] [1, 0] hP hD (by decide) rfl
              exact W.iret (v := p0) hx hb hr (fun t ht hW => ⟨⟨p0, (t2_4, (nI ta__2), 2, (nI ta__2)), rfl, ⟨fun h => absurd rfl h, fun _ => ⟨_, _, rfl, .inr (.inr ⟨rfl, rfl, rfl, (nuR_A c_3 hw_2.1).trans (nuS_2 hle_6 (by omega) (vS_f hve_6) (.inr (fun h => absurd h.1 (Int32.not_le.mpr c_12))))⟩)⟩, by omega, by omega, ⟨Int32.le_refl _, hle⟩⟩, by rw [ht]; exact hP9, hD9⟩, hS.F ht⟩) hS.2.2 dX6_needNumber_207
            · refine lv_iload hx hb dX6_needNumber_179 (lv_at hl 0 rfl) ?_
              refine lv_iload_n hx hb dX6_needNumber_181 rfl (lv_at hl 5 rfl) ?_
              refine lv_icmp_le (tgt := 194) hx hb dX6_needNumber_182 (by decide) (fun c_16 => ?_) (fun c_16 => ?_)
              · refine lv_aload_n hx hb dX6_needNumber_194 rfl (lv_at hl 3 rfl) ?_
                refine ro_i (D := D) (va_runV (As := []) (rest := []) ⟨hx, hb, hml, hown, hts⟩ ((x_failed l D k st lo x0 x1 tz t2_4 (nI ta__2) 0 fb) H.size) (cwV 0 hts (gV tw_471 tw_368 tw_369 tw_80 tw_370) rfl rfl rfl (by decide +kernel) ⟨Nat.le_of_ble_eq_true rfl, Nat.le_of_ble_eq_true rfl⟩) (pV hS hAlo hlo hP hK (va_Dlo hD hAlo) hZ [0] (by decide) rfl (ci := 6) (q := (RX6, TX6, 6)) (q0 := 0) rfl rfl) rfl rfl hl.1 rfl (lv_room (Nat.le_of_ble_eq_true rfl)) dX6_needNumber_195 ⟨Nat.le_of_ble_eq_true rfl, Nat.le_of_ble_eq_true rfl⟩) hS hA hP (fun r_17 H locs hw_17 hP hS => ?_)
                try dsimp only at hw_17
                obtain rfl : r_17 = 0 := by rcases hw_17 with ⟨h, h2⟩ | ⟨h, h2⟩ <;> first | exact h | exact absurd rfl h2 | exact absurd h2 (by decide)
                refine lv_if_eq (tgt := 205) hx hb dX6_needNumber_198 (by decide) (fun _ => ?_) (fun h => absurd (by decide) h)
                refine lv_iload hx hb dX6_needNumber_205 (lv_at hl 0 rfl) ?_
                obtain ⟨hP9, hD9⟩ := pd_sub [(x0, .inr (6, (fX6 x1 (nI tz) (nI t2_4) (nI ta__2) 0 fb))), (aB k x1 240 fx)] [0, 1] hP hD (by decide) rfl
                exact W.iret (v := va_4) hx hb hr (fun t ht hW => ⟨⟨va_4, (t2_4, (nI ta__2), 0, fb), rfl, ⟨fun h => absurd rfl h, fun _ => ⟨0, _, rfl, .inl ⟨rfl, (nuR_A c_3 hw_2.1).trans (nuS_0 hle_6 (by omega) (vS_f hve_6) (by omega) ⟨Int32.not_lt.mp c_12, c_16⟩)⟩⟩, by omega, by omega, ⟨Int32.not_lt.mp c_12, c_16⟩⟩, by rw [ht]; exact hP9, hD9⟩, hS.F ht⟩) hS.2.2 dX6_needNumber_207
              · refine lv_aload_n hx hb dX6_needNumber_185 rfl (lv_at hl 3 rfl) ?_
                refine lv_iconst (v := 2) hx hb dX6_needNumber_186 (by decide) ?_
                refine lv_aload_n hx hb dX6_needNumber_187 rfl (lv_at hl 3 rfl) ?_
                refine va_get (D := D) (ci := 6) (v := .int (nI ta__2)) (C := RX6) (T := TX6) (N := 6) hx hb hts inX6 hown hK hP 0 rfl rfl 3 (by decide) (hts _ tw_116) (fun _ h9 => h9) rfl dX6_needNumber_188 ?_
                refine rw_v (D := D) (wr := [(aB k x1 240 fx)]) (va_runV (As := [.int 2, .int (nI ta__2)]) (rest := []) ⟨hx, hb, hml, hown, hts⟩ ((y_fail l D k st lo x0 x1 tz t2_4 (nI ta__2) 0 fb 2 (nI ta__2) (by decide)) H.size) (cwV 2 hts (gV tw_476 tw_456 tw_457 tw_80 tw_458) rfl rfl rfl (by decide +kernel) ⟨Nat.le_of_ble_eq_true rfl, Nat.le_of_ble_eq_true rfl⟩) (pV hS hAlo hlo hP hK (va_Dlo hD hAlo) hZ [0] (by decide) rfl (ci := 6) (q := (RX6, TX6, 6)) (q0 := 0) rfl rfl) rfl rfl hl.1 rfl (lv_room (Nat.le_of_ble_eq_true rfl)) dX6_needNumber_191 ⟨Nat.le_of_ble_eq_true rfl, Nat.le_of_ble_eq_true rfl⟩) hS hA hP hD [0] [1] rfl rfl (by decide) (by decide) (fun u H locs hw_18 hP hD hS => ?_)
                obtain ⟨fn__18, fb__18⟩ := u
                have hQ9 := pd_mk [(aB k x1 240 fx), (x0, .inr (6, (fX6 x1 (nI tz) (nI t2_4) (nI ta__2) fn__18 fb__18)))] hP hD
                clear hP hD
                obtain ⟨hP, hD⟩ := hQ9
                try dsimp only at hw_18
                obtain ⟨hs0_19, hs1_19⟩ := hw_18.2.1 rfl
                replace hs0_19 := hs0_19.symm
                subst hs0_19
                replace hs1_19 := hs1_19.symm
                subst hs1_19
                refine lv_aload_n hx hb dX6_needNumber_194 rfl (lv_at hl 3 rfl) ?_
                refine ro_i (D := D) (va_runV (As := []) (rest := []) ⟨hx, hb, hml, hown, hts⟩ ((x_failed l D k st lo x0 x1 tz t2_4 (nI ta__2) 2 (nI ta__2)) H.size) (cwV 0 hts (gV tw_471 tw_368 tw_369 tw_80 tw_370) rfl rfl rfl (by decide +kernel) ⟨Nat.le_of_ble_eq_true rfl, Nat.le_of_ble_eq_true rfl⟩) (pV hS hAlo hlo hP hK (va_Dlo hD hAlo) hZ [1] (by decide) rfl (ci := 6) (q := (RX6, TX6, 6)) (q0 := 0) rfl rfl) rfl rfl hl.1 rfl (lv_room (Nat.le_of_ble_eq_true rfl)) dX6_needNumber_195 ⟨Nat.le_of_ble_eq_true rfl, Nat.le_of_ble_eq_true rfl⟩) hS hA hP (fun r_20 H locs hw_20 hP hS => ?_)
                try dsimp only at hw_20
                obtain rfl : r_20 = 1 := by rcases hw_20 with ⟨h, h2⟩ | ⟨h, h2⟩ <;> first | exact h | exact absurd rfl h2 | exact absurd h2 (by decide)
                refine lv_if_eq (tgt := 205) hx hb dX6_needNumber_198 (by decide) (fun h => absurd h (by decide)) (fun _ => ?_)
                refine lv_iload_n hx hb dX6_needNumber_201 rfl (lv_at hl 4 rfl) ?_
                refine lv_goto (tgt := 207) hx hb dX6_needNumber_202 (by decide) ?_
                obtain ⟨hP9, hD9⟩ := pd_sub [(x0, .inr (6, (fX6 x1 (nI tz) (nI t2_4) (nI ta__2) 2 (nI ta__2)))), (aB k x1 240 fx)] [1, 0] hP hD (by decide) rfl
                exact W.iret (v := p0) hx hb hr (fun t ht hW => ⟨⟨p0, (t2_4, (nI ta__2), 2, (nI ta__2)), rfl, ⟨fun h => absurd rfl h, fun _ => ⟨_, _, rfl, .inr (.inr ⟨rfl, rfl, rfl, (nuR_A c_3 hw_2.1).trans (nuS_2 hle_6 (by omega) (vS_f hve_6) (.inr (fun h => absurd h.2 c_16)))⟩)⟩, by omega, by omega, ⟨Int32.le_refl _, hle⟩⟩, by rw [ht]; exact hP9, hD9⟩, hS.F ht⟩) hS.2.2 dX6_needNumber_207
        · have c_7 := (nI_eq (a := t2_4) (b := ta__2) (by omega) (by omega)).mp c_7
          refine lv_aload_n hx hb dX6_needNumber_150 rfl (lv_at hl 3 rfl) ?_
          refine lv_iconst (v := 1) hx hb dX6_needNumber_151 (by decide) ?_
          refine lv_aload_n hx hb dX6_needNumber_152 rfl (lv_at hl 3 rfl) ?_
          refine va_get (D := D) (ci := 6) (v := .int (nI t2_4)) (C := RX6) (T := TX6) (N := 6) hx hb hts inX6 hown hK hP 0 rfl rfl 2 (by decide) (hts _ tw_113) (fun _ h9 => h9) rfl dX6_needNumber_153 ?_
          refine rw_v (D := D) (wr := [(aB k x1 240 fx)]) (va_runV (As := [.int 1, .int (nI t2_4)]) (rest := []) ⟨hx, hb, hml, hown, hts⟩ ((y_fail l D k st lo x0 x1 tz t2_4 (nI ta__2) 0 fb 1 (nI t2_4) (by decide)) H.size) (cwV 2 hts (gV tw_476 tw_456 tw_457 tw_80 tw_458) rfl rfl rfl (by decide +kernel) ⟨Nat.le_of_ble_eq_true rfl, Nat.le_of_ble_eq_true rfl⟩) (pV hS hAlo hlo hP hK (va_Dlo hD hAlo) hZ [0] (by decide) rfl (ci := 6) (q := (RX6, TX6, 6)) (q0 := 0) rfl rfl) rfl rfl hl.1 rfl (lv_room (Nat.le_of_ble_eq_true rfl)) dX6_needNumber_156 ⟨Nat.le_of_ble_eq_true rfl, Nat.le_of_ble_eq_true rfl⟩) hS hA hP hD [0] [1] rfl rfl (by decide) (by decide) (fun u H locs hw_21 hP hD hS => ?_)
          obtain ⟨fn__21, fb__21⟩ := u
          have hQ9 := pd_mk [(aB k x1 240 fx), (x0, .inr (6, (fX6 x1 (nI tz) (nI t2_4) (nI ta__2) fn__21 fb__21)))] hP hD
          clear hP hD
          obtain ⟨hP, hD⟩ := hQ9
          try dsimp only at hw_21
          obtain ⟨hs0_22, hs1_22⟩ := hw_21.2.1 rfl
          replace hs0_22 := hs0_22.symm
          subst hs0_22
          replace hs1_22 := hs1_22.symm
          subst hs1_22
          refine lv_goto (tgt := 194) hx hb dX6_needNumber_159 (by decide) ?_
          refine lv_aload_n hx hb dX6_needNumber_194 rfl (lv_at hl 3 rfl) ?_
          refine ro_i (D := D) (va_runV (As := []) (rest := []) ⟨hx, hb, hml, hown, hts⟩ ((x_failed l D k st lo x0 x1 tz t2_4 (nI ta__2) 1 (nI t2_4)) H.size) (cwV 0 hts (gV tw_471 tw_368 tw_369 tw_80 tw_370) rfl rfl rfl (by decide +kernel) ⟨Nat.le_of_ble_eq_true rfl, Nat.le_of_ble_eq_true rfl⟩) (pV hS hAlo hlo hP hK (va_Dlo hD hAlo) hZ [1] (by decide) rfl (ci := 6) (q := (RX6, TX6, 6)) (q0 := 0) rfl rfl) rfl rfl hl.1 rfl (lv_room (Nat.le_of_ble_eq_true rfl)) dX6_needNumber_195 ⟨Nat.le_of_ble_eq_true rfl, Nat.le_of_ble_eq_true rfl⟩) hS hA hP (fun r_23 H locs hw_23 hP hS => ?_)
          try dsimp only at hw_23
          obtain rfl : r_23 = 1 := by rcases hw_23 with ⟨h, h2⟩ | ⟨h, h2⟩ <;> first | exact h | exact absurd rfl h2 | exact absurd h2 (by decide)
          refine lv_if_eq (tgt := 205) hx hb dX6_needNumber_198 (by decide) (fun h => absurd h (by decide)) (fun _ => ?_)
          refine lv_iload_n hx hb dX6_needNumber_201 rfl (lv_at hl 4 rfl) ?_
          refine lv_goto (tgt := 207) hx hb dX6_needNumber_202 (by decide) ?_
          obtain ⟨hP9, hD9⟩ := pd_sub [(x0, .inr (6, (fX6 x1 (nI tz) (nI t2_4) (nI ta__2) 1 (nI t2_4)))), (aB k x1 240 fx)] [1, 0] hP hD (by decide) rfl
          exact W.iret (v := p0) hx hb hr (fun t ht hW => ⟨⟨p0, (t2_4, (nI ta__2), 1, (nI t2_4)), rfl, ⟨fun h => absurd rfl h, fun _ => ⟨_, _, rfl, .inr (.inl ⟨rfl, rfl, rfl, (nuR_A c_3 hw_2.1).trans (nuS_1t hle_6 (by omega))⟩)⟩, by omega, by omega, ⟨Int32.le_refl _, hle⟩⟩, by rw [ht]; exact hP9, hD9⟩, hS.F ht⟩) hS.2.2 dX6_needNumber_207
      · have c_5 : ¬ (tz ≤ t2_4) := fun h => c_5 ((nI_leI (a := tz) (b := t2_4) (by omega) (by omega)).mpr h)
        refine lv_aload_n hx hb dX6_needNumber_78 rfl (lv_at hl 3 rfl) ?_
        refine lv_aload_n hx hb dX6_needNumber_79 rfl (lv_at hl 3 rfl) ?_
        refine va_get (D := D) (ci := 6) (v := .int (nI t2_4)) (C := RX6) (T := TX6) (N := 6) hx hb hts inX6 hown hK hP 0 rfl rfl 2 (by decide) (hts _ tw_113) (fun _ h9 => h9) rfl dX6_needNumber_80 ?_
        refine ro_i (D := D) (va_runV (As := [.int (nI t2_4)]) (rest := []) ⟨hx, hb, hml, hown, hts⟩ ((y_isFigureAt l D k st lo x0 x1 tz t2_4 (nI ta__2) 0 fb fx t2_4 (by first | assumption | omega) (by first | assumption | omega)) H.size) (cwV 1 hts (gV tw_472 tw_473 tw_474 tw_80 tw_475) rfl rfl rfl (by decide +kernel) ⟨Nat.le_of_ble_eq_true rfl, Nat.le_of_ble_eq_true rfl⟩) (pV hS hAlo hlo hP hK (va_Dlo hD hAlo) hZ [0, 1] (by decide) rfl (ci := 6) (q := (RX6, TX6, 6)) (q0 := 0) rfl rfl) rfl rfl hl.1 rfl (lv_room (Nat.le_of_ble_eq_true rfl)) dX6_needNumber_83 ⟨Nat.le_of_ble_eq_true rfl, Nat.le_of_ble_eq_true rfl⟩) hS hA hP (fun r_24 H locs hw_24 hP hS => ?_)
        try dsimp only at hw_24
        rcases hw_24 with ⟨rfl, hw_24⟩ | ⟨rfl, hw_24⟩
        · refine lv_if_eq (tgt := 132) hx hb dX6_needNumber_86 (by decide) (fun h => absurd h (by decide)) (fun _ => ?_)
          refine lv_aload_n hx hb dX6_needNumber_89 rfl (lv_at hl 3 rfl) ?_
          refine va_get (D := D) (ci := 6) (v := .int (nI t2_4)) (C := RX6) (T := TX6) (N := 6) hx hb hts inX6 hown hK hP 0 rfl rfl 2 (by decide) (hts _ tw_113) (fun _ h9 => h9) rfl dX6_needNumber_90 ?_
          refine lv_iload hx hb dX6_needNumber_93 (lv_at hl 1 rfl) ?_
          refine lv_isub hx hb dX6_needNumber_95 ?_
          refine lv_ti (y := (nI (t2_4 - ta__2))) (pk_sub (a := t2_4) (b := ta__2) (by omega)) ?_
          refine lv_iconst (v := 3) hx hb dX6_needNumber_96 (by decide) ?_
          refine lv_icmp_ge (tgt := 119) hx hb dX6_needNumber_97 (by decide) (fun c_25 => ?_) (fun c_25 => ?_)
          · have c_25 := (nI_leI (a := 3) (b := (t2_4 - ta__2)) (by omega) (by omega)).mp c_25
            refine lv_aload_n hx hb dX6_needNumber_119 rfl (lv_at hl 3 rfl) ?_
            refine lv_dup hx hb dX6_needNumber_120 rfl ?_
            refine va_get (D := D) (ci := 6) (v := .int (nI t2_4)) (C := RX6) (T := TX6) (N := 6) hx hb hts inX6 hown hK hP 0 rfl rfl 2 (by decide) (hts _ tw_113) (fun _ h9 => h9) rfl dX6_needNumber_121 ?_
            refine lv_iconst (v := 1) hx hb dX6_needNumber_124 (by decide) ?_
            refine lv_iadd hx hb dX6_needNumber_125 ?_
            refine lv_ti (y := (nI (t2_4 + 1))) (nI_add t2_4 1) ?_
            refine va_put (D := D) (ci := 6) (v := .int (nI (t2_4 + 1))) (ty := .int) (C := RX6) (T := TX6) (N := 6) hx hb hts inX6 tyX6 tyX6_ok nmX6 hown hK hP hD hS 0 rfl rfl 2 (by decide) (hts _ tw_113) (fun _ h9 => h9) rfl (by decide +kernel) rfl rfl (Nat.le_of_ble_eq_true rfl) dX6_needNumber_126 (fun H locs hP hD hS => ?_)
            have hQ9 := pd_mk [(x0, .inr (6, (fX6 x1 (nI tz) (nI (t2_4 + 1)) (nI ta__2) 0 fb))), (aB k x1 240 fx)] hP hD
            clear hP hD
            obtain ⟨hP, hD⟩ := hQ9
            refine lv_goto (tgt := 67) hx hb dX6_needNumber_129 (by decide) ?_
            have hst_26 := nn_step (by omega) (by omega) hw_24 hv_4.2.2.1 hv_4.2.2.2
            exact ih_4 _ (t2_4 + 1, va_4) _ _ _ (by omega) ⟨rfl, ⟨by omega, by omega, hst_26.1, hst_26.2.2 (by omega)⟩, hP, hD, hS, (lv_sub hl [0, 1, 2, 3, 4, 5] rfl)⟩
          · have c_25 : ¬ (3 ≤ (t2_4 - ta__2)) := fun h => c_25 ((nI_leI (a := 3) (b := (t2_4 - ta__2)) (by omega) (by omega)).mpr h)
            refine lv_iload hx hb dX6_needNumber_100 (lv_at hl 0 rfl) ?_
            refine lv_bipush (v := 10) hx hb dX6_needNumber_102 (by decide) ?_
            refine lv_imul hx hb dX6_needNumber_104 ?_
            refine lv_topi (fun x_27 ex_27 => ?_)
            refine lv_aload_n hx hb dX6_needNumber_105 rfl (lv_at hl 3 rfl) ?_
            refine lv_aload_n hx hb dX6_needNumber_106 rfl (lv_at hl 3 rfl) ?_
            refine va_get (D := D) (ci := 6) (v := .int (nI t2_4)) (C := RX6) (T := TX6) (N := 6) hx hb hts inX6 hown hK hP 0 rfl rfl 2 (by decide) (hts _ tw_113) (fun _ h9 => h9) rfl dX6_needNumber_107 ?_
            refine ro_i (D := D) (va_runV (As := [.int (nI t2_4)]) (rest := [.int x_27]) ⟨hx, hb, hml, hown, hts⟩ ((y_byteAt l D k st lo x0 x1 tz t2_4 (nI ta__2) 0 fb fx t2_4 (by first | assumption | omega) (by first | assumption | omega)) H.size) (cwV 1 hts (gV tw_379 tw_380 tw_381 tw_80 tw_382) rfl rfl rfl (by decide +kernel) ⟨Nat.le_of_ble_eq_true rfl, Nat.le_of_ble_eq_true rfl⟩) (pV hS hAlo hlo hP hK (va_Dlo hD hAlo) hZ [0, 1] (by decide) rfl (ci := 6) (q := (RX6, TX6, 6)) (q0 := 0) rfl rfl) rfl rfl hl.1 rfl (lv_room (Nat.le_of_ble_eq_true rfl)) dX6_needNumber_110 ⟨Nat.le_of_ble_eq_true rfl, Nat.le_of_ble_eq_true rfl⟩) hS hA hP (fun r_28 H locs hw_28 hP hS => ?_)
            try dsimp only at hw_28
            refine lv_iadd hx hb dX6_needNumber_113 ?_
            refine lv_topi (fun x_29 ex_29 => ?_)
            refine lv_bipush (v := 48) hx hb dX6_needNumber_114 (by decide) ?_
            refine lv_isub hx hb dX6_needNumber_116 ?_
            refine lv_topi (fun x_30 ex_30 => ?_)
            refine lv_istore (lv' := [(5, .int x_30), (4, .int (nI ta__2)), (3, .int 0), (0, .ref x0), (1, .int p0), (2, .int p1)]) hx hb dX6_needNumber_117 hl (by decide) rfl (fun ls hl => ?_)
            refine lv_aload_n hx hb dX6_needNumber_119 rfl (lv_at hl 3 rfl) ?_
            refine lv_dup hx hb dX6_needNumber_120 rfl ?_
            refine va_get (D := D) (ci := 6) (v := .int (nI t2_4)) (C := RX6) (T := TX6) (N := 6) hx hb hts inX6 hown hK hP 0 rfl rfl 2 (by decide) (hts _ tw_113) (fun _ h9 => h9) rfl dX6_needNumber_121 ?_
            refine lv_iconst (v := 1) hx hb dX6_needNumber_124 (by decide) ?_
            refine lv_iadd hx hb dX6_needNumber_125 ?_
            refine lv_ti (y := (nI (t2_4 + 1))) (nI_add t2_4 1) ?_
            refine va_put (D := D) (ci := 6) (v := .int (nI (t2_4 + 1))) (ty := .int) (C := RX6) (T := TX6) (N := 6) hx hb hts inX6 tyX6 tyX6_ok nmX6 hown hK hP hD hS 0 rfl rfl 2 (by decide) (hts _ tw_113) (fun _ h9 => h9) rfl (by decide +kernel) rfl rfl (Nat.le_of_ble_eq_true rfl) dX6_needNumber_126 (fun H locs hP hD hS => ?_)
            have hQ9 := pd_mk [(x0, .inr (6, (fX6 x1 (nI tz) (nI (t2_4 + 1)) (nI ta__2) 0 fb))), (aB k x1 240 fx)] hP hD
            clear hP hD
            obtain ⟨hP, hD⟩ := hQ9
            refine lv_goto (tgt := 67) hx hb dX6_needNumber_129 (by decide) ?_
            have hst_31 := nn_step (by omega) (by omega) hw_24 hv_4.2.2.1 hv_4.2.2.2
            exact ih_4 _ (t2_4 + 1, x_30) _ _ _ (by omega) ⟨rfl, ⟨by omega, by omega, hst_31.1, (by rw [ex_30, ex_29, ex_27]; exact hst_31.2.1 (by omega) _ hw_28)⟩, hP, hD, hS, (lv_sub hl [0, 1, 2, 3, 4, 5] rfl)⟩
        · refine lv_if_eq (tgt := 132) hx hb dX6_needNumber_86 (by decide) (fun _ => ?_) (fun h => absurd (by decide) h)
          obtain ⟨hle_32, hve_32⟩ := nn_out (nn_fe hw_24) hv_4.2.2.1 hv_4.2.2.2
          refine lv_iload_n hx hb dX6_needNumber_132 rfl (lv_at hl 2 rfl) ?_
          refine lv_if_eq (tgt := 141) hx hb dX6_needNumber_133 (by decide) (fun _ => ?_) (fun h => absurd (by decide) h)
          refine lv_aload_n hx hb dX6_needNumber_141 rfl (lv_at hl 3 rfl) ?_
          refine va_get (D := D) (ci := 6) (v := .int (nI t2_4)) (C := RX6) (T := TX6) (N := 6) hx hb hts inX6 hown hK hP 0 rfl rfl 2 (by decide) (hts _ tw_113) (fun _ h9 => h9) rfl dX6_needNumber_142 ?_
          refine lv_iload hx hb dX6_needNumber_145 (lv_at hl 1 rfl) ?_
          refine lv_icmp_ne (tgt := 162) hx hb dX6_needNumber_147 (by decide) (fun c_33 => ?_) (fun c_33 => ?_)
          · have c_33 : ¬ (t2_4 = ta__2) := fun h => c_33 ((nI_eq (a := t2_4) (b := ta__2) (by omega) (by omega)).mpr h)
            refine lv_aload_n hx hb dX6_needNumber_162 rfl (lv_at hl 3 rfl) ?_
            refine va_get (D := D) (ci := 6) (v := .int (nI t2_4)) (C := RX6) (T := TX6) (N := 6) hx hb hts inX6 hown hK hP 0 rfl rfl 2 (by decide) (hts _ tw_113) (fun _ h9 => h9) rfl dX6_needNumber_163 ?_
            refine lv_iload hx hb dX6_needNumber_166 (lv_at hl 1 rfl) ?_
            refine lv_isub hx hb dX6_needNumber_168 ?_
            refine lv_ti (y := (nI (t2_4 - ta__2))) (pk_sub (a := t2_4) (b := ta__2) (by omega)) ?_
            refine lv_iconst (v := 3) hx hb dX6_needNumber_169 (by decide) ?_
            refine lv_icmp_gt (tgt := 185) hx hb dX6_needNumber_170 (by decide) (fun c_34 => ?_) (fun c_34 => ?_)
            · have c_34 := (nI_ltI (a := 3) (b := (t2_4 - ta__2)) (by omega) (by omega)).mp c_34
              refine lv_aload_n hx hb dX6_needNumber_185 rfl (lv_at hl 3 rfl) ?_
              refine lv_iconst (v := 2) hx hb dX6_needNumber_186 (by decide) ?_
              refine lv_aload_n hx hb dX6_needNumber_187 rfl (lv_at hl 3 rfl) ?_
              refine va_get (D := D) (ci := 6) (v := .int (nI ta__2)) (C := RX6) (T := TX6) (N := 6) hx hb hts inX6 hown hK hP 0 rfl rfl 3 (by decide) (hts _ tw_116) (fun _ h9 => h9) rfl dX6_needNumber_188 ?_
              refine rw_v (D := D) (wr := [(aB k x1 240 fx)]) (va_runV (As := [.int 2, .int (nI ta__2)]) (rest := []) ⟨hx, hb, hml, hown, hts⟩ ((y_fail l D k st lo x0 x1 tz t2_4 (nI ta__2) 0 fb 2 (nI ta__2) (by decide)) H.size) (cwV 2 hts (gV tw_476 tw_456 tw_457 tw_80 tw_458) rfl rfl rfl (by decide +kernel) ⟨Nat.le_of_ble_eq_true rfl, Nat.le_of_ble_eq_true rfl⟩) (pV hS hAlo hlo hP hK (va_Dlo hD hAlo) hZ [0] (by decide) rfl (ci := 6) (q := (RX6, TX6, 6)) (q0 := 0) rfl rfl) rfl rfl hl.1 rfl (lv_room (Nat.le_of_ble_eq_true rfl)) dX6_needNumber_191 ⟨Nat.le_of_ble_eq_true rfl, Nat.le_of_ble_eq_true rfl⟩) hS hA hP hD [0] [1] rfl rfl (by decide) (by decide) (fun u H locs hw_35 hP hD hS => ?_)
              obtain ⟨fn__35, fb__35⟩ := u
              have hQ9 := pd_mk [(aB k x1 240 fx), (x0, .inr (6, (fX6 x1 (nI tz) (nI t2_4) (nI ta__2) fn__35 fb__35)))] hP hD
              clear hP hD
              obtain ⟨hP, hD⟩ := hQ9
              try dsimp only at hw_35
              obtain ⟨hs0_36, hs1_36⟩ := hw_35.2.1 rfl
              replace hs0_36 := hs0_36.symm
              subst hs0_36
              replace hs1_36 := hs1_36.symm
              subst hs1_36
              refine lv_aload_n hx hb dX6_needNumber_194 rfl (lv_at hl 3 rfl) ?_
              refine ro_i (D := D) (va_runV (As := []) (rest := []) ⟨hx, hb, hml, hown, hts⟩ ((x_failed l D k st lo x0 x1 tz t2_4 (nI ta__2) 2 (nI ta__2)) H.size) (cwV 0 hts (gV tw_471 tw_368 tw_369 tw_80 tw_370) rfl rfl rfl (by decide +kernel) ⟨Nat.le_of_ble_eq_true rfl, Nat.le_of_ble_eq_true rfl⟩) (pV hS hAlo hlo hP hK (va_Dlo hD hAlo) hZ [1] (by decide) rfl (ci := 6) (q := (RX6, TX6, 6)) (q0 := 0) rfl rfl) rfl rfl hl.1 rfl (lv_room (Nat.le_of_ble_eq_true rfl)) dX6_needNumber_195 ⟨Nat.le_of_ble_eq_true rfl, Nat.le_of_ble_eq_true rfl⟩) hS hA hP (fun r_37 H locs hw_37 hP hS => ?_)
              try dsimp only at hw_37
              obtain rfl : r_37 = 1 := by rcases hw_37 with ⟨h, h2⟩ | ⟨h, h2⟩ <;> first | exact h | exact absurd rfl h2 | exact absurd h2 (by decide)
              refine lv_if_eq (tgt := 205) hx hb dX6_needNumber_198 (by decide) (fun h => absurd h (by decide)) (fun _ => ?_)
              refine lv_iload_n hx hb dX6_needNumber_201 rfl (lv_at hl 4 rfl) ?_
              refine lv_goto (tgt := 207) hx hb dX6_needNumber_202 (by decide) ?_
              obtain ⟨hP9, hD9⟩ := pd_sub [(x0, .inr (6, (fX6 x1 (nI tz) (nI t2_4) (nI ta__2) 2 (nI ta__2)))), (aB k x1 240 fx)] [1, 0] hP hD (by decide) rfl
              exact W.iret (v := p0) hx hb hr (fun t ht hW => ⟨⟨p0, (t2_4, (nI ta__2), 2, (nI ta__2)), rfl, ⟨fun h => absurd rfl h, fun _ => ⟨_, _, rfl, .inr (.inr ⟨rfl, rfl, rfl, (nuR_A c_3 hw_2.1).trans (nuS_2 hle_32 (by omega) (vS_f hve_32) (.inl (by omega)))⟩)⟩, by omega, by omega, ⟨Int32.le_refl _, hle⟩⟩, by rw [ht]; exact hP9, hD9⟩, hS.F ht⟩) hS.2.2 dX6_needNumber_207
            · have c_34 : ¬ (3 < (t2_4 - ta__2)) := fun h => c_34 ((nI_ltI (a := 3) (b := (t2_4 - ta__2)) (by omega) (by omega)).mpr h)
              refine lv_iload hx hb dX6_needNumber_173 (lv_at hl 0 rfl) ?_
              refine lv_iload_n hx hb dX6_needNumber_175 rfl (lv_at hl 4 rfl) ?_
              refine lv_icmp_lt (tgt := 185) hx hb dX6_needNumber_176 (by decide) (fun c_38 => ?_) (fun c_38 => ?_)
              · refine lv_aload_n hx hb dX6_needNumber_185 rfl (lv_at hl 3 rfl) ?_
                refine lv_iconst (v := 2) hx hb dX6_needNumber_186 (by decide) ?_
                refine lv_aload_n hx hb dX6_needNumber_187 rfl (lv_at hl 3 rfl) ?_
                refine va_get (D := D) (ci := 6) (v := .int (nI ta__2)) (C := RX6) (T := TX6) (N := 6) hx hb hts inX6 hown hK hP 0 rfl rfl 3 (by decide) (hts _ tw_116) (fun _ h9 => h9) rfl dX6_needNumber_188 ?_
                refine rw_v (D := D) (wr := [(aB k x1 240 fx)]) (va_runV (As := [.int 2, .int (nI ta__2)]) (rest := []) ⟨hx, hb, hml, hown, hts⟩ ((y_fail l D k st lo x0 x1 tz t2_4 (nI ta__2) 0 fb 2 (nI ta__2) (by decide)) H.size) (cwV 2 hts (gV tw_476 tw_456 tw_457 tw_80 tw_458) rfl rfl rfl (by decide +kernel) ⟨Nat.le_of_ble_eq_true rfl, Nat.le_of_ble_eq_true rfl⟩) (pV hS hAlo hlo hP hK (va_Dlo hD hAlo) hZ [0] (by decide) rfl (ci := 6) (q := (RX6, TX6, 6)) (q0 := 0) rfl rfl) rfl rfl hl.1 rfl (lv_room (Nat.le_of_ble_eq_true rfl)) dX6_needNumber_191 ⟨Nat.le_of_ble_eq_true rfl, Nat.le_of_ble_eq_true rfl⟩) hS hA hP hD [0] [1] rfl rfl (by decide) (by decide) (fun u H locs hw_39 hP hD hS => ?_)
                obtain ⟨fn__39, fb__39⟩ := u
                have hQ9 := pd_mk [(aB k x1 240 fx), (x0, .inr (6, (fX6 x1 (nI tz) (nI t2_4) (nI ta__2) fn__39 fb__39)))] hP hD
                clear hP hD
                obtain ⟨hP, hD⟩ := hQ9
                try dsimp only at hw_39
                obtain ⟨hs0_40, hs1_40⟩ := hw_39.2.1 rfl
                replace hs0_40 := hs0_40.symm
                subst hs0_40
                replace hs1_40 := hs1_40.symm
                subst hs1_40
                refine lv_aload_n hx hb dX6_needNumber_194 rfl (lv_at hl 3 rfl) ?_
                refine ro_i (D := D) (va_runV (As := []) (rest := []) ⟨hx, hb, hml, hown, hts⟩ ((x_failed l D k st lo x0 x1 tz t2_4 (nI ta__2) 2 (nI ta__2)) H.size) (cwV 0 hts (gV tw_471 tw_368 tw_369 tw_80 tw_370) rfl rfl rfl (by decide +kernel) ⟨Nat.le_of_ble_eq_true rfl, Nat.le_of_ble_eq_true rfl⟩) (pV hS hAlo hlo hP hK (va_Dlo hD hAlo) hZ [1] (by decide) rfl (ci := 6) (q := (RX6, TX6, 6)) (q0 := 0) rfl rfl) rfl rfl hl.1 rfl (lv_room (Nat.le_of_ble_eq_true rfl)) dX6_needNumber_195 ⟨Nat.le_of_ble_eq_true rfl, Nat.le_of_ble_eq_true rfl⟩) hS hA hP (fun r_41 H locs hw_41 hP hS => ?_)
                try dsimp only at hw_41
                obtain rfl : r_41 = 1 := by rcases hw_41 with ⟨h, h2⟩ | ⟨h, h2⟩ <;> first | exact h | exact absurd rfl h2 | exact absurd h2 (by decide)
                refine lv_if_eq (tgt := 205) hx hb dX6_needNumber_198 (by decide) (fun h => absurd h (by decide)) (fun _ => ?_)
                refine lv_iload_n hx hb dX6_needNumber_201 rfl (lv_at hl 4 rfl) ?_
                refine lv_goto (tgt := 207) hx hb dX6_needNumber_202 (by decide) ?_
                obtain ⟨hP9, hD9⟩ := pd_sub [(x0, .inr (6, (fX6 x1 (nI tz) (nI t2_4) (nI ta__2) 2 (nI ta__2)))), (aB k x1 240 fx)] [1, 0] hP hD (by decide) rfl
                exact W.iret (v := p0) hx hb hr (fun t ht hW => ⟨⟨p0, (t2_4, (nI ta__2), 2, (nI ta__2)), rfl, ⟨fun h => absurd rfl h, fun _ => ⟨_, _, rfl, .inr (.inr ⟨rfl, rfl, rfl, (nuR_A c_3 hw_2.1).trans (nuS_2 hle_32 (by omega) (vS_f hve_32) (.inr (fun h => absurd h.1 (Int32.not_le.mpr c_38))))⟩)⟩, by omega, by omega, ⟨Int32.le_refl _, hle⟩⟩, by rw [ht]; exact hP9, hD9⟩, hS.F ht⟩) hS.2.2 dX6_needNumber_207
              · refine lv_iload hx hb dX6_needNumber_179 (lv_at hl 0 rfl) ?_
                refine lv_iload_n hx hb dX6_needNumber_181 rfl (lv_at hl 5 rfl) ?_
                refine lv_icmp_le (tgt := 194) hx hb dX6_needNumber_182 (by decide) (fun c_42 => ?_) (fun c_42 => ?_)
                · refine lv_aload_n hx hb dX6_needNumber_194 rfl (lv_at hl 3 rfl) ?_
                  refine ro_i (D := D) (va_runV (As := []) (rest := []) ⟨hx, hb, hml, hown, hts⟩ ((x_failed l D k st lo x0 x1 tz t2_4 (nI ta__2) 0 fb) H.size) (cwV 0 hts (gV tw_471 tw_368 tw_369 tw_80 tw_370) rfl rfl rfl (by decide +kernel) ⟨Nat.le_of_ble_eq_true rfl, Nat.le_of_ble_eq_true rfl⟩) (pV hS hAlo hlo hP hK (va_Dlo hD hAlo) hZ [0] (by decide) rfl (ci := 6) (q := (RX6, TX6, 6)) (q0 := 0) rfl rfl) rfl rfl hl.1 rfl (lv_room (Nat.le_of_ble_eq_true rfl)) dX6_needNumber_195 ⟨Nat.le_of_ble_eq_true rfl, Nat.le_of_ble_eq_true rfl⟩) hS hA hP (fun r_43 H locs hw_43 hP hS => ?_)
                  try dsimp only at hw_43
                  obtain rfl : r_43 = 0 := by rcases hw_43 with ⟨h, h2⟩ | ⟨h, h2⟩ <;> first | exact h | exact absurd rfl h2 | exact absurd h2 (by decide)
                  refine lv_if_eq (tgt := 205) hx hb dX6_needNumber_198 (by decide) (fun _ => ?_) (fun h => absurd (by decide) h)
                  refine lv_iload hx hb dX6_needNumber_205 (lv_at hl 0 rfl) ?_
                  obtain ⟨hP9, hD9⟩ := pd_sub [(x0, .inr (6, (fX6 x1 (nI tz) (nI t2_4) (nI ta__2) 0 fb))), (aB k x1 240 fx)] [0, 1] hP hD (by decide) rfl
                  exact W.iret (v := va_4) hx hb hr (fun t ht hW => ⟨⟨va_4, (t2_4, (nI ta__2), 0, fb), rfl, ⟨fun h => absurd rfl h, fun _ => ⟨0, _, rfl, .inl ⟨rfl, (nuR_A c_3 hw_2.1).trans (nuS_0 hle_32 (by omega) (vS_f hve_32) (by omega) ⟨Int32.not_lt.mp c_38, c_42⟩)⟩⟩, by omega, by omega, ⟨Int32.not_lt.mp c_38, c_42⟩⟩, by rw [ht]; exact hP9, hD9⟩, hS.F ht⟩) hS.2.2 dX6_needNumber_207
                · refine lv_aload_n hx hb dX6_needNumber_185 rfl (lv_at hl 3 rfl) ?_
                  refine lv_iconst (v := 2) hx hb dX6_needNumber_186 (by decide) ?_
                  refine lv_aload_n hx hb dX6_needNumber_187 rfl (lv_at hl 3 rfl) ?_
                  refine va_get (D := D) (ci := 6) (v := .int (nI ta__2)) (C := RX6) (T := TX6) (N := 6) hx hb hts inX6 hown hK hP 0 rfl rfl 3 (by decide) (hts _ tw_116) (fun _ h9 => h9) rfl dX6_needNumber_188 ?_
                  refine rw_v (D := D) (wr := [(aB k x1 240 fx)]) (va_runV (As := [.int 2, .int (nI ta__2)]) (rest := []) ⟨hx, hb, hml, hown, hts⟩ ((y_fail l D k st lo x0 x1 tz t2_4 (nI ta__2) 0 fb 2 (nI ta__2) (by decide)) H.size) (cwV 2 hts (gV tw_476 tw_456 tw_457 tw_80 tw_458) rfl rfl rfl (by decide +kernel) ⟨Nat.le_of_ble_eq_true rfl, Nat.le_of_ble_eq_true rfl⟩) (pV hS hAlo hlo hP hK (va_Dlo hD hAlo) hZ [0] (by decide) rfl (ci := 6) (q := (RX6, TX6, 6)) (q0 := 0) rfl rfl) rfl rfl hl.1 rfl (lv_room (Nat.le_of_ble_eq_true rfl)) dX6_needNumber_191 ⟨Nat.le_of_ble_eq_true rfl, Nat.le_of_ble_eq_true rfl⟩) hS hA hP hD [0] [1] rfl rfl (by decide) (by decide) (fun u H locs hw_44 hP hD hS => ?_)
                  obtain ⟨fn__44, fb__44⟩ := u
                  have hQ9 := pd_mk [(aB k x1 240 fx), (x0, .inr (6, (fX6 x1 (nI tz) (nI t2_4) (nI ta__2) fn__44 fb__44)))] hP hD
                  clear hP hD
                  obtain ⟨hP, hD⟩ := hQ9
                  try dsimp only at hw_44
                  obtain ⟨hs0_45, hs1_45⟩ := hw_44.2.1 rfl
                  replace hs0_45 := hs0_45.symm
                  subst hs0_45
                  replace hs1_45 := hs1_45.symm
                  subst hs1_45
                  refine lv_aload_n hx hb dX6_needNumber_194 rfl (lv_at hl 3 rfl) ?_
                  refine ro_i (D := D) (va_runV (As := []) (rest := []) ⟨hx, hb, hml, hown, hts⟩ ((x_failed l D k st lo x0 x1 tz t2_4 (nI ta__2) 2 (nI ta__2)) H.size) (cwV 0 hts (gV tw_471 tw_368 tw_369 tw_80 tw_370) rfl rfl rfl (by decide +kernel) ⟨Nat.le_of_ble_eq_true rfl, Nat.le_of_ble_eq_true rfl⟩) (pV hS hAlo hlo hP hK (va_Dlo hD hAlo) hZ [1] (by decide) rfl (ci := 6) (q := (RX6, TX6, 6)) (q0 := 0) rfl rfl) rfl rfl hl.1 rfl (lv_room (Nat.le_of_ble_eq_true rfl)) dX6_needNumber_195 ⟨Nat.le_of_ble_eq_true rfl, Nat.le_of_ble_eq_true rfl⟩) hS hA hP (fun r_46 H locs hw_46 hP hS => ?_)
                  try dsimp only at hw_46
                  obtain rfl : r_46 = 1 := by rcases hw_46 with ⟨h, h2⟩ | ⟨h, h2⟩ <;> first | exact h | exact absurd rfl h2 | exact absurd h2 (by decide)
                  refine lv_if_eq (tgt := 205) hx hb dX6_needNumber_198 (by decide) (fun h => absurd h (by decide)) (fun _ => ?_)
                  refine lv_iload_n hx hb dX6_needNumber_201 rfl (lv_at hl 4 rfl) ?_
                  refine lv_goto (tgt := 207) hx hb dX6_needNumber_202 (by decide) ?_
                  obtain ⟨hP9, hD9⟩ := pd_sub [(x0, .inr (6, (fX6 x1 (nI tz) (nI t2_4) (nI ta__2) 2 (nI ta__2)))), (aB k x1 240 fx)] [1, 0] hP hD (by decide) rfl
                  exact W.iret (v := p0) hx hb hr (fun t ht hW => ⟨⟨p0, (t2_4, (nI ta__2), 2, (nI ta__2)), rfl, ⟨fun h => absurd rfl h, fun _ => ⟨_, _, rfl, .inr (.inr ⟨rfl, rfl, rfl, (nuR_A c_3 hw_2.1).trans (nuS_2 hle_32 (by omega) (vS_f hve_32) (.inr (fun h => absurd h.2 c_42)))⟩)⟩, by omega, by omega, ⟨Int32.le_refl _, hle⟩⟩, by rw [ht]; exact hP9, hD9⟩, hS.F ht⟩) hS.2.2 dX6_needNumber_207
          · have c_33 := (nI_eq (a := t2_4) (b := ta__2) (by omega) (by omega)).mp c_33
            refine lv_aload_n hx hb dX6_needNumber_150 rfl (lv_at hl 3 rfl) ?_
            refine lv_iconst (v := 1) hx hb dX6_needNumber_151 (by decide) ?_
            refine lv_aload_n hx hb dX6_needNumber_152 rfl (lv_at hl 3 rfl) ?_
            refine va_get (D := D) (ci := 6) (v := .int (nI t2_4)) (C := RX6) (T := TX6) (N := 6) hx hb hts inX6 hown hK hP 0 rfl rfl 2 (by decide) (hts _ tw_113) (fun _ h9 => h9) rfl dX6_needNumber_153 ?_
            refine rw_v (D := D) (wr := [(aB k x1 240 fx)]) (va_runV (As := [.int 1, .int (nI t2_4)]) (rest := []) ⟨hx, hb, hml, hown, hts⟩ ((y_fail l D k st lo x0 x1 tz t2_4 (nI ta__2) 0 fb 1 (nI t2_4) (by decide)) H.size) (cwV 2 hts (gV tw_476 tw_456 tw_457 tw_80 tw_458) rfl rfl rfl (by decide +kernel) ⟨Nat.le_of_ble_eq_true rfl, Nat.le_of_ble_eq_true rfl⟩) (pV hS hAlo hlo hP hK (va_Dlo hD hAlo) hZ [0] (by decide) rfl (ci := 6) (q := (RX6, TX6, 6)) (q0 := 0) rfl rfl) rfl rfl hl.1 rfl (lv_room (Nat.le_of_ble_eq_true rfl)) dX6_needNumber_156 ⟨Nat.le_of_ble_eq_true rfl, Nat.le_of_ble_eq_true rfl⟩) hS hA hP hD [0] [1] rfl rfl (by decide) (by decide) (fun u H locs hw_47 hP hD hS => ?_)
            obtain ⟨fn__47, fb__47⟩ := u
            have hQ9 := pd_mk [(aB k x1 240 fx), (x0, .inr (6, (fX6 x1 (nI tz) (nI t2_4) (nI ta__2) fn__47 fb__47)))] hP hD
            clear hP hD
            obtain ⟨hP, hD⟩ := hQ9
            try dsimp only at hw_47
            obtain ⟨hs0_48, hs1_48⟩ := hw_47.2.1 rfl
            replace hs0_48 := hs0_48.symm
            subst hs0_48
            replace hs1_48 := hs1_48.symm
            subst hs1_48
            refine lv_goto (tgt := 194) hx hb dX6_needNumber_159 (by decide) ?_
            refine lv_aload_n hx hb dX6_needNumber_194 rfl (lv_at hl 3 rfl) ?_
            refine ro_i (D := D) (va_runV (As := []) (rest := []) ⟨hx, hb, hml, hown, hts⟩ ((x_failed l D k st lo x0 x1 tz t2_4 (nI ta__2) 1 (nI t2_4)) H.size) (cwV 0 hts (gV tw_471 tw_368 tw_369 tw_80 tw_370) rfl rfl rfl (by decide +kernel) ⟨Nat.le_of_ble_eq_true rfl, Nat.le_of_ble_eq_true rfl⟩) (pV hS hAlo hlo hP hK (va_Dlo hD hAlo) hZ [1] (by decide) rfl (ci := 6) (q := (RX6, TX6, 6)) (q0 := 0) rfl rfl) rfl rfl hl.1 rfl (lv_room (Nat.le_of_ble_eq_true rfl)) dX6_needNumber_195 ⟨Nat.le_of_ble_eq_true rfl, Nat.le_of_ble_eq_true rfl⟩) hS hA hP (fun r_49 H locs hw_49 hP hS => ?_)
            try dsimp only at hw_49
            obtain rfl : r_49 = 1 := by rcases hw_49 with ⟨h, h2⟩ | ⟨h, h2⟩ <;> first | exact h | exact absurd rfl h2 | exact absurd h2 (by decide)
            refine lv_if_eq (tgt := 205) hx hb dX6_needNumber_198 (by decide) (fun h => absurd h (by decide)) (fun _ => ?_)
            refine lv_iload_n hx hb dX6_needNumber_201 rfl (lv_at hl 4 rfl) ?_
            refine lv_goto (tgt := 207) hx hb dX6_needNumber_202 (by decide) ?_
            obtain ⟨hP9, hD9⟩ := pd_sub [(x0, .inr (6, (fX6 x1 (nI tz) (nI t2_4) (nI ta__2) 1 (nI t2_4)))), (aB k x1 240 fx)] [1, 0] hP hD (by decide) rfl
            exact W.iret (v := p0) hx hb hr (fun t ht hW => ⟨⟨p0, (t2_4, (nI ta__2), 1, (nI t2_4)), rfl, ⟨fun h => absurd rfl h, fun _ => ⟨_, _, rfl, .inr (.inl ⟨rfl, rfl, rfl, (nuR_A c_3 hw_2.1).trans (nuS_1t hle_32 (by omega))⟩)⟩, by omega, by omega, ⟨Int32.le_refl _, hle⟩⟩, by rw [ht]; exact hP9, hD9⟩, hS.F ht⟩) hS.2.2 dX6_needNumber_207
    · refine lv_aload_n hx hb dX6_needNumber_25 rfl (lv_at hl 0 rfl) ?_
      refine lv_aload_n hx hb dX6_needNumber_26 rfl (lv_at hl 0 rfl) ?_
      refine va_get (D := D) (ci := 6) (v := .int (nI ta__2)) (C := RX6) (T := TX6) (N := 6) hx hb hts inX6 hown hK hP 0 rfl rfl 2 (by decide) (hts _ tw_113) (fun _ h9 => h9) rfl dX6_needNumber_27 ?_
      refine ro_i (D := D) (va_runV (As := [.int (nI ta__2)]) (rest := []) ⟨hx, hb, hml, hown, hts⟩ ((y_byteAt l D k st lo x0 x1 tz ta__2 (nI ta__2) 0 fb fx ta__2 (by first | assumption | omega) (by first | assumption | omega)) H.size) (cwV 1 hts (gV tw_379 tw_380 tw_381 tw_80 tw_382) rfl rfl rfl (by decide +kernel) ⟨Nat.le_of_ble_eq_true rfl, Nat.le_of_ble_eq_true rfl⟩) (pV hS hAlo hlo hP hK (va_Dlo hD hAlo) hZ [0, 1] (by decide) rfl (ci := 6) (q := (RX6, TX6, 6)) (q0 := 0) rfl rfl) rfl rfl hl.1 rfl (lv_room (Nat.le_of_ble_eq_true rfl)) dX6_needNumber_30 ⟨Nat.le_of_ble_eq_true rfl, Nat.le_of_ble_eq_true rfl⟩) hS hA hP (fun r_50 H locs hw_50 hP hS => ?_)
      try dsimp only at hw_50
      refine lv_bipush (v := 45) hx hb dX6_needNumber_33 (by decide) ?_
      refine lv_icmp_ne (tgt := 42) hx hb dX6_needNumber_35 (by decide) (fun c_51 => ?_) (fun c_51 => ?_)
      · refine lv_iconst (v := 0) hx hb dX6_needNumber_42 (by decide) ?_
        refine lv_istore_n (lv' := [(3, .int 0), (0, .ref x0), (1, .int p0), (2, .int p1)]) hx hb dX6_needNumber_43 rfl hl (by decide) rfl (fun ls hl => ?_)
        refine lv_iload_n hx hb dX6_needNumber_44 rfl (lv_at hl 0 rfl) ?_
        refine lv_if_eq (tgt := 58) hx hb dX6_needNumber_45 (by decide) (fun _ => ?_) (fun h => absurd (by decide) h)
        refine lv_aload_n hx hb dX6_needNumber_58 rfl (lv_at hl 1 rfl) ?_
        refine va_get (D := D) (ci := 6) (v := .int (nI ta__2)) (C := RX6) (T := TX6) (N := 6) hx hb hts inX6 hown hK hP 0 rfl rfl 2 (by decide) (hts _ tw_113) (fun _ h9 => h9) rfl dX6_needNumber_59 ?_
        refine lv_istore (lv' := [(4, .int (nI ta__2)), (3, .int 0), (0, .ref x0), (1, .int p0), (2, .int p1)]) hx hb dX6_needNumber_62 hl (by decide) rfl (fun ls hl => ?_)
        refine lv_iconst (v := 0) hx hb dX6_needNumber_64 (by decide) ?_
        refine lv_istore (lv' := [(5, .int 0), (4, .int (nI ta__2)), (3, .int 0), (0, .ref x0), (1, .int p0), (2, .int p1)]) hx hb dX6_needNumber_65 hl (by decide) rfl (fun ls hl => ?_)
        refine W_loop (σ := Nat × Int32) (fun (n_ : Nat) (x_ : Nat × Int32) (H : Heap) (locs : List Loc) (ls : Array Slot) => match x_ with | (t2_52, va_52) => n_ = tz - t2_52 ∧ (ta__2 ≤ t2_52 ∧ t2_52 ≤ tz ∧ ta__2 + (figA (bF fx) tz (ta__2)).length = t2_52 + (figA (bF fx) tz t2_52).length ∧ vXk (t2_52 - (ta__2)) va_52 (figA (bF fx) tz t2_52) = vX (figA (bF fx) tz (ta__2))) ∧ va_P D classes [(x0, .inr (6, (fX6 x1 (nI tz) (nI t2_52) (nI ta__2) 0 fb))), (aB k x1 240 fx)] H ∧ va_D A [(x0, .inr (6, (fX6 x1 (nI tz) (nI t2_52) (nI ta__2) 0 fb))), (aB k x1 240 fx)] ∧ va_S A s.heap H locs ∧ lv_has ls 6 [(5, .int va_52), (4, .int (nI ta__2)), (3, .int 0), (0, .ref x0), (1, .int p0), (2, .int p1)]) (fun n_52 x_52 H locs ls hI ih_52 => ?_) _ (ta__2, 0) ⟨rfl, ⟨by omega, by omega, rfl, by rw [Nat.sub_self]; rfl⟩, hP, hD, hS, (lv_sub hl [0, 1, 2, 3, 4, 5] rfl)⟩
        obtain ⟨t2_52, va_52⟩ := x_52
        obtain ⟨hm_52, hv_52, hP, hD, hS, hl⟩ := hI
        subst hm_52
        refine lv_aload_n hx hb dX6_needNumber_67 rfl (lv_at hl 3 rfl) ?_
        refine va_get (D := D) (ci := 6) (v := .int (nI t2_52)) (C := RX6) (T := TX6) (N := 6) hx hb hts inX6 hown hK hP 0 rfl rfl 2 (by decide) (hts _ tw_113) (fun _ h9 => h9) rfl dX6_needNumber_68 ?_
        refine lv_aload_n hx hb dX6_needNumber_71 rfl (lv_at hl 3 rfl) ?_
        refine va_get (D := D) (ci := 6) (v := .int (nI tz)) (C := RX6) (T := TX6) (N := 6) hx hb hts inX6 hown hK hP 0 rfl rfl 1 (by decide) (hts _ tw_110) (fun _ h9 => h9) rfl dX6_needNumber_72 ?_
        refine lv_icmp_ge (tgt := 132) hx hb dX6_needNumber_75 (by decide) (fun c_53 => ?_) (fun c_53 => ?_)
        · have c_53 := (nI_leI (a := tz) (b := t2_52) (by omega) (by omega)).mp c_53
          obtain ⟨hle_54, hve_54⟩ := nn_out (figA_end (by omega)) hv_52.2.2.1 hv_52.2.2.2
          refine lv_iload_n hx hb dX6_needNumber_132 rfl (lv_at hl 2 rfl) ?_
          refine lv_if_eq (tgt := 141) hx hb dX6_needNumber_133 (by decide) (fun _ => ?_) (fun h => absurd (by decide) h)
          refine lv_aload_n hx hb dX6_needNumber_141 rfl (lv_at hl 3 rfl) ?_
          refine va_get (D := D) (ci := 6) (v := .int (nI t2_52)) (C := RX6) (T := TX6) (N := 6) hx hb hts inX6 hown hK hP 0 rfl rfl 2 (by decide) (hts _ tw_113) (fun _ h9 => h9) rfl dX6_needNumber_142 ?_
          refine lv_iload hx hb dX6_needNumber_145 (lv_at hl 1 rfl) ?_
          refine lv_icmp_ne (tgt := 162) hx hb dX6_needNumber_147 (by decide) (fun c_55 => ?_) (fun c_55 => ?_)
          · have c_55 : ¬ (t2_52 = ta__2) := fun h => c_55 ((nI_eq (a := t2_52) (b := ta__2) (by omega) (by omega)).mpr h)
            refine lv_aload_n hx hb dX6_needNumber_162 rfl (lv_at hl 3 rfl) ?_
            refine va_get (D := D) (ci := 6) (v := .int (nI t2_52)) (C := RX6) (T := TX6) (N := 6) hx hb hts inX6 hown hK hP 0 rfl rfl 2 (by decide) (hts _ tw_113) (fun _ h9 => h9) rfl dX6_needNumber_163 ?_
            refine lv_iload hx hb dX6_needNumber_166 (lv_at hl 1 rfl) ?_
            refine lv_isub hx hb dX6_needNumber_168 ?_
            refine lv_ti (y := (nI (t2_52 - ta__2))) (pk_sub (a := t2_52) (b := ta__2) (by omega)) ?_
            refine lv_iconst (v := 3) hx hb dX6_needNumber_169 (by decide) ?_
            refine lv_icmp_gt (tgt := 185) hx hb dX6_needNumber_170 (by decide) (fun c_56 => ?_) (fun c_56 => ?_)
            · have c_56 := (nI_ltI (a := 3) (b := (t2_52 - ta__2)) (by omega) (by omega)).mp c_56
              refine lv_aload_n hx hb dX6_needNumber_185 rfl (lv_at hl 3 rfl) ?_
              refine lv_iconst (v := 2) hx hb dX6_needNumber_186 (by decide) ?_
              refine lv_aload_n hx hb dX6_needNumber_187 rfl (lv_at hl 3 rfl) ?_
              refine va_get (D := D) (ci := 6) (v := .int (nI ta__2)) (C := RX6) (T := TX6) (N := 6) hx hb hts inX6 hown hK hP 0 rfl rfl 3 (by decide) (hts _ tw_116) (fun _ h9 => h9) rfl dX6_needNumber_188 ?_
              refine rw_v (D := D) (wr := [(aB k x1 240 fx)]) (va_runV (As := [.int 2, .int (nI ta__2)]) (rest := []) ⟨hx, hb, hml, hown, hts⟩ ((y_fail l D k st lo x0 x1 tz t2_52 (nI ta__2) 0 fb 2 (nI ta__2) (by decide)) H.size) (cwV 2 hts (gV tw_476 tw_456 tw_457 tw_80 tw_458) rfl rfl rfl (by decide +kernel) ⟨Nat.le_of_ble_eq_true rfl, Nat.le_of_ble_eq_true rfl⟩) (pV hS hAlo hlo hP hK (va_Dlo hD hAlo) hZ [0] (by decide) rfl (ci := 6) (q := (RX6, TX6, 6)) (q0 := 0) rfl rfl) rfl rfl hl.1 rfl (lv_room (Nat.le_of_ble_eq_true rfl)) dX6_needNumber_191 ⟨Nat.le_of_ble_eq_true rfl, Nat.le_of_ble_eq_true rfl⟩) hS hA hP hD [0] [1] rfl rfl (by decide) (by decide) (fun u H locs hw_57 hP hD hS => ?_)
              obtain ⟨fn__57, fb__57⟩ := u
              have hQ9 := pd_mk [(aB k x1 240 fx), (x0, .inr (6, (fX6 x1 (nI tz) (nI t2_52) (nI ta__2) fn__57 fb__57)))] hP hD
              clear hP hD
              obtain ⟨hP, hD⟩ := hQ9
              try dsimp only at hw_57
              obtain ⟨hs0_58, hs1_58⟩ := hw_57.2.1 rfl
              replace hs0_58 := hs0_58.symm
              subst hs0_58
              replace hs1_58 := hs1_58.symm
              subst hs1_58
              refine lv_aload_n hx hb dX6_needNumber_194 rfl (lv_at hl 3 rfl) ?_
              refine ro_i (D := D) (va_runV (As := []) (rest := []) ⟨hx, hb, hml, hown, hts⟩ ((x_failed l D k st lo x0 x1 tz t2_52 (nI ta__2) 2 (nI ta__2)) H.size) (cwV 0 hts (gV tw_471 tw_368 tw_369 tw_80 tw_370) rfl rfl rfl (by decide +kernel) ⟨Nat.le_of_ble_eq_true rfl, Nat.le_of_ble_eq_true rfl⟩) (pV hS hAlo hlo hP hK (va_Dlo hD hAlo) hZ [1] (by decide) rfl (ci := 6) (q := (RX6, TX6, 6)) (q0 := 0) rfl rfl) rfl rfl hl.1 rfl (lv_room (Nat.le_of_ble_eq_true rfl)) dX6_needNumber_195 ⟨Nat.le_of_ble_eq_true rfl, Nat.le_of_ble_eq_true rfl⟩) hS hA hP (fun r_59 H locs hw_59 hP hS => ?_)
              try dsimp only at hw_59
              obtain rfl : r_59 = 1 := by rcases hw_59 with ⟨h, h2⟩ | ⟨h, h2⟩ <;> first | exact h | exact absurd rfl h2 | exact absurd h2 (by decide)
              refine lv_if_eq (tgt := 205) hx hb dX6_needNumber_198 (by decide) (fun h => absurd h (by decide)) (fun _ => ?_)
              refine lv_iload_n hx hb dX6_needNumber_201 rfl (lv_at hl 4 rfl) ?_
              refine lv_goto (tgt := 207) hx hb dX6_needNumber_202 (by decide) ?_
              obtain ⟨hP9, hD9⟩ := pd_sub [(x0, .inr (6, (fX6 x1 (nI tz) (nI t2_52) (nI ta__2) 2 (nI ta__2)))), (aB k x1 240 fx)] [1, 0] hP hD (by decide) rfl
              exact W.iret (v := p0) hx hb hr (fun t ht hW => ⟨⟨p0, (t2_52, (nI ta__2), 2, (nI ta__2)), rfl, ⟨fun h => absurd rfl h, fun _ => ⟨_, _, rfl, .inr (.inr ⟨rfl, rfl, rfl, (nuR_B hw_50 c_51 hw_2.1).trans (nuS_2 hle_54 (by omega) (vS_f hve_54) (.inl (by omega)))⟩)⟩, by omega, by omega, ⟨Int32.le_refl _, hle⟩⟩, by rw [ht]; exact hP9, hD9⟩, hS.F ht⟩) hS.2.2 dX6_needNumber_207
            · have c_56 : ¬ (3 < (t2_52 - ta__2)) := fun h => c_56 ((nI_ltI (a := 3) (b := (t2_52 - ta__2)) (by omega) (by omega)).mpr h)
              refine lv_iload hx hb dX6_needNumber_173 (lv_at hl 0 rfl) ?_
              refine lv_iload_n hx hb dX6_needNumber_175 rfl (lv_at hl 4 rfl) ?_
              refine lv_icmp_lt (tgt := 185) hx hb dX6_needNumber_176 (by decide) (fun c_60 => ?_) (fun c_60 => ?_)
              · refine lv_aload_n hx hb dX6_needNumber_185 rfl (lv_at hl 3 rfl) ?_
                refine lv_iconst (v := 2) hx hb dX6_needNumber_186 (by decide) ?_
                refine lv_aload_n hx hb dX6_needNumber_187 rfl (lv_at hl 3 rfl) ?_
                refine va_get (D := D) (ci := 6) (v := .int (nI ta__2)) (C := RX6) (T := TX6) (N := 6) hx hb hts inX6 hown hK hP 0 rfl rfl 3 (by decide) (hts _ tw_116) (fun _ h9 => h9) rfl dX6_needNumber_188 ?_
                refine rw_v (D := D) (wr := [(aB k x1 240 fx)]) (va_runV (As := [.int 2, .int (nI ta__2)]) (rest := []) ⟨hx, hb, hml, hown, hts⟩ ((y_fail l D k st lo x0 x1 tz t2_52 (nI ta__2) 0 fb 2 (nI ta__2) (by decide)) H.size) (cwV 2 hts (gV tw_476 tw_456 tw_457 tw_80 tw_458) rfl rfl rfl (by decide +kernel) ⟨Nat.le_of_ble_eq_true rfl, Nat.le_of_ble_eq_true rfl⟩) (pV hS hAlo hlo hP hK (va_Dlo hD hAlo) hZ [0] (by decide) rfl (ci := 6) (q := (RX6, TX6, 6)) (q0 := 0) rfl rfl) rfl rfl hl.1 rfl (lv_room (Nat.le_of_ble_eq_true rfl)) dX6_needNumber_191 ⟨Nat.le_of_ble_eq_true rfl, Nat.le_of_ble_eq_true rfl⟩) hS hA hP hD [0] [1] rfl rfl (by decide) (by decide) (fun u H locs hw_61 hP hD hS => ?_)
                obtain ⟨fn__61, fb__61⟩ := u
                have hQ9 := pd_mk [(aB k x1 240 fx), (x0, .inr (6, (fX6 x1 (nI tz) (nI t2_52) (nI ta__2) fn__61 fb__61)))] hP hD
                clear hP hD
                obtain ⟨hP, hD⟩ := hQ9
                try dsimp only at hw_61
                obtain ⟨hs0_62, hs1_62⟩ := hw_61.2.1 rfl
                replace hs0_62 := hs0_62.symm
                subst hs0_62
                replace hs1_62 := hs1_62.symm
                subst hs1_62
                refine lv_aload_n hx hb dX6_needNumber_194 rfl (lv_at hl 3 rfl) ?_
                refine ro_i (D := D) (va_runV (As := []) (rest := []) ⟨hx, hb, hml, hown, hts⟩ ((x_failed l D k st lo x0 x1 tz t2_52 (nI ta__2) 2 (nI ta__2)) H.size) (cwV 0 hts (gV tw_471 tw_368 tw_369 tw_80 tw_370) rfl rfl rfl (by decide +kernel) ⟨Nat.le_of_ble_eq_true rfl, Nat.le_of_ble_eq_true rfl⟩) (pV hS hAlo hlo hP hK (va_Dlo hD hAlo) hZ [1] (by decide) rfl (ci := 6) (q := (RX6, TX6, 6)) (q0 := 0) rfl rfl) rfl rfl hl.1 rfl (lv_room (Nat.le_of_ble_eq_true rfl)) dX6_needNumber_195 ⟨Nat.le_of_ble_eq_true rfl, Nat.le_of_ble_eq_true rfl⟩) hS hA hP (fun r_63 H locs hw_63 hP hS => ?_)
                try dsimp only at hw_63
                obtain rfl : r_63 = 1 := by rcases hw_63 with ⟨h, h2⟩ | ⟨h, h2⟩ <;> first | exact h | exact absurd rfl h2 | exact absurd h2 (by decide)
                refine lv_if_eq (tgt := 205) hx hb dX6_needNumber_198 (by decide) (fun h => absurd h (by decide)) (fun _ => ?_)
                refine lv_iload_n hx hb dX6_needNumber_201 rfl (lv_at hl 4 rfl) ?_
                refine lv_goto (tgt := 207) hx hb dX6_needNumber_202 (by decide) ?_
                obtain ⟨hP9, hD9⟩ := pd_sub [(x0, .inr (6, (fX6 x1 (nI tz) (nI t2_52) (nI ta__2) 2 (nI ta__2)))), (aB k x1 240 fx)] [1, 0] hP hD (by decide) rfl
                exact W.iret (v := p0) hx hb hr (fun t ht hW => ⟨⟨p0, (t2_52, (nI ta__2), 2, (nI ta__2)), rfl, ⟨fun h => absurd rfl h, fun _ => ⟨_, _, rfl, .inr (.inr ⟨rfl, rfl, rfl, (nuR_B hw_50 c_51 hw_2.1).trans (nuS_2 hle_54 (by omega) (vS_f hve_54) (.inr (fun h => absurd h.1 (Int32.not_le.mpr c_60))))⟩)⟩, by omega, by omega, ⟨Int32.le_refl _, hle⟩⟩, by rw [ht]; exact hP9, hD9⟩, hS.F ht⟩) hS.2.2 dX6_needNumber_207
              · refine lv_iload hx hb dX6_needNumber_179 (lv_at hl 0 rfl) ?_
                refine lv_iload_n hx hb dX6_needNumber_181 rfl (lv_at hl 5 rfl) ?_
                refine lv_icmp_le (tgt := 194) hx hb dX6_needNumber_182 (by decide) (fun c_64 => ?_) (fun c_64 => ?_)
                · refine lv_aload_n hx hb dX6_needNumber_194 rfl (lv_at hl 3 rfl) ?_
                  refine ro_i (D := D) (va_runV (As := []) (rest := []) ⟨hx, hb, hml, hown, hts⟩ ((x_failed l D k st lo x0 x1 tz t2_52 (nI ta__2) 0 fb) H.size) (cwV 0 hts (gV tw_471 tw_368 tw_369 tw_80 tw_370) rfl rfl rfl (by decide +kernel) ⟨Nat.le_of_ble_eq_true rfl, Nat.le_of_ble_eq_true rfl⟩) (pV hS hAlo hlo hP hK (va_Dlo hD hAlo) hZ [0] (by decide) rfl (ci := 6) (q := (RX6, TX6, 6)) (q0 := 0) rfl rfl) rfl rfl hl.1 rfl (lv_room (Nat.le_of_ble_eq_true rfl)) dX6_needNumber_195 ⟨Nat.le_of_ble_eq_true rfl, Nat.le_of_ble_eq_true rfl⟩) hS hA hP (fun r_65 H locs hw_65 hP hS => ?_)
                  try dsimp only at hw_65
                  obtain rfl : r_65 = 0 := by rcases hw_65 with ⟨h, h2⟩ | ⟨h, h2⟩ <;> first | exact h | exact absurd rfl h2 | exact absurd h2 (by decide)
                  refine lv_if_eq (tgt := 205) hx hb dX6_needNumber_198 (by decide) (fun _ => ?_) (fun h => absurd (by decide) h)
                  refine lv_iload hx hb dX6_needNumber_205 (lv_at hl 0 rfl) ?_
                  obtain ⟨hP9, hD9⟩ := pd_sub [(x0, .inr (6, (fX6 x1 (nI tz) (nI t2_52) (nI ta__2) 0 fb))), (aB k x1 240 fx)] [0, 1] hP hD (by decide) rfl
                  exact W.iret (v := va_52) hx hb hr (fun t ht hW => ⟨⟨va_52, (t2_52, (nI ta__2), 0, fb), rfl, ⟨fun h => absurd rfl h, fun _ => ⟨0, _, rfl, .inl ⟨rfl, (nuR_B hw_50 c_51 hw_2.1).trans (nuS_0 hle_54 (by omega) (vS_f hve_54) (by omega) ⟨Int32.not_lt.mp c_60, c_64⟩)⟩⟩, by omega, by omega, ⟨Int32.not_lt.mp c_60, c_64⟩⟩, by rw [ht]; exact hP9, hD9⟩, hS.F ht⟩) hS.2.2 dX6_needNumber_207
                · refine lv_aload_n hx hb dX6_needNumber_185 rfl (lv_at hl 3 rfl) ?_
                  refine lv_iconst (v := 2) hx hb dX6_needNumber_186 (by decide) ?_
                  refine lv_aload_n hx hb dX6_needNumber_187 rfl (lv_at hl 3 rfl) ?_
                  refine va_get (D := D) (ci := 6) (v := .int (nI ta__2)) (C := RX6) (T := TX6) (N := 6) hx hb hts inX6 hown hK hP 0 rfl rfl 3 (by decide) (hts _ tw_116) (fun _ h9 => h9) rfl dX6_needNumber_188 ?_
                  refine rw_v (D := D) (wr := [(aB k x1 240 fx)]) (va_runV (As := [.int 2, .int (nI ta__2)]) (rest := []) ⟨hx, hb, hml, hown, hts⟩ ((y_fail l D k st lo x0 x1 tz t2_52 (nI ta__2) 0 fb 2 (nI ta__2) (by decide)) H.size) (cwV 2 hts (gV tw_476 tw_456 tw_457 tw_80 tw_458) rfl rfl rfl (by decide +kernel) ⟨Nat.le_of_ble_eq_true rfl, Nat.le_of_ble_eq_true rfl⟩) (pV hS hAlo hlo hP hK (va_Dlo hD hAlo) hZ [0] (by decide) rfl (ci := 6) (q := (RX6, TX6, 6)) (q0 := 0) rfl rfl) rfl rfl hl.1 rfl (lv_room (Nat.le_of_ble_eq_true rfl)) dX6_needNumber_191 ⟨Nat.le_of_ble_eq_true rfl, Nat.le_of_ble_eq_true rfl⟩) hS hA hP hD [0] [1] rfl rfl (by decide) (by decide) (fun u H locs hw_66 hP hD hS => ?_)
                  obtain ⟨fn__66, fb__66⟩ := u
                  have hQ9 := pd_mk [(aB k x1 240 fx), (x0, .inr (6, (fX6 x1 (nI tz) (nI t2_52) (nI ta__2) fn__66 fb__66)))] hP hD
                  clear hP hD
                  obtain ⟨hP, hD⟩ := hQ9
                  try dsimp only at hw_66
                  obtain ⟨hs0_67, hs1_67⟩ := hw_66.2.1 rfl
                  replace hs0_67 := hs0_67.symm
                  subst hs0_67
                  replace hs1_67 := hs1_67.symm
                  subst hs1_67
                  refine lv_aload_n hx hb dX6_needNumber_194 rfl (lv_at hl 3 rfl) ?_
                  refine ro_i (D := D) (va_runV (As := []) (rest := []) ⟨hx, hb, hml, hown, hts⟩ ((x_failed l D k st lo x0 x1 tz t2_52 (nI ta__2) 2 (nI ta__2)) H.size) (cwV 0 hts (gV tw_471 tw_368 tw_369 tw_80 tw_370) rfl rfl rfl (by decide +kernel) ⟨Nat.le_of_ble_eq_true rfl, Nat.le_of_ble_eq_true rfl⟩) (pV hS hAlo hlo hP hK (va_Dlo hD hAlo) hZ [1] (by decide) rfl (ci := 6) (q := (RX6, TX6, 6)) (q0 := 0) rfl rfl) rfl rfl hl.1 rfl (lv_room (Nat.le_of_ble_eq_true rfl)) dX6_needNumber_195 ⟨Nat.le_of_ble_eq_true rfl, Nat.le_of_ble_eq_true rfl⟩) hS hA hP (fun r_68 H locs hw_68 hP hS => ?_)
                  try dsimp only at hw_68
                  obtain rfl : r_68 = 1 := by rcases hw_68 with ⟨h, h2⟩ | ⟨h, h2⟩ <;> first | exact h | exact absurd rfl h2 | exact absurd h2 (by decide)
                  refine lv_if_eq (tgt := 205) hx hb dX6_needNumber_198 (by decide) (fun h => absurd h (by decide)) (fun _ => ?_)
                  refine lv_iload_n hx hb dX6_needNumber_201 rfl (lv_at hl 4 rfl) ?_
                  refine lv_goto (tgt := 207) hx hb dX6_needNumber_202 (by decide) ?_
                  obtain ⟨hP9, hD9⟩ := pd_sub [(x0, .inr (6, (fX6 x1 (nI tz) (nI t2_52) (nI ta__2) 2 (nI ta__2)))), (aB k x1 240 fx)] [1, 0] hP hD (by decide) rfl
                  exact W.iret (v := p0) hx hb hr (fun t ht hW => ⟨⟨p0, (t2_52, (nI ta__2), 2, (nI ta__2)), rfl, ⟨fun h => absurd rfl h, fun _ => ⟨_, _, rfl, .inr (.inr ⟨rfl, rfl, rfl, (nuR_B hw_50 c_51 hw_2.1).trans (nuS_2 hle_54 (by omega) (vS_f hve_54) (.inr (fun h => absurd h.2 c_64)))⟩)⟩, by omega, by omega, ⟨Int32.le_refl _, hle⟩⟩, by rw [ht]; exact hP9, hD9⟩, hS.F ht⟩) hS.2.2 dX6_needNumber_207
          · have c_55 := (nI_eq (a := t2_52) (b := ta__2) (by omega) (by omega)).mp c_55
            refine lv_aload_n hx hb dX6_needNumber_150 rfl (lv_at hl 3 rfl) ?_
            refine lv_iconst (v := 1) hx hb dX6_needNumber_151 (by decide) ?_
            refine lv_aload_n hx hb dX6_needNumber_152 rfl (lv_at hl 3 rfl) ?_
            refine va_get (D := D) (ci := 6) (v := .int (nI t2_52)) (C := RX6) (T := TX6) (N := 6) hx hb hts inX6 hown hK hP 0 rfl rfl 2 (by decide) (hts _ tw_113) (fun _ h9 => h9) rfl dX6_needNumber_153 ?_
            refine rw_v (D := D) (wr := [(aB k x1 240 fx)]) (va_runV (As := [.int 1, .int (nI t2_52)]) (rest := []) ⟨hx, hb, hml, hown, hts⟩ ((y_fail l D k st lo x0 x1 tz t2_52 (nI ta__2) 0 fb 1 (nI t2_52) (by decide)) H.size) (cwV 2 hts (gV tw_476 tw_456 tw_457 tw_80 tw_458) rfl rfl rfl (by decide +kernel) ⟨Nat.le_of_ble_eq_true rfl, Nat.le_of_ble_eq_true rfl⟩) (pV hS hAlo hlo hP hK (va_Dlo hD hAlo) hZ [0] (by decide) rfl (ci := 6) (q := (RX6, TX6, 6)) (q0 := 0) rfl rfl) rfl rfl hl.1 rfl (lv_room (Nat.le_of_ble_eq_true rfl)) dX6_needNumber_156 ⟨Nat.le_of_ble_eq_true rfl, Nat.le_of_ble_eq_true rfl⟩) hS hA hP hD [0] [1] rfl rfl (by decide) (by decide) (fun u H locs hw_69 hP hD hS => ?_)
            obtain ⟨fn__69, fb__69⟩ := u
            have hQ9 := pd_mk [(aB k x1 240 fx), (x0, .inr (6, (fX6 x1 (nI tz) (nI t2_52) (nI ta__2) fn__69 fb__69)))] hP hD
            clear hP hD
            obtain ⟨hP, hD⟩ := hQ9
            try dsimp only at hw_69
            obtain ⟨hs0_70, hs1_70⟩ := hw_69.2.1 rfl
            replace hs0_70 := hs0_70.symm
            subst hs0_70
            replace hs1_70 := hs1_70.symm
            subst hs1_70
            refine lv_goto (tgt := 194) hx hb dX6_needNumber_159 (by decide) ?_
            refine lv_aload_n hx hb dX6_needNumber_194 rfl (lv_at hl 3 rfl) ?_
            refine ro_i (D := D) (va_runV (As := []) (rest := []) ⟨hx, hb, hml, hown, hts⟩ ((x_failed l D k st lo x0 x1 tz t2_52 (nI ta__2) 1 (nI t2_52)) H.size) (cwV 0 hts (gV tw_471 tw_368 tw_369 tw_80 tw_370) rfl rfl rfl (by decide +kernel) ⟨Nat.le_of_ble_eq_true rfl, Nat.le_of_ble_eq_true rfl⟩) (pV hS hAlo hlo hP hK (va_Dlo hD hAlo) hZ [1] (by decide) rfl (ci := 6) (q := (RX6, TX6, 6)) (q0 := 0) rfl rfl) rfl rfl hl.1 rfl (lv_room (Nat.le_of_ble_eq_true rfl)) dX6_needNumber_195 ⟨Nat.le_of_ble_eq_true rfl, Nat.le_of_ble_eq_true rfl⟩) hS hA hP (fun r_71 H locs hw_71 hP hS => ?_)
            try dsimp only at hw_71
            obtain rfl : r_71 = 1 := by rcases hw_71 with ⟨h, h2⟩ | ⟨h, h2⟩ <;> first | exact h | exact absurd rfl h2 | exact absurd h2 (by decide)
            refine lv_if_eq (tgt := 205) hx hb dX6_needNumber_198 (by decide) (fun h => absurd h (by decide)) (fun _ => ?_)
            refine lv_iload_n hx hb dX6_needNumber_201 rfl (lv_at hl 4 rfl) ?_
            refine lv_goto (tgt := 207) hx hb dX6_needNumber_202 (by decide) ?_
            obtain ⟨hP9, hD9⟩ := pd_sub [(x0, .inr (6, (fX6 x1 (nI tz) (nI t2_52) (nI ta__2) 1 (nI t2_52)))), (aB k x1 240 fx)] [1, 0] hP hD (by decide) rfl
            exact W.iret (v := p0) hx hb hr (fun t ht hW => ⟨⟨p0, (t2_52, (nI ta__2), 1, (nI t2_52)), rfl, ⟨fun h => absurd rfl h, fun _ => ⟨_, _, rfl, .inr (.inl ⟨rfl, rfl, rfl, (nuR_B hw_50 c_51 hw_2.1).trans (nuS_1t hle_54 (by omega))⟩)⟩, by omega, by omega, ⟨Int32.le_refl _, hle⟩⟩, by rw [ht]; exact hP9, hD9⟩, hS.F ht⟩) hS.2.2 dX6_needNumber_207
        · have c_53 : ¬ (tz ≤ t2_52) := fun h => c_53 ((nI_leI (a := tz) (b := t2_52) (by omega) (by omega)).mpr h)
          refine lv_aload_n hx hb dX6_needNumber_78 rfl (lv_at hl 3 rfl) ?_
          refine lv_aload_n hx hb dX6_needNumber_79 rfl (lv_at hl 3 rfl) ?_
          refine va_get (D := D) (ci := 6) (v := .int (nI t2_52)) (C := RX6) (T := TX6) (N := 6) hx hb hts inX6 hown hK hP 0 rfl rfl 2 (by decide) (hts _ tw_113) (fun _ h9 => h9) rfl dX6_needNumber_80 ?_
          refine ro_i (D := D) (va_runV (As := [.int (nI t2_52)]) (rest := []) ⟨hx, hb, hml, hown, hts⟩ ((y_isFigureAt l D k st lo x0 x1 tz t2_52 (nI ta__2) 0 fb fx t2_52 (by first | assumption | omega) (by first | assumption | omega)) H.size) (cwV 1 hts (gV tw_472 tw_473 tw_474 tw_80 tw_475) rfl rfl rfl (by decide +kernel) ⟨Nat.le_of_ble_eq_true rfl, Nat.le_of_ble_eq_true rfl⟩) (pV hS hAlo hlo hP hK (va_Dlo hD hAlo) hZ [0, 1] (by decide) rfl (ci := 6) (q := (RX6, TX6, 6)) (q0 := 0) rfl rfl) rfl rfl hl.1 rfl (lv_room (Nat.le_of_ble_eq_true rfl)) dX6_needNumber_83 ⟨Nat.le_of_ble_eq_true rfl, Nat.le_of_ble_eq_true rfl⟩) hS hA hP (fun r_72 H locs hw_72 hP hS => ?_)
          try dsimp only at hw_72
          rcases hw_72 with ⟨rfl, hw_72⟩ | ⟨rfl, hw_72⟩
          · refine lv_if_eq (tgt := 132) hx hb dX6_needNumber_86 (by decide) (fun h => absurd h (by decide)) (fun _ => ?_)
            refine lv_aload_n hx hb dX6_needNumber_89 rfl (lv_at hl 3 rfl) ?_
            refine va_get (D := D) (ci := 6) (v := .int (nI t2_52)) (C := RX6) (T := TX6) (N := 6) hx hb hts inX6 hown hK hP 0 rfl rfl 2 (by decide) (hts _ tw_113) (fun _ h9 => h9) rfl dX6_needNumber_90 ?_
            refine lv_iload hx hb dX6_needNumber_93 (lv_at hl 1 rfl) ?_
            refine lv_isub hx hb dX6_needNumber_95 ?_
            refine lv_ti (y := (nI (t2_52 - ta__2))) (pk_sub (a := t2_52) (b := ta__2) (by omega)) ?_
            refine lv_iconst (v := 3) hx hb dX6_needNumber_96 (by decide) ?_
            refine lv_icmp_ge (tgt := 119) hx hb dX6_needNumber_97 (by decide) (fun c_73 => ?_) (fun c_73 => ?_)
            · have c_73 := (nI_leI (a := 3) (b := (t2_52 - ta__2)) (by omega) (by omega)).mp c_73
              refine lv_aload_n hx hb dX6_needNumber_119 rfl (lv_at hl 3 rfl) ?_
              refine lv_dup hx hb dX6_needNumber_120 rfl ?_
              refine va_get (D := D) (ci := 6) (v := .int (nI t2_52)) (C := RX6) (T := TX6) (N := 6) hx hb hts inX6 hown hK hP 0 rfl rfl 2 (by decide) (hts _ tw_113) (fun _ h9 => h9) rfl dX6_needNumber_121 ?_
              refine lv_iconst (v := 1) hx hb dX6_needNumber_124 (by decide) ?_
              refine lv_iadd hx hb dX6_needNumber_125 ?_
              refine lv_ti (y := (nI (t2_52 + 1))) (nI_add t2_52 1) ?_
              refine va_put (D := D) (ci := 6) (v := .int (nI (t2_52 + 1))) (ty := .int) (C := RX6) (T := TX6) (N := 6) hx hb hts inX6 tyX6 tyX6_ok nmX6 hown hK hP hD hS 0 rfl rfl 2 (by decide) (hts _ tw_113) (fun _ h9 => h9) rfl (by decide +kernel) rfl rfl (Nat.le_of_ble_eq_true rfl) dX6_needNumber_126 (fun H locs hP hD hS => ?_)
              have hQ9 := pd_mk [(x0, .inr (6, (fX6 x1 (nI tz) (nI (t2_52 + 1)) (nI ta__2) 0 fb))), (aB k x1 240 fx)] hP hD
              clear hP hD
              obtain ⟨hP, hD⟩ := hQ9
              refine lv_goto (tgt := 67) hx hb dX6_needNumber_129 (by decide) ?_
              have hst_74 := nn_step (by omega) (by omega) hw_72 hv_52.2.2.1 hv_52.2.2.2
              exact ih_52 _ (t2_52 + 1, va_52) _ _ _ (by omega) ⟨rfl, ⟨by omega, by omega, hst_74.1, hst_74.2.2 (by omega)⟩, hP, hD, hS, (lv_sub hl [0, 1, 2, 3, 4, 5] rfl)⟩
            · have c_73 : ¬ (3 ≤ (t2_52 - ta__2)) := fun h => c_73 ((nI_leI (a := 3) (b := (t2_52 - ta__2)) (by omega) (by omega)).mpr h)
              refine lv_iload hx hb dX6_needNumber_100 (lv_at hl 0 rfl) ?_
              refine lv_bipush (v := 10) hx hb dX6_needNumber_102 (by decide) ?_
              refine lv_imul hx hb dX6_needNumber_104 ?_
              refine lv_topi (fun x_75 ex_75 => ?_)
              refine lv_aload_n hx hb dX6_needNumber_105 rfl (lv_at hl 3 rfl) ?_
              refine lv_aload_n hx hb dX6_needNumber_106 rfl (lv_at hl 3 rfl) ?_
              refine va_get (D := D) (ci := 6) (v := .int (nI t2_52)) (C := RX6) (T := TX6) (N := 6) hx hb hts inX6 hown hK hP 0 rfl rfl 2 (by decide) (hts _ tw_113) (fun _ h9 => h9) rfl dX6_needNumber_107 ?_
              refine ro_i (D := D) (va_runV (As := [.int (nI t2_52)]) (rest := [.int x_75]) ⟨hx, hb, hml, hown, hts⟩ ((y_byteAt l D k st lo x0 x1 tz t2_52 (nI ta__2) 0 fb fx t2_52 (by first | assumption | omega) (by first | assumption | omega)) H.size) (cwV 1 hts (gV tw_379 tw_380 tw_381 tw_80 tw_382) rfl rfl rfl (by decide +kernel) ⟨Nat.le_of_ble_eq_true rfl, Nat.le_of_ble_eq_true rfl⟩) (pV hS hAlo hlo hP hK (va_Dlo hD hAlo) hZ [0, 1] (by decide) rfl (ci := 6) (q := (RX6, TX6, 6)) (q0 := 0) rfl rfl) rfl rfl hl.1 rfl (lv_room (Nat.le_of_ble_eq_true rfl)) dX6_needNumber_110 ⟨Nat.le_of_ble_eq_true rfl, Nat.le_of_ble_eq_true rfl⟩) hS hA hP (fun r_76 H locs hw_76 hP hS => ?_)
              try dsimp only at hw_76
              refine lv_iadd hx hb dX6_needNumber_113 ?_
              refine lv_topi (fun x_77 ex_77 => ?_)
              refine lv_bipush (v := 48) hx hb dX6_needNumber_114 (by decide) ?_
              refine lv_isub hx hb dX6_needNumber_116 ?_
              refine lv_topi (fun x_78 ex_78 => ?_)
              refine lv_istore (lv' := [(5, .int x_78), (4, .int (nI ta__2)), (3, .int 0), (0, .ref x0), (1, .int p0), (2, .int p1)]) hx hb dX6_needNumber_117 hl (by decide) rfl (fun ls hl => ?_)
              refine lv_aload_n hx hb dX6_needNumber_119 rfl (lv_at hl 3 rfl) ?_
              refine lv_dup hx hb dX6_needNumber_120 rfl ?_
              refine va_get (D := D) (ci := 6) (v := .int (nI t2_52)) (C := RX6) (T := TX6) (N := 6) hx hb hts inX6 hown hK hP 0 rfl rfl 2 (by decide) (hts _ tw_113) (fun _ h9 => h9) rfl dX6_needNumber_121 ?_
              refine lv_iconst (v := 1) hx hb dX6_needNumber_124 (by decide) ?_
              refine lv_iadd hx hb dX6_needNumber_125 ?_
              refine lv_ti (y := (nI (t2_52 + 1))) (nI_add t2_52 1) ?_
              refine va_put (D := D) (ci := 6) (v := .int (nI (t2_52 + 1))) (ty := .int) (C := RX6) (T := TX6) (N := 6) hx hb hts inX6 tyX6 tyX6_ok nmX6 hown hK hP hD hS 0 rfl rfl 2 (by decide) (hts _ tw_113) (fun _ h9 => h9) rfl (by decide +kernel) rfl rfl (Nat.le_of_ble_eq_true rfl) dX6_needNumber_126 (fun H locs hP hD hS => ?_)
              have hQ9 := pd_mk [(x0, .inr (6, (fX6 x1 (nI tz) (nI (t2_52 + 1)) (nI ta__2) 0 fb))), (aB k x1 240 fx)] hP hD
              clear hP hD
              obtain ⟨hP, hD⟩ := hQ9
              refine lv_goto (tgt := 67) hx hb dX6_needNumber_129 (by decide) ?_
              have hst_79 := nn_step (by omega) (by omega) hw_72 hv_52.2.2.1 hv_52.2.2.2
              exact ih_52 _ (t2_52 + 1, x_78) _ _ _ (by omega) ⟨rfl, ⟨by omega, by omega, hst_79.1, (by rw [ex_78, ex_77, ex_75]; exact hst_79.2.1 (by omega) _ hw_76)⟩, hP, hD, hS, (lv_sub hl [0, 1, 2, 3, 4, 5] rfl)⟩
          · refine lv_if_eq (tgt := 132) hx hb dX6_needNumber_86 (by decide) (fun _ => ?_) (fun h => absurd (by decide) h)
            obtain ⟨hle_80, hve_80⟩ := nn_out (nn_fe hw_72) hv_52.2.2.1 hv_52.2.2.2
            refine lv_iload_n hx hb dX6_needNumber_132 rfl (lv_at hl 2 rfl) ?_
            refine lv_if_eq (tgt := 141) hx hb dX6_needNumber_133 (by decide) (fun _ => ?_) (fun h => absurd (by decide) h)
            refine lv_aload_n hx hb dX6_needNumber_141 rfl (lv_at hl 3 rfl) ?_
            refine va_get (D := D) (ci := 6) (v := .int (nI t2_52)) (C := RX6) (T := TX6) (N := 6) hx hb hts inX6 hown hK hP 0 rfl rfl 2 (by decide) (hts _ tw_113) (fun _ h9 => h9) rfl dX6_needNumber_142 ?_
            refine lv_iload hx hb dX6_needNumber_145 (lv_at hl 1 rfl) ?_
            refine lv_icmp_ne (tgt := 162) hx hb dX6_needNumber_147 (by decide) (fun c_81 => ?_) (fun c_81 => ?_)
            · have c_81 : ¬ (t2_52 = ta__2) := fun h => c_81 ((nI_eq (a := t2_52) (b := ta__2) (by omega) (by omega)).mpr h)
              refine lv_aload_n hx hb dX6_needNumber_162 rfl (lv_at hl 3 rfl) ?_
              refine va_get (D := D) (ci := 6) (v := .int (nI t2_52)) (C := RX6) (T := TX6) (N := 6) hx hb hts inX6 hown hK hP 0 rfl rfl 2 (by decide) (hts _ tw_113) (fun _ h9 => h9) rfl dX6_needNumber_163 ?_
              refine lv_iload hx hb dX6_needNumber_166 (lv_at hl 1 rfl) ?_
              refine lv_isub hx hb dX6_needNumber_168 ?_
              refine lv_ti (y := (nI (t2_52 - ta__2))) (pk_sub (a := t2_52) (b := ta__2) (by omega)) ?_
              refine lv_iconst (v := 3) hx hb dX6_needNumber_169 (by decide) ?_
              refine lv_icmp_gt (tgt := 185) hx hb dX6_needNumber_170 (by decide) (fun c_82 => ?_) (fun c_82 => ?_)
              · have c_82 := (nI_ltI (a := 3) (b := (t2_52 - ta__2)) (by omega) (by omega)).mp c_82
                refine lv_aload_n hx hb dX6_needNumber_185 rfl (lv_at hl 3 rfl) ?_
                refine lv_iconst (v := 2) hx hb dX6_needNumber_186 (by decide) ?_
                refine lv_aload_n hx hb dX6_needNumber_187 rfl (lv_at hl 3 rfl) ?_
                refine va_get (D := D) (ci := 6) (v := .int (nI ta__2)) (C := RX6) (T := TX6) (N := 6) hx hb hts inX6 hown hK hP 0 rfl rfl 3 (by decide) (hts _ tw_116) (fun _ h9 => h9) rfl dX6_needNumber_188 ?_
                refine rw_v (D := D) (wr := [(aB k x1 240 fx)]) (va_runV (As := [.int 2, .int (nI ta__2)]) (rest := []) ⟨hx, hb, hml, hown, hts⟩ ((y_fail l D k st lo x0 x1 tz t2_52 (nI ta__2) 0 fb 2 (nI ta__2) (by decide)) H.size) (cwV 2 hts (gV tw_476 tw_456 tw_457 tw_80 tw_458) rfl rfl rfl (by decide +kernel) ⟨Nat.le_of_ble_eq_true rfl, Nat.le_of_ble_eq_true rfl⟩) (pV hS hAlo hlo hP hK (va_Dlo hD hAlo) hZ [0] (by decide) rfl (ci := 6) (q := (RX6, TX6, 6)) (q0 := 0) rfl rfl) rfl rfl hl.1 rfl (lv_room (Nat.le_of_ble_eq_true rfl)) dX6_needNumber_191 ⟨Nat.le_of_ble_eq_true rfl, Nat.le_of_ble_eq_true rfl⟩) hS hA hP hD [0] [1] rfl rfl (by decide) (by decide) (fun u H locs hw_83 hP hD hS => ?_)
                obtain ⟨fn__83, fb__83⟩ := u
                have hQ9 := pd_mk [(aB k x1 240 fx), (x0, .inr (6, (fX6 x1 (nI tz) (nI t2_52) (nI ta__2) fn__83 fb__83)))] hP hD
                clear hP hD
                obtain ⟨hP, hD⟩ := hQ9
                try dsimp only at hw_83
                obtain ⟨hs0_84, hs1_84⟩ := hw_83.2.1 rfl
                replace hs0_84 := hs0_84.symm
                subst hs0_84
                replace hs1_84 := hs1_84.symm
                subst hs1_84
                refine lv_aload_n hx hb dX6_needNumber_194 rfl (lv_at hl 3 rfl) ?_
                refine ro_i (D := D) (va_runV (As := []) (rest := []) ⟨hx, hb, hml, hown, hts⟩ ((x_failed l D k st lo x0 x1 tz t2_52 (nI ta__2) 2 (nI ta__2)) H.size) (cwV 0 hts (gV tw_471 tw_368 tw_369 tw_80 tw_370) rfl rfl rfl (by decide +kernel) ⟨Nat.le_of_ble_eq_true rfl, Nat.le_of_ble_eq_true rfl⟩) (pV hS hAlo hlo hP hK (va_Dlo hD hAlo) hZ [1] (by decide) rfl (ci := 6) (q := (RX6, TX6, 6)) (q0 := 0) rfl rfl) rfl rfl hl.1 rfl (lv_room (Nat.le_of_ble_eq_true rfl)) dX6_needNumber_195 ⟨Nat.le_of_ble_eq_true rfl, Nat.le_of_ble_eq_true rfl⟩) hS hA hP (fun r_85 H locs hw_85 hP hS => ?_)
                try dsimp only at hw_85
                obtain rfl : r_85 = 1 := by rcases hw_85 with ⟨h, h2⟩ | ⟨h, h2⟩ <;> first | exact h | exact absurd rfl h2 | exact absurd h2 (by decide)
                refine lv_if_eq (tgt := 205) hx hb dX6_needNumber_198 (by decide) (fun h => absurd h (by decide)) (fun _ => ?_)
                refine lv_iload_n hx hb dX6_needNumber_201 rfl (lv_at hl 4 rfl) ?_
                refine lv_goto (tgt := 207) hx hb dX6_needNumber_202 (by decide) ?_
                obtain ⟨hP9, hD9⟩ := pd_sub [(x0, .inr (6, (fX6 x1 (nI tz) (nI t2_52) (nI ta__2) 2 (nI ta__2)))), (aB k x1 240 fx)] [1, 0] hP hD (by decide) rfl
                exact W.iret (v := p0) hx hb hr (fun t ht hW => ⟨⟨p0, (t2_52, (nI ta__2), 2, (nI ta__2)), rfl, ⟨fun h => absurd rfl h, fun _ => ⟨_, _, rfl, .inr (.inr ⟨rfl, rfl, rfl, (nuR_B hw_50 c_51 hw_2.1).trans (nuS_2 hle_80 (by omega) (vS_f hve_80) (.inl (by omega)))⟩)⟩, by omega, by omega, ⟨Int32.le_refl _, hle⟩⟩, by rw [ht]; exact hP9, hD9⟩, hS.F ht⟩) hS.2.2 dX6_needNumber_207
              · have c_82 : ¬ (3 < (t2_52 - ta__2)) := fun h => c_82 ((nI_ltI (a := 3) (b := (t2_52 - ta__2)) (by omega) (by omega)).mpr h)
                refine lv_iload hx hb dX6_needNumber_173 (lv_at hl 0 rfl) ?_
                refine lv_iload_n hx hb dX6_needNumber_175 rfl (lv_at hl 4 rfl) ?_
                refine lv_icmp_lt (tgt := 185) hx hb dX6_needNumber_176 (by decide) (fun c_86 => ?_) (fun c_86 => ?_)
                · refine lv_aload_n hx hb dX6_needNumber_185 rfl (lv_at hl 3 rfl) ?_
                  refine lv_iconst (v := 2) hx hb dX6_needNumber_186 (by decide) ?_
                  refine lv_aload_n hx hb dX6_needNumber_187 rfl (lv_at hl 3 rfl) ?_
                  refine va_get (D := D) (ci := 6) (v := .int (nI ta__2)) (C := RX6) (T := TX6) (N := 6) hx hb hts inX6 hown hK hP 0 rfl rfl 3 (by decide) (hts _ tw_116) (fun _ h9 => h9) rfl dX6_needNumber_188 ?_
                  refine rw_v (D := D) (wr := [(aB k x1 240 fx)]) (va_runV (As := [.int 2, .int (nI ta__2)]) (rest := []) ⟨hx, hb, hml, hown, hts⟩ ((y_fail l D k st lo x0 x1 tz t2_52 (nI ta__2) 0 fb 2 (nI ta__2) (by decide)) H.size) (cwV 2 hts (gV tw_476 tw_456 tw_457 tw_80 tw_458) rfl rfl rfl (by decide +kernel) ⟨Nat.le_of_ble_eq_true rfl, Nat.le_of_ble_eq_true rfl⟩) (pV hS hAlo hlo hP hK (va_Dlo hD hAlo) hZ [0] (by decide) rfl (ci := 6) (q := (RX6, TX6, 6)) (q0 := 0) rfl rfl) rfl rfl hl.1 rfl (lv_room (Nat.le_of_ble_eq_true rfl)) dX6_needNumber_191 ⟨Nat.le_of_ble_eq_true rfl, Nat.le_of_ble_eq_true rfl⟩) hS hA hP hD [0] [1] rfl rfl (by decide) (by decide) (fun u H locs hw_87 hP hD hS => ?_)
                  obtain ⟨fn__87, fb__87⟩ := u
                  have hQ9 := pd_mk [(aB k x1 240 fx), (x0, .inr (6, (fX6 x1 (nI tz) (nI t2_52) (nI ta__2) fn__87 fb__87)))] hP hD
                  clear hP hD
                  obtain ⟨hP, hD⟩ := hQ9
                  try dsimp only at hw_87
                  obtain ⟨hs0_88, hs1_88⟩ := hw_87.2.1 rfl
                  replace hs0_88 := hs0_88.symm
                  subst hs0_88
                  replace hs1_88 := hs1_88.symm
                  subst hs1_88
                  refine lv_aload_n hx hb dX6_needNumber_194 rfl (lv_at hl 3 rfl) ?_
                  refine ro_i (D := D) (va_runV (As := []) (rest := []) ⟨hx, hb, hml, hown, hts⟩ ((x_failed l D k st lo x0 x1 tz t2_52 (nI ta__2) 2 (nI ta__2)) H.size) (cwV 0 hts (gV tw_471 tw_368 tw_369 tw_80 tw_370) rfl rfl rfl (by decide +kernel) ⟨Nat.le_of_ble_eq_true rfl, Nat.le_of_ble_eq_true rfl⟩) (pV hS hAlo hlo hP hK (va_Dlo hD hAlo) hZ [1] (by decide) rfl (ci := 6) (q := (RX6, TX6, 6)) (q0 := 0) rfl rfl) rfl rfl hl.1 rfl (lv_room (Nat.le_of_ble_eq_true rfl)) dX6_needNumber_195 ⟨Nat.le_of_ble_eq_true rfl, Nat.le_of_ble_eq_true rfl⟩) hS hA hP (fun r_89 H locs hw_89 hP hS => ?_)
                  try dsimp only at hw_89
                  obtain rfl : r_89 = 1 := by rcases hw_89 with ⟨h, h2⟩ | ⟨h, h2⟩ <;> first | exact h | exact absurd rfl h2 | exact absurd h2 (by decide)
                  refine lv_if_eq (tgt := 205) hx hb dX6_needNumber_198 (by decide) (fun h => absurd h (by decide)) (fun _ => ?_)
                  refine lv_iload_n hx hb dX6_needNumber_201 rfl (lv_at hl 4 rfl) ?_
                  refine lv_goto (tgt := 207) hx hb dX6_needNumber_202 (by decide) ?_
                  obtain ⟨hP9, hD9⟩ := pd_sub [(x0, .inr (6, (fX6 x1 (nI tz) (nI t2_52) (nI ta__2) 2 (nI ta__2)))), (aB k x1 240 fx)] [1, 0] hP hD (by decide) rfl
                  exact W.iret (v := p0) hx hb hr (fun t ht hW => ⟨⟨p0, (t2_52, (nI ta__2), 2, (nI ta__2)), rfl, ⟨fun h => absurd rfl h, fun _ => ⟨_, _, rfl, .inr (.inr ⟨rfl, rfl, rfl, (nuR_B hw_50 c_51 hw_2.1).trans (nuS_2 hle_80 (by omega) (vS_f hve_80) (.inr (fun h => absurd h.1 (Int32.not_le.mpr c_86))))⟩)⟩, by omega, by omega, ⟨Int32.le_refl _, hle⟩⟩, by rw [ht]; exact hP9, hD9⟩, hS.F ht⟩) hS.2.2 dX6_needNumber_207
                · refine lv_iload hx hb dX6_needNumber_179 (lv_at hl 0 rfl) ?_
                  refine lv_iload_n hx hb dX6_needNumber_181 rfl (lv_at hl 5 rfl) ?_
                  refine lv_icmp_le (tgt := 194) hx hb dX6_needNumber_182 (by decide) (fun c_90 => ?_) (fun c_90 => ?_)
                  · refine lv_aload_n hx hb dX6_needNumber_194 rfl (lv_at hl 3 rfl) ?_
                    refine ro_i (D := D) (va_runV (As := []) (rest := []) ⟨hx, hb, hml, hown, hts⟩ ((x_failed l D k st lo x0 x1 tz t2_52 (nI ta__2) 0 fb) H.size) (cwV 0 hts (gV tw_471 tw_368 tw_369 tw_80 tw_370) rfl rfl rfl (by decide +kernel) ⟨Nat.le_of_ble_eq_true rfl, Nat.le_of_ble_eq_true rfl⟩) (pV hS hAlo hlo hP hK (va_Dlo hD hAlo) hZ [0] (by decide) rfl (ci := 6) (q := (RX6, TX6, 6)) (q0 := 0) rfl rfl) rfl rfl hl.1 rfl (lv_room (Nat.le_of_ble_eq_true rfl)) dX6_needNumber_195 ⟨Nat.le_of_ble_eq_true rfl, Nat.le_of_ble_eq_true rfl⟩) hS hA hP (fun r_91 H locs hw_91 hP hS => ?_)
                    try dsimp only at hw_91
                    obtain rfl : r_91 = 0 := by rcases hw_91 with ⟨h, h2⟩ | ⟨h, h2⟩ <;> first | exact h | exact absurd rfl h2 | exact absurd h2 (by decide)
                    refine lv_if_eq (tgt := 205) hx hb dX6_needNumber_198 (by decide) (fun _ => ?_) (fun h => absurd (by decide) h)
                    refine lv_iload hx hb dX6_needNumber_205 (lv_at hl 0 rfl) ?_
                    obtain ⟨hP9, hD9⟩ := pd_sub [(x0, .inr (6, (fX6 x1 (nI tz) (nI t2_52) (nI ta__2) 0 fb))), (aB k x1 240 fx)] [0, 1] hP hD (by decide) rfl
                    exact W.iret (v := va_52) hx hb hr (fun t ht hW => ⟨⟨va_52, (t2_52, (nI ta__2), 0, fb), rfl, ⟨fun h => absurd rfl h, fun _ => ⟨0, _, rfl, .inl ⟨rfl, (nuR_B hw_50 c_51 hw_2.1).trans (nuS_0 hle_80 (by omega) (vS_f hve_80) (by omega) ⟨Int32.not_lt.mp c_86, c_90⟩)⟩⟩, by omega, by omega, ⟨Int32.not_lt.mp c_86, c_90⟩⟩, by rw [ht]; exact hP9, hD9⟩, hS.F ht⟩) hS.2.2 dX6_needNumber_207
                  · refine lv_aload_n hx hb dX6_needNumber_185 rfl (lv_at hl 3 rfl) ?_
                    refine lv_iconst (v := 2) hx hb dX6_needNumber_186 (by decide) ?_
                    refine lv_aload_n hx hb dX6_needNumber_187 rfl (lv_at hl 3 rfl) ?_
                    refine va_get (D := D) (ci := 6) (v := .int (nI ta__2)) (C := RX6) (T := TX6) (N := 6) hx hb hts inX6 hown hK hP 0 rfl rfl 3 (by decide) (hts _ tw_116) (fun _ h9 => h9) rfl dX6_needNumber_188 ?_
                    refine rw_v (D := D) (wr := [(aB k x1 240 fx)]) (va_runV (As := [.int 2, .int (nI ta__2)]) (rest := []) ⟨hx, hb, hml, hown, hts⟩ ((y_fail l D k st lo x0 x1 tz t2_52 (nI ta__2) 0 fb 2 (nI ta__2) (by decide)) H.size) (cwV 2 hts (gV tw_476 tw_456 tw_457 tw_80 tw_458) rfl rfl rfl (by decide +kernel) ⟨Nat.le_of_ble_eq_true rfl, Nat.le_of_ble_eq_true rfl⟩) (pV hS hAlo hlo hP hK (va_Dlo hD hAlo) hZ [0] (by decide) rfl (ci := 6) (q := (RX6, TX6, 6)) (q0 := 0) rfl rfl) rfl rfl hl.1 rfl (lv_room (Nat.le_of_ble_eq_true rfl)) dX6_needNumber_191 ⟨Nat.le_of_ble_eq_true rfl, Nat.le_of_ble_eq_true rfl⟩) hS hA hP hD [0] [1] rfl rfl (by decide) (by decide) (fun u H locs hw_92 hP hD hS => ?_)
                    obtain ⟨fn__92, fb__92⟩ := u
                    have hQ9 := pd_mk [(aB k x1 240 fx), (x0, .inr (6, (fX6 x1 (nI tz) (nI t2_52) (nI ta__2) fn__92 fb__92)))] hP hD
                    clear hP hD
                    obtain ⟨hP, hD⟩ := hQ9
                    try dsimp only at hw_92
                    obtain ⟨hs0_93, hs1_93⟩ := hw_92.2.1 rfl
                    replace hs0_93 := hs0_93.symm
                    subst hs0_93
                    replace hs1_93 := hs1_93.symm
                    subst hs1_93
                    refine lv_aload_n hx hb dX6_needNumber_194 rfl (lv_at hl 3 rfl) ?_
                    refine ro_i (D := D) (va_runV (As := []) (rest := []) ⟨hx, hb, hml, hown, hts⟩ ((x_failed l D k st lo x0 x1 tz t2_52 (nI ta__2) 2 (nI ta__2)) H.size) (cwV 0 hts (gV tw_471 tw_368 tw_369 tw_80 tw_370) rfl rfl rfl (by decide +kernel) ⟨Nat.le_of_ble_eq_true rfl, Nat.le_of_ble_eq_true rfl⟩) (pV hS hAlo hlo hP hK (va_Dlo hD hAlo) hZ [1] (by decide) rfl (ci := 6) (q := (RX6, TX6, 6)) (q0 := 0) rfl rfl) rfl rfl hl.1 rfl (lv_room (Nat.le_of_ble_eq_true rfl)) dX6_needNumber_195 ⟨Nat.le_of_ble_eq_true rfl, Nat.le_of_ble_eq_true rfl⟩) hS hA hP (fun r_94 H locs hw_94 hP hS => ?_)
                    try dsimp only at hw_94
                    obtain rfl : r_94 = 1 := by rcases hw_94 with ⟨h, h2⟩ | ⟨h, h2⟩ <;> first | exact h | exact absurd rfl h2 | exact absurd h2 (by decide)
                    refine lv_if_eq (tgt := 205) hx hb dX6_needNumber_198 (by decide) (fun h => absurd h (by decide)) (fun _ => ?_)
                    refine lv_iload_n hx hb dX6_needNumber_201 rfl (lv_at hl 4 rfl) ?_
                    refine lv_goto (tgt := 207) hx hb dX6_needNumber_202 (by decide) ?_
                    obtain ⟨hP9, hD9⟩ := pd_sub [(x0, .inr (6, (fX6 x1 (nI tz) (nI t2_52) (nI ta__2) 2 (nI ta__2)))), (aB k x1 240 fx)] [1, 0] hP hD (by decide) rfl
                    exact W.iret (v := p0) hx hb hr (fun t ht hW => ⟨⟨p0, (t2_52, (nI ta__2), 2, (nI ta__2)), rfl, ⟨fun h => absurd rfl h, fun _ => ⟨_, _, rfl, .inr (.inr ⟨rfl, rfl, rfl, (nuR_B hw_50 c_51 hw_2.1).trans (nuS_2 hle_80 (by omega) (vS_f hve_80) (.inr (fun h => absurd h.2 c_90)))⟩)⟩, by omega, by omega, ⟨Int32.le_refl _, hle⟩⟩, by rw [ht]; exact hP9, hD9⟩, hS.F ht⟩) hS.2.2 dX6_needNumber_207
            · have c_81 := (nI_eq (a := t2_52) (b := ta__2) (by omega) (by omega)).mp c_81
              refine lv_aload_n hx hb dX6_needNumber_150 rfl (lv_at hl 3 rfl) ?_
              refine lv_iconst (v := 1) hx hb dX6_needNumber_151 (by decide) ?_
              refine lv_aload_n hx hb dX6_needNumber_152 rfl (lv_at hl 3 rfl) ?_
              refine va_get (D := D) (ci := 6) (v := .int (nI t2_52)) (C := RX6) (T := TX6) (N := 6) hx hb hts inX6 hown hK hP 0 rfl rfl 2 (by decide) (hts _ tw_113) (fun _ h9 => h9) rfl dX6_needNumber_153 ?_
              refine rw_v (D := D) (wr := [(aB k x1 240 fx)]) (va_runV (As := [.int 1, .int (nI t2_52)]) (rest := []) ⟨hx, hb, hml, hown, hts⟩ ((y_fail l D k st lo x0 x1 tz t2_52 (nI ta__2) 0 fb 1 (nI t2_52) (by decide)) H.size) (cwV 2 hts (gV tw_476 tw_456 tw_457 tw_80 tw_458) rfl rfl rfl (by decide +kernel) ⟨Nat.le_of_ble_eq_true rfl, Nat.le_of_ble_eq_true rfl⟩) (pV hS hAlo hlo hP hK (va_Dlo hD hAlo) hZ [0] (by decide) rfl (ci := 6) (q := (RX6, TX6, 6)) (q0 := 0) rfl rfl) rfl rfl hl.1 rfl (lv_room (Nat.le_of_ble_eq_true rfl)) dX6_needNumber_156 ⟨Nat.le_of_ble_eq_true rfl, Nat.le_of_ble_eq_true rfl⟩) hS hA hP hD [0] [1] rfl rfl (by decide) (by decide) (fun u H locs hw_95 hP hD hS => ?_)
              obtain ⟨fn__95, fb__95⟩ := u
              have hQ9 := pd_mk [(aB k x1 240 fx), (x0, .inr (6, (fX6 x1 (nI tz) (nI t2_52) (nI ta__2) fn__95 fb__95)))] hP hD
              clear hP hD
              obtain ⟨hP, hD⟩ := hQ9
              try dsimp only at hw_95
              obtain ⟨hs0_96, hs1_96⟩ := hw_95.2.1 rfl
              replace hs0_96 := hs0_96.symm
              subst hs0_96
              replace hs1_96 := hs1_96.symm
              subst hs1_96
              refine lv_goto (tgt := 194) hx hb dX6_needNumber_159 (by decide) ?_
              refine lv_aload_n hx hb dX6_needNumber_194 rfl (lv_at hl 3 rfl) ?_
              refine ro_i (D := D) (va_runV (As := []) (rest := []) ⟨hx, hb, hml, hown, hts⟩ ((x_failed l D k st lo x0 x1 tz t2_52 (nI ta__2) 1 (nI t2_52)) H.size) (cwV 0 hts (gV tw_471 tw_368 tw_369 tw_80 tw_370) rfl rfl rfl (by decide +kernel) ⟨Nat.le_of_ble_eq_true rfl, Nat.le_of_ble_eq_true rfl⟩) (pV hS hAlo hlo hP hK (va_Dlo hD hAlo) hZ [1] (by decide) rfl (ci := 6) (q := (RX6, TX6, 6)) (q0 := 0) rfl rfl) rfl rfl hl.1 rfl (lv_room (Nat.le_of_ble_eq_true rfl)) dX6_needNumber_195 ⟨Nat.le_of_ble_eq_true rfl, Nat.le_of_ble_eq_true rfl⟩) hS hA hP (fun r_97 H locs hw_97 hP hS => ?_)
              try dsimp only at hw_97
              obtain rfl : r_97 = 1 := by rcases hw_97 with ⟨h, h2⟩ | ⟨h, h2⟩ <;> first | exact h | exact absurd rfl h2 | exact absurd h2 (by decide)
              refine lv_if_eq (tgt := 205) hx hb dX6_needNumber_198 (by decide) (fun h => absurd h (by decide)) (fun _ => ?_)
              refine lv_iload_n hx hb dX6_needNumber_201 rfl (lv_at hl 4 rfl) ?_
              refine lv_goto (tgt := 207) hx hb dX6_needNumber_202 (by decide) ?_
              obtain ⟨hP9, hD9⟩ := pd_sub [(x0, .inr (6, (fX6 x1 (nI tz) (nI t2_52) (nI ta__2) 1 (nI t2_52)))), (aB k x1 240 fx)] [1, 0] hP hD (by decide) rfl
              exact W.iret (v := p0) hx hb hr (fun t ht hW => ⟨⟨p0, (t2_52, (nI ta__2), 1, (nI t2_52)), rfl, ⟨fun h => absurd rfl h, fun _ => ⟨_, _, rfl, .inr (.inl ⟨rfl, rfl, rfl, (nuR_B hw_50 c_51 hw_2.1).trans (nuS_1t hle_80 (by omega))⟩)⟩, by omega, by omega, ⟨Int32.le_refl _, hle⟩⟩, by rw [ht]; exact hP9, hD9⟩, hS.F ht⟩) hS.2.2 dX6_needNumber_207
      · have hlt_98 : ta__2 < tz := by rcases Nat.lt_or_ge (ta__2) tz with h | h; exact h; exact absurd (c_51.symm.trans (hw_50.trans (byF_out (by omega)))) (by decide)
        refine lv_iconst (v := 1) hx hb dX6_needNumber_38 (by decide) ?_
        refine lv_goto (tgt := 43) hx hb dX6_needNumber_39 (by decide) ?_
        refine lv_istore_n (lv' := [(3, .int 1), (0, .ref x0), (1, .int p0), (2, .int p1)]) hx hb dX6_needNumber_43 rfl hl (by decide) rfl (fun ls hl => ?_)
        refine lv_iload_n hx hb dX6_needNumber_44 rfl (lv_at hl 0 rfl) ?_
        refine lv_if_eq (tgt := 58) hx hb dX6_needNumber_45 (by decide) (fun h => absurd h (by decide)) (fun _ => ?_)
        refine lv_aload_n hx hb dX6_needNumber_48 rfl (lv_at hl 1 rfl) ?_
        refine lv_dup hx hb dX6_needNumber_49 rfl ?_
        refine va_get (D := D) (ci := 6) (v := .int (nI ta__2)) (C := RX6) (T := TX6) (N := 6) hx hb hts inX6 hown hK hP 0 rfl rfl 2 (by decide) (hts _ tw_113) (fun _ h9 => h9) rfl dX6_needNumber_50 ?_
        refine lv_iconst (v := 1) hx hb dX6_needNumber_53 (by decide) ?_
        refine lv_iadd hx hb dX6_needNumber_54 ?_
        refine lv_ti (y := (nI (ta__2 + 1))) (nI_add ta__2 1) ?_
        refine va_put (D := D) (ci := 6) (v := .int (nI (ta__2 + 1))) (ty := .int) (C := RX6) (T := TX6) (N := 6) hx hb hts inX6 tyX6 tyX6_ok nmX6 hown hK hP hD hS 0 rfl rfl 2 (by decide) (hts _ tw_113) (fun _ h9 => h9) rfl (by decide +kernel) rfl rfl (Nat.le_of_ble_eq_true rfl) dX6_needNumber_55 (fun H locs hP hD hS => ?_)
        have hQ9 := pd_mk [(x0, .inr (6, (fX6 x1 (nI tz) (nI (ta__2 + 1)) (nI ta__2) 0 fb))), (aB k x1 240 fx)] hP hD
        clear hP hD
        obtain ⟨hP, hD⟩ := hQ9
        refine lv_aload_n hx hb dX6_needNumber_58 rfl (lv_at hl 1 rfl) ?_
        refine va_get (D := D) (ci := 6) (v := .int (nI (ta__2 + 1))) (C := RX6) (T := TX6) (N := 6) hx hb hts inX6 hown hK hP 0 rfl rfl 2 (by decide) (hts _ tw_113) (fun _ h9 => h9) rfl dX6_needNumber_59 ?_
        refine lv_istore (lv' := [(4, .int (nI (ta__2 + 1))), (3, .int 1), (0, .ref x0), (1, .int p0), (2, .int p1)]) hx hb dX6_needNumber_62 hl (by decide) rfl (fun ls hl => ?_)
        refine lv_iconst (v := 0) hx hb dX6_needNumber_64 (by decide) ?_
        refine lv_istore (lv' := [(5, .int 0), (4, .int (nI (ta__2 + 1))), (3, .int 1), (0, .ref x0), (1, .int p0), (2, .int p1)]) hx hb dX6_needNumber_65 hl (by decide) rfl (fun ls hl => ?_)
        refine W_loop (σ := Nat × Int32) (fun (n_ : Nat) (x_ : Nat × Int32) (H : Heap) (locs : List Loc) (ls : Array Slot) => match x_ with | (t2_99, va_99) => n_ = tz - t2_99 ∧ (ta__2 + 1 ≤ t2_99 ∧ t2_99 ≤ tz ∧ ta__2 + 1 + (figA (bF fx) tz (ta__2 + 1)).length = t2_99 + (figA (bF fx) tz t2_99).length ∧ vXk (t2_99 - (ta__2 + 1)) va_99 (figA (bF fx) tz t2_99) = vX (figA (bF fx) tz (ta__2 + 1))) ∧ va_P D classes [(x0, .inr (6, (fX6 x1 (nI tz) (nI t2_99) (nI ta__2) 0 fb))), (aB k x1 240 fx)] H ∧ va_D A [(x0, .inr (6, (fX6 x1 (nI tz) (nI t2_99) (nI ta__2) 0 fb))), (aB k x1 240 fx)] ∧ va_S A s.heap H locs ∧ lv_has ls 6 [(5, .int va_99), (4, .int (nI (ta__2 + 1))), (3, .int 1), (0, .ref x0), (1, .int p0), (2, .int p1)]) (fun n_99 x_99 H locs ls hI ih_99 => ?_) _ (ta__2 + 1, 0) ⟨rfl, ⟨by omega, by omega, rfl, by rw [Nat.sub_self]; rfl⟩, hP, hD, hS, (lv_sub hl [0, 1, 2, 3, 4, 5] rfl)⟩
        obtain ⟨t2_99, va_99⟩ := x_99
        obtain ⟨hm_99, hv_99, hP, hD, hS, hl⟩ := hI
        subst hm_99
        refine lv_aload_n hx hb dX6_needNumber_67 rfl (lv_at hl 3 rfl) ?_
        refine va_get (D := D) (ci := 6) (v := .int (nI t2_99)) (C := RX6) (T := TX6) (N := 6) hx hb hts inX6 hown hK hP 0 rfl rfl 2 (by decide) (hts _ tw_113) (fun _ h9 => h9) rfl dX6_needNumber_68 ?_
        refine lv_aload_n hx hb dX6_needNumber_71 rfl (lv_at hl 3 rfl) ?_
        refine va_get (D := D) (ci := 6) (v := .int (nI tz)) (C := RX6) (T := TX6) (N := 6) hx hb hts inX6 hown hK hP 0 rfl rfl 1 (by decide) (hts _ tw_110) (fun _ h9 => h9) rfl dX6_needNumber_72 ?_
        refine lv_icmp_ge (tgt := 132) hx hb dX6_needNumber_75 (by decide) (fun c_100 => ?_) (fun c_100 => ?_)
        · have c_100 := (nI_leI (a := tz) (b := t2_99) (by omega) (by omega)).mp c_100
          obtain ⟨hle_101, hve_101⟩ := nn_out (figA_end (by omega)) hv_99.2.2.1 hv_99.2.2.2
          refine lv_iload_n hx hb dX6_needNumber_132 rfl (lv_at hl 2 rfl) ?_
          refine lv_if_eq (tgt := 141) hx hb dX6_needNumber_133 (by decide) (fun h => absurd h (by decide)) (fun _ => ?_)
          refine lv_iload hx hb dX6_needNumber_136 (lv_at hl 0 rfl) ?_
          refine lv_ineg hx hb dX6_needNumber_138 ?_
          refine lv_topi (fun x_102 ex_102 => ?_)
          refine lv_istore (lv' := [(5, .int x_102), (4, .int (nI (ta__2 + 1))), (3, .int 1), (0, .ref x0), (1, .int p0), (2, .int p1)]) hx hb dX6_needNumber_139 hl (by decide) rfl (fun ls hl => ?_)
          refine lv_aload_n hx hb dX6_needNumber_141 rfl (lv_at hl 3 rfl) ?_
          refine va_get (D := D) (ci := 6) (v := .int (nI t2_99)) (C := RX6) (T := TX6) (N := 6) hx hb hts inX6 hown hK hP 0 rfl rfl 2 (by decide) (hts _ tw_113) (fun _ h9 => h9) rfl dX6_needNumber_142 ?_
          refine lv_iload hx hb dX6_needNumber_145 (lv_at hl 1 rfl) ?_
          refine lv_icmp_ne (tgt := 162) hx hb dX6_needNumber_147 (by decide) (fun c_103 => ?_) (fun c_103 => ?_)
          · have c_103 : ¬ (t2_99 = (ta__2 + 1)) := fun h => c_103 ((nI_eq (a := t2_99) (b := (ta__2 + 1)) (by omega) (by omega)).mpr h)
            refine lv_aload_n hx hb dX6_needNumber_162 rfl (lv_at hl 3 rfl) ?_
            refine va_get (D := D) (ci := 6) (v := .int (nI t2_99)) (C := RX6) (T := TX6) (N := 6) hx hb hts inX6 hown hK hP 0 rfl rfl 2 (by decide) (hts _ tw_113) (fun _ h9 => h9) rfl dX6_needNumber_163 ?_
            refine lv_iload hx hb dX6_needNumber_166 (lv_at hl 1 rfl) ?_
            refine lv_isub hx hb dX6_needNumber_168 ?_
            refine lv_ti (y := (nI (t2_99 - (ta__2 + 1)))) (pk_sub (a := t2_99) (b := (ta__2 + 1)) (by omega)) ?_
            refine lv_iconst (v := 3) hx hb dX6_needNumber_169 (by decide) ?_
            refine lv_icmp_gt (tgt := 185) hx hb dX6_needNumber_170 (by decide) (fun c_104 => ?_) (fun c_104 => ?_)
            · have c_104 := (nI_ltI (a := 3) (b := (t2_99 - (ta__2 + 1))) (by omega) (by omega)).mp c_104
              refine lv_aload_n hx hb dX6_needNumber_185 rfl (lv_at hl 3 rfl) ?_
              refine lv_iconst (v := 2) hx hb dX6_needNumber_186 (by decide) ?_
              refine lv_aload_n hx hb dX6_needNumber_187 rfl (lv_at hl 3 rfl) ?_
              refine va_get (D := D) (ci := 6) (v := .int (nI ta__2)) (C := RX6) (T := TX6) (N := 6) hx hb hts inX6 hown hK hP 0 rfl rfl 3 (by decide) (hts _ tw_116) (fun _ h9 => h9) rfl dX6_needNumber_188 ?_
              refine rw_v (D := D) (wr := [(aB k x1 240 fx)]) (va_runV (As := [.int 2, .int (nI ta__2)]) (rest := []) ⟨hx, hb, hml, hown, hts⟩ ((y_fail l D k st lo x0 x1 tz t2_99 (nI ta__2) 0 fb 2 (nI ta__2) (by decide)) H.size) (cwV 2 hts (gV tw_476 tw_456 tw_457 tw_80 tw_458) rfl rfl rfl (by decide +kernel) ⟨Nat.le_of_ble_eq_true rfl, Nat.le_of_ble_eq_true rfl⟩) (pV hS hAlo hlo hP hK (va_Dlo hD hAlo) hZ [0] (by decide) rfl (ci := 6) (q := (RX6, TX6, 6)) (q0 := 0) rfl rfl) rfl rfl hl.1 rfl (lv_room (Nat.le_of_ble_eq_true rfl)) dX6_needNumber_191 ⟨Nat.le_of_ble_eq_true rfl, Nat.le_of_ble_eq_true rfl⟩) hS hA hP hD [0] [1] rfl rfl (by decide) (by decide) (fun u H locs hw_105 hP hD hS => ?_)
              obtain ⟨fn__105, fb__105⟩ := u
              have hQ9 := pd_mk [(aB k x1 240 fx), (x0, .inr (6, (fX6 x1 (nI tz) (nI t2_99) (nI ta__2) fn__105 fb__105)))] hP hD
              clear hP hD
              obtain ⟨hP, hD⟩ := hQ9
              try dsimp only at hw_105
              obtain ⟨hs0_106, hs1_106⟩ := hw_105.2.1 rfl
              replace hs0_106 := hs0_106.symm
              subst hs0_106
              replace hs1_106 := hs1_106.symm
              subst hs1_106
              refine lv_aload_n hx hb dX6_needNumber_194 rfl (lv_at hl 3 rfl) ?_
              refine ro_i (D := D) (va_runV (As := []) (rest := []) ⟨hx, hb, hml, hown, hts⟩ ((x_failed l D k st lo x0 x1 tz t2_99 (nI ta__2) 2 (nI ta__2)) H.size) (cwV 0 hts (gV tw_471 tw_368 tw_369 tw_80 tw_370) rfl rfl rfl (by decide +kernel) ⟨Nat.le_of_ble_eq_true rfl, Nat.le_of_ble_eq_true rfl⟩) (pV hS hAlo hlo hP hK (va_Dlo hD hAlo) hZ [1] (by decide) rfl (ci := 6) (q := (RX6, TX6, 6)) (q0 := 0) rfl rfl) rfl rfl hl.1 rfl (lv_room (Nat.le_of_ble_eq_true rfl)) dX6_needNumber_195 ⟨Nat.le_of_ble_eq_true rfl, Nat.le_of_ble_eq_true rfl⟩) hS hA hP (fun r_107 H locs hw_107 hP hS => ?_)
              try dsimp only at hw_107
              obtain rfl : r_107 = 1 := by rcases hw_107 with ⟨h, h2⟩ | ⟨h, h2⟩ <;> first | exact h | exact absurd rfl h2 | exact absurd h2 (by decide)
              refine lv_if_eq (tgt := 205) hx hb dX6_needNumber_198 (by decide) (fun h => absurd h (by decide)) (fun _ => ?_)
              refine lv_iload_n hx hb dX6_needNumber_201 rfl (lv_at hl 4 rfl) ?_
              refine lv_goto (tgt := 207) hx hb dX6_needNumber_202 (by decide) ?_
              obtain ⟨hP9, hD9⟩ := pd_sub [(x0, .inr (6, (fX6 x1 (nI tz) (nI t2_99) (nI ta__2) 2 (nI ta__2)))), (aB k x1 240 fx)] [1, 0] hP hD (by decide) rfl
              exact W.iret (v := p0) hx hb hr (fun t ht hW => ⟨⟨p0, (t2_99, (nI ta__2), 2, (nI ta__2)), rfl, ⟨fun h => absurd rfl h, fun _ => ⟨_, _, rfl, .inr (.inr ⟨rfl, rfl, rfl, (nuR_C c_3 hw_50 c_51 hw_2.1).trans (nuS_2 hle_101 (by omega) (vS_t hve_101 ex_102) (.inl (by omega)))⟩)⟩, by omega, by omega, ⟨Int32.le_refl _, hle⟩⟩, by rw [ht]; exact hP9, hD9⟩, hS.F ht⟩) hS.2.2 dX6_needNumber_207
            · have c_104 : ¬ (3 < (t2_99 - (ta__2 + 1))) := fun h => c_104 ((nI_ltI (a := 3) (b := (t2_99 - (ta__2 + 1))) (by omega) (by omega)).mpr h)
              refine lv_iload hx hb dX6_needNumber_173 (lv_at hl 0 rfl) ?_
              refine lv_iload_n hx hb dX6_needNumber_175 rfl (lv_at hl 4 rfl) ?_
              refine lv_icmp_lt (tgt := 185) hx hb dX6_needNumber_176 (by decide) (fun c_108 => ?_) (fun c_108 => ?_)
              · refine lv_aload_n hx hb dX6_needNumber_185 rfl (lv_at hl 3 rfl) ?_
                refine lv_iconst (v := 2) hx hb dX6_needNumber_186 (by decide) ?_
                refine lv_aload_n hx hb dX6_needNumber_187 rfl (lv_at hl 3 rfl) ?_
                refine va_get (D := D) (ci := 6) (v := .int (nI ta__2)) (C := RX6) (T := TX6) (N := 6) hx hb hts inX6 hown hK hP 0 rfl rfl 3 (by decide) (hts _ tw_116) (fun _ h9 => h9) rfl dX6_needNumber_188 ?_
                refine rw_v (D := D) (wr := [(aB k x1 240 fx)]) (va_runV (As := [.int 2, .int (nI ta__2)]) (rest := []) ⟨hx, hb, hml, hown, hts⟩ ((y_fail l D k st lo x0 x1 tz t2_99 (nI ta__2) 0 fb 2 (nI ta__2) (by decide)) H.size) (cwV 2 hts (gV tw_476 tw_456 tw_457 tw_80 tw_458) rfl rfl rfl (by decide +kernel) ⟨Nat.le_of_ble_eq_true rfl, Nat.le_of_ble_eq_true rfl⟩) (pV hS hAlo hlo hP hK (va_Dlo hD hAlo) hZ [0] (by decide) rfl (ci := 6) (q := (RX6, TX6, 6)) (q0 := 0) rfl rfl) rfl rfl hl.1 rfl (lv_room (Nat.le_of_ble_eq_true rfl)) dX6_needNumber_191 ⟨Nat.le_of_ble_eq_true rfl, Nat.le_of_ble_eq_true rfl⟩) hS hA hP hD [0] [1] rfl rfl (by decide) (by decide) (fun u H locs hw_109 hP hD hS => ?_)
                obtain ⟨fn__109, fb__109⟩ := u
                have hQ9 := pd_mk [(aB k x1 240 fx), (x0, .inr (6, (fX6 x1 (nI tz) (nI t2_99) (nI ta__2) fn__109 fb__109)))] hP hD
                clear hP hD
                obtain ⟨hP, hD⟩ := hQ9
                try dsimp only at hw_109
                obtain ⟨hs0_110, hs1_110⟩ := hw_109.2.1 rfl
                replace hs0_110 := hs0_110.symm
                subst hs0_110
                replace hs1_110 := hs1_110.symm
                subst hs1_110
                refine lv_aload_n hx hb dX6_needNumber_194 rfl (lv_at hl 3 rfl) ?_
                refine ro_i (D := D) (va_runV (As := []) (rest := []) ⟨hx, hb, hml, hown, hts⟩ ((x_failed l D k st lo x0 x1 tz t2_99 (nI ta__2) 2 (nI ta__2)) H.size) (cwV 0 hts (gV tw_471 tw_368 tw_369 tw_80 tw_370) rfl rfl rfl (by decide +kernel) ⟨Nat.le_of_ble_eq_true rfl, Nat.le_of_ble_eq_true rfl⟩) (pV hS hAlo hlo hP hK (va_Dlo hD hAlo) hZ [1] (by decide) rfl (ci := 6) (q := (RX6, TX6, 6)) (q0 := 0) rfl rfl) rfl rfl hl.1 rfl (lv_room (Nat.le_of_ble_eq_true rfl)) dX6_needNumber_195 ⟨Nat.le_of_ble_eq_true rfl, Nat.le_of_ble_eq_true rfl⟩) hS hA hP (fun r_111 H locs hw_111 hP hS => ?_)
                try dsimp only at hw_111
                obtain rfl : r_111 = 1 := by rcases hw_111 with ⟨h, h2⟩ | ⟨h, h2⟩ <;> first | exact h | exact absurd rfl h2 | exact absurd h2 (by decide)
                refine lv_if_eq (tgt := 205) hx hb dX6_needNumber_198 (by decide) (fun h => absurd h (by decide)) (fun _ => ?_)
                refine lv_iload_n hx hb dX6_needNumber_201 rfl (lv_at hl 4 rfl) ?_
                refine lv_goto (tgt := 207) hx hb dX6_needNumber_202 (by decide) ?_
                obtain ⟨hP9, hD9⟩ := pd_sub [(x0, .inr (6, (fX6 x1 (nI tz) (nI t2_99) (nI ta__2) 2 (nI ta__2)))), (aB k x1 240 fx)] [1, 0] hP hD (by decide) rfl
                exact W.iret (v := p0) hx hb hr (fun t ht hW => ⟨⟨p0, (t2_99, (nI ta__2), 2, (nI ta__2)), rfl, ⟨fun h => absurd rfl h, fun _ => ⟨_, _, rfl, .inr (.inr ⟨rfl, rfl, rfl, (nuR_C c_3 hw_50 c_51 hw_2.1).trans (nuS_2 hle_101 (by omega) (vS_t hve_101 ex_102) (.inr (fun h => absurd h.1 (Int32.not_le.mpr c_108))))⟩)⟩, by omega, by omega, ⟨Int32.le_refl _, hle⟩⟩, by rw [ht]; exact hP9, hD9⟩, hS.F ht⟩) hS.2.2 dX6_needNumber_207
              · refine lv_iload hx hb dX6_needNumber_179 (lv_at hl 0 rfl) ?_
                refine lv_iload_n hx hb dX6_needNumber_181 rfl (lv_at hl 5 rfl) ?_
                refine lv_icmp_le (tgt := 194) hx hb dX6_needNumber_182 (by decide) (fun c_112 => ?_) (fun c_112 => ?_)
                · refine lv_aload_n hx hb dX6_needNumber_194 rfl (lv_at hl 3 rfl) ?_
                  refine ro_i (D := D) (va_runV (As := []) (rest := []) ⟨hx, hb, hml, hown, hts⟩ ((x_failed l D k st lo x0 x1 tz t2_99 (nI ta__2) 0 fb) H.size) (cwV 0 hts (gV tw_471 tw_368 tw_369 tw_80 tw_370) rfl rfl rfl (by decide +kernel) ⟨Nat.le_of_ble_eq_true rfl, Nat.le_of_ble_eq_true rfl⟩) (pV hS hAlo hlo hP hK (va_Dlo hD hAlo) hZ [0] (by decide) rfl (ci := 6) (q := (RX6, TX6, 6)) (q0 := 0) rfl rfl) rfl rfl hl.1 rfl (lv_room (Nat.le_of_ble_eq_true rfl)) dX6_needNumber_195 ⟨Nat.le_of_ble_eq_true rfl, Nat.le_of_ble_eq_true rfl⟩) hS hA hP (fun r_113 H locs hw_113 hP hS => ?_)
                  try dsimp only at hw_113
                  obtain rfl : r_113 = 0 := by rcases hw_113 with ⟨h, h2⟩ | ⟨h, h2⟩ <;> first | exact h | exact absurd rfl h2 | exact absurd h2 (by decide)
                  refine lv_if_eq (tgt := 205) hx hb dX6_needNumber_198 (by decide) (fun _ => ?_) (fun h => absurd (by decide) h)
                  refine lv_iload hx hb dX6_needNumber_205 (lv_at hl 0 rfl) ?_
                  obtain ⟨hP9, hD9⟩ := pd_sub [(x0, .inr (6, (fX6 x1 (nI tz) (nI t2_99) (nI ta__2) 0 fb))), (aB k x1 240 fx)] [0, 1] hP hD (by decide) rfl
                  exact W.iret (v := x_102) hx hb hr (fun t ht hW => ⟨⟨x_102, (t2_99, (nI ta__2), 0, fb), rfl, ⟨fun h => absurd rfl h, fun _ => ⟨0, _, rfl, .inl ⟨rfl, (nuR_C c_3 hw_50 c_51 hw_2.1).trans (nuS_0 hle_101 (by omega) (vS_t hve_101 ex_102) (by omega) ⟨Int32.not_lt.mp c_108, c_112⟩)⟩⟩, by omega, by omega, ⟨Int32.not_lt.mp c_108, c_112⟩⟩, by rw [ht]; exact hP9, hD9⟩, hS.F ht⟩) hS.2.2 dX6_needNumber_207
                · refine lv_aload_n hx hb dX6_needNumber_185 rfl (lv_at hl 3 rfl) ?_
                  refine lv_iconst (v := 2) hx hb dX6_needNumber_186 (by decide) ?_
                  refine lv_aload_n hx hb dX6_needNumber_187 rfl (lv_at hl 3 rfl) ?_
                  refine va_get (D := D) (ci := 6) (v := .int (nI ta__2)) (C := RX6) (T := TX6) (N := 6) hx hb hts inX6 hown hK hP 0 rfl rfl 3 (by decide) (hts _ tw_116) (fun _ h9 => h9) rfl dX6_needNumber_188 ?_
                  refine rw_v (D := D) (wr := [(aB k x1 240 fx)]) (va_runV (As := [.int 2, .int (nI ta__2)]) (rest := []) ⟨hx, hb, hml, hown, hts⟩ ((y_fail l D k st lo x0 x1 tz t2_99 (nI ta__2) 0 fb 2 (nI ta__2) (by decide)) H.size) (cwV 2 hts (gV tw_476 tw_456 tw_457 tw_80 tw_458) rfl rfl rfl (by decide +kernel) ⟨Nat.le_of_ble_eq_true rfl, Nat.le_of_ble_eq_true rfl⟩) (pV hS hAlo hlo hP hK (va_Dlo hD hAlo) hZ [0] (by decide) rfl (ci := 6) (q := (RX6, TX6, 6)) (q0 := 0) rfl rfl) rfl rfl hl.1 rfl (lv_room (Nat.le_of_ble_eq_true rfl)) dX6_needNumber_191 ⟨Nat.le_of_ble_eq_true rfl, Nat.le_of_ble_eq_true rfl⟩) hS hA hP hD [0] [1] rfl rfl (by decide) (by decide) (fun u H locs hw_114 hP hD hS => ?_)
                  obtain ⟨fn__114, fb__114⟩ := u
                  have hQ9 := pd_mk [(aB k x1 240 fx), (x0, .inr (6, (fX6 x1 (nI tz) (nI t2_99) (nI ta__2) fn__114 fb__114)))] hP hD
                  clear hP hD
                  obtain ⟨hP, hD⟩ := hQ9
                  try dsimp only at hw_114
                  obtain ⟨hs0_115, hs1_115⟩ := hw_114.2.1 rfl
                  replace hs0_115 := hs0_115.symm
                  subst hs0_115
                  replace hs1_115 := hs1_115.symm
                  subst hs1_115
                  refine lv_aload_n hx hb dX6_needNumber_194 rfl (lv_at hl 3 rfl) ?_
                  refine ro_i (D := D) (va_runV (As := []) (rest := []) ⟨hx, hb, hml, hown, hts⟩ ((x_failed l D k st lo x0 x1 tz t2_99 (nI ta__2) 2 (nI ta__2)) H.size) (cwV 0 hts (gV tw_471 tw_368 tw_369 tw_80 tw_370) rfl rfl rfl (by decide +kernel) ⟨Nat.le_of_ble_eq_true rfl, Nat.le_of_ble_eq_true rfl⟩) (pV hS hAlo hlo hP hK (va_Dlo hD hAlo) hZ [1] (by decide) rfl (ci := 6) (q := (RX6, TX6, 6)) (q0 := 0) rfl rfl) rfl rfl hl.1 rfl (lv_room (Nat.le_of_ble_eq_true rfl)) dX6_needNumber_195 ⟨Nat.le_of_ble_eq_true rfl, Nat.le_of_ble_eq_true rfl⟩) hS hA hP (fun r_116 H locs hw_116 hP hS => ?_)
                  try dsimp only at hw_116
                  obtain rfl : r_116 = 1 := by rcases hw_116 with ⟨h, h2⟩ | ⟨h, h2⟩ <;> first | exact h | exact absurd rfl h2 | exact absurd h2 (by decide)
                  refine lv_if_eq (tgt := 205) hx hb dX6_needNumber_198 (by decide) (fun h => absurd h (by decide)) (fun _ => ?_)
                  refine lv_iload_n hx hb dX6_needNumber_201 rfl (lv_at hl 4 rfl) ?_
                  refine lv_goto (tgt := 207) hx hb dX6_needNumber_202 (by decide) ?_
                  obtain ⟨hP9, hD9⟩ := pd_sub [(x0, .inr (6, (fX6 x1 (nI tz) (nI t2_99) (nI ta__2) 2 (nI ta__2)))), (aB k x1 240 fx)] [1, 0] hP hD (by decide) rfl
                  exact W.iret (v := p0) hx hb hr (fun t ht hW => ⟨⟨p0, (t2_99, (nI ta__2), 2, (nI ta__2)), rfl, ⟨fun h => absurd rfl h, fun _ => ⟨_, _, rfl, .inr (.inr ⟨rfl, rfl, rfl, (nuR_C c_3 hw_50 c_51 hw_2.1).trans (nuS_2 hle_101 (by omega) (vS_t hve_101 ex_102) (.inr (fun h => absurd h.2 c_112)))⟩)⟩, by omega, by omega, ⟨Int32.le_refl _, hle⟩⟩, by rw [ht]; exact hP9, hD9⟩, hS.F ht⟩) hS.2.2 dX6_needNumber_207
          · have c_103 := (nI_eq (a := t2_99) (b := (ta__2 + 1)) (by omega) (by omega)).mp c_103
            refine lv_aload_n hx hb dX6_needNumber_150 rfl (lv_at hl 3 rfl) ?_
            refine lv_iconst (v := 1) hx hb dX6_needNumber_151 (by decide) ?_
            refine lv_aload_n hx hb dX6_needNumber_152 rfl (lv_at hl 3 rfl) ?_
            refine va_get (D := D) (ci := 6) (v := .int (nI t2_99)) (C := RX6) (T := TX6) (N := 6) hx hb hts inX6 hown hK hP 0 rfl rfl 2 (by decide) (hts _ tw_113) (fun _ h9 => h9) rfl dX6_needNumber_153 ?_
            refine rw_v (D := D) (wr := [(aB k x1 240 fx)]) (va_runV (As := [.int 1, .int (nI t2_99)]) (rest := []) ⟨hx, hb, hml, hown, hts⟩ ((y_fail l D k st lo x0 x1 tz t2_99 (nI ta__2) 0 fb 1 (nI t2_99) (by decide)) H.size) (cwV 2 hts (gV tw_476 tw_456 tw_457 tw_80 tw_458) rfl rfl rfl (by decide +kernel) ⟨Nat.le_of_ble_eq_true rfl, Nat.le_of_ble_eq_true rfl⟩) (pV hS hAlo hlo hP hK (va_Dlo hD hAlo) hZ [0] (by decide) rfl (ci := 6) (q := (RX6, TX6, 6)) (q0 := 0) rfl rfl) rfl rfl hl.1 rfl (lv_room (Nat.le_of_ble_eq_true rfl)) dX6_needNumber_156 ⟨Nat.le_of_ble_eq_true rfl, Nat.le_of_ble_eq_true rfl⟩) hS hA hP hD [0] [1] rfl rfl (by decide) (by decide) (fun u H locs hw_117 hP hD hS => ?_)
            obtain ⟨fn__117, fb__117⟩ := u
            have hQ9 := pd_mk [(aB k x1 240 fx), (x0, .inr (6, (fX6 x1 (nI tz) (nI t2_99) (nI ta__2) fn__117 fb__117)))] hP hD
            clear hP hD
            obtain ⟨hP, hD⟩ := hQ9
            try dsimp only at hw_117
            obtain ⟨hs0_118, hs1_118⟩ := hw_117.2.1 rfl
            replace hs0_118 := hs0_118.symm
            subst hs0_118
            replace hs1_118 := hs1_118.symm
            subst hs1_118
            refine lv_goto (tgt := 194) hx hb dX6_needNumber_159 (by decide) ?_
            refine lv_aload_n hx hb dX6_needNumber_194 rfl (lv_at hl 3 rfl) ?_
            refine ro_i (D := D) (va_runV (As := []) (rest := []) ⟨hx, hb, hml, hown, hts⟩ ((x_failed l D k st lo x0 x1 tz t2_99 (nI ta__2) 1 (nI t2_99)) H.size) (cwV 0 hts (gV tw_471 tw_368 tw_369 tw_80 tw_370) rfl rfl rfl (by decide +kernel) ⟨Nat.le_of_ble_eq_true rfl, Nat.le_of_ble_eq_true rfl⟩) (pV hS hAlo hlo hP hK (va_Dlo hD hAlo) hZ [1] (by decide) rfl (ci := 6) (q := (RX6, TX6, 6)) (q0 := 0) rfl rfl) rfl rfl hl.1 rfl (lv_room (Nat.le_of_ble_eq_true rfl)) dX6_needNumber_195 ⟨Nat.le_of_ble_eq_true rfl, Nat.le_of_ble_eq_true rfl⟩) hS hA hP (fun r_119 H locs hw_119 hP hS => ?_)
            try dsimp only at hw_119
            obtain rfl : r_119 = 1 := by rcases hw_119 with ⟨h, h2⟩ | ⟨h, h2⟩ <;> first | exact h | exact absurd rfl h2 | exact absurd h2 (by decide)
            refine lv_if_eq (tgt := 205) hx hb dX6_needNumber_198 (by decide) (fun h => absurd h (by decide)) (fun _ => ?_)
            refine lv_iload_n hx hb dX6_needNumber_201 rfl (lv_at hl 4 rfl) ?_
            refine lv_goto (tgt := 207) hx hb dX6_needNumber_202 (by decide) ?_
            obtain ⟨hP9, hD9⟩ := pd_sub [(x0, .inr (6, (fX6 x1 (nI tz) (nI t2_99) (nI ta__2) 1 (nI t2_99)))), (aB k x1 240 fx)] [1, 0] hP hD (by decide) rfl
            exact W.iret (v := p0) hx hb hr (fun t ht hW => ⟨⟨p0, (t2_99, (nI ta__2), 1, (nI t2_99)), rfl, ⟨fun h => absurd rfl h, fun _ => ⟨_, _, rfl, .inr (.inl ⟨rfl, rfl, rfl, (nuR_C c_3 hw_50 c_51 hw_2.1).trans (nuS_1t hle_101 (by omega))⟩)⟩, by omega, by omega, ⟨Int32.le_refl _, hle⟩⟩, by rw [ht]; exact hP9, hD9⟩, hS.F ht⟩) hS.2.2 dX6_needNumber_207
        · have c_100 : ¬ (tz ≤ t2_99) := fun h => c_100 ((nI_leI (a := tz) (b := t2_99) (by omega) (by omega)).mpr h)
          refine lv_aload_n hx hb dX6_needNumber_78 rfl (lv_at hl 3 rfl) ?_
          refine lv_aload_n hx hb dX6_needNumber_79 rfl (lv_at hl 3 rfl) ?_
          refine va_get (D := D) (ci := 6) (v := .int (nI t2_99)) (C := RX6) (T := TX6) (N := 6) hx hb hts inX6 hown hK hP 0 rfl rfl 2 (by decide) (hts _ tw_113) (fun _ h9 => h9) rfl dX6_needNumber_80 ?_
          refine ro_i (D := D) (va_runV (As := [.int (nI t2_99)]) (rest := []) ⟨hx, hb, hml, hown, hts⟩ ((y_isFigureAt l D k st lo x0 x1 tz t2_99 (nI ta__2) 0 fb fx t2_99 (by first | assumption | omega) (by first | assumption | omega)) H.size) (cwV 1 hts (gV tw_472 tw_473 tw_474 tw_80 tw_475) rfl rfl rfl (by decide +kernel) ⟨Nat.le_of_ble_eq_true rfl, Nat.le_of_ble_eq_true rfl⟩) (pV hS hAlo hlo hP hK (va_Dlo hD hAlo) hZ [0, 1] (by decide) rfl (ci := 6) (q := (RX6, TX6, 6)) (q0 := 0) rfl rfl) rfl rfl hl.1 rfl (lv_room (Nat.le_of_ble_eq_true rfl)) dX6_needNumber_83 ⟨Nat.le_of_ble_eq_true rfl, Nat.le_of_ble_eq_true rfl⟩) hS hA hP (fun r_120 H locs hw_120 hP hS => ?_)
          try dsimp only at hw_120
          rcases hw_120 with ⟨rfl, hw_120⟩ | ⟨rfl, hw_120⟩
          · refine lv_if_eq (tgt := 132) hx hb dX6_needNumber_86 (by decide) (fun h => absurd h (by decide)) (fun _ => ?_)
            refine lv_aload_n hx hb dX6_needNumber_89 rfl (lv_at hl 3 rfl) ?_
            refine va_get (D := D) (ci := 6) (v := .int (nI t2_99)) (C := RX6) (T := TX6) (N := 6) hx hb hts inX6 hown hK hP 0 rfl rfl 2 (by decide) (hts _ tw_113) (fun _ h9 => h9) rfl dX6_needNumber_90 ?_
            refine lv_iload hx hb dX6_needNumber_93 (lv_at hl 1 rfl) ?_
            refine lv_isub hx hb dX6_needNumber_95 ?_
            refine lv_ti (y := (nI (t2_99 - (ta__2 + 1)))) (pk_sub (a := t2_99) (b := (ta__2 + 1)) (by omega)) ?_
            refine lv_iconst (v := 3) hx hb dX6_needNumber_96 (by decide) ?_
            refine lv_icmp_ge (tgt := 119) hx hb dX6_needNumber_97 (by decide) (fun c_121 => ?_) (fun c_121 => ?_)
            · have c_121 := (nI_leI (a := 3) (b := (t2_99 - (ta__2 + 1))) (by omega) (by omega)).mp c_121
              refine lv_aload_n hx hb dX6_needNumber_119 rfl (lv_at hl 3 rfl) ?_
              refine lv_dup hx hb dX6_needNumber_120 rfl ?_
              refine va_get (D := D) (ci := 6) (v := .int (nI t2_99)) (C := RX6) (T := TX6) (N := 6) hx hb hts inX6 hown hK hP 0 rfl rfl 2 (by decide) (hts _ tw_113) (fun _ h9 => h9) rfl dX6_needNumber_121 ?_
              refine lv_iconst (v := 1) hx hb dX6_needNumber_124 (by decide) ?_
              refine lv_iadd hx hb dX6_needNumber_125 ?_
              refine lv_ti (y := (nI (t2_99 + 1))) (nI_add t2_99 1) ?_
              refine va_put (D := D) (ci := 6) (v := .int (nI (t2_99 + 1))) (ty := .int) (C := RX6) (T := TX6) (N := 6) hx hb hts inX6 tyX6 tyX6_ok nmX6 hown hK hP hD hS 0 rfl rfl 2 (by decide) (hts _ tw_113) (fun _ h9 => h9) rfl (by decide +kernel) rfl rfl (Nat.le_of_ble_eq_true rfl) dX6_needNumber_126 (fun H locs hP hD hS => ?_)
              have hQ9 := pd_mk [(x0, .inr (6, (fX6 x1 (nI tz) (nI (t2_99 + 1)) (nI ta__2) 0 fb))), (aB k x1 240 fx)] hP hD
              clear hP hD
              obtain ⟨hP, hD⟩ := hQ9
              refine lv_goto (tgt := 67) hx hb dX6_needNumber_129 (by decide) ?_
              have hst_122 := nn_step (by omega) (by omega) hw_120 hv_99.2.2.1 hv_99.2.2.2
              exact ih_99 _ (t2_99 + 1, va_99) _ _ _ (by omega) ⟨rfl, ⟨by omega, by omega, hst_122.1, hst_122.2.2 (by omega)⟩, hP, hD, hS, (lv_sub hl [0, 1, 2, 3, 4, 5] rfl)⟩
            · have c_121 : ¬ (3 ≤ (t2_99 - (ta__2 + 1))) := fun h => c_121 ((nI_leI (a := 3) (b := (t2_99 - (ta__2 + 1))) (by omega) (by omega)).mpr h)
              refine lv_iload hx hb dX6_needNumber_100 (lv_at hl 0 rfl) ?_
              refine lv_bipush (v := 10) hx hb dX6_needNumber_102 (by decide) ?_
              refine lv_imul hx hb dX6_needNumber_104 ?_
              refine lv_topi (fun x_123 ex_123 => ?_)
              refine lv_aload_n hx hb dX6_needNumber_105 rfl (lv_at hl 3 rfl) ?_
              refine lv_aload_n hx hb dX6_needNumber_106 rfl (lv_at hl 3 rfl) ?_
              refine va_get (D := D) (ci := 6) (v := .int (nI t2_99)) (C := RX6) (T := TX6) (N := 6) hx hb hts inX6 hown hK hP 0 rfl rfl 2 (by decide) (hts _ tw_113) (fun _ h9 => h9) rfl dX6_needNumber_107 ?_
              refine ro_i (D := D) (va_runV (As := [.int (nI t2_99)]) (rest := [.int x_123]) ⟨hx, hb, hml, hown, hts⟩ ((y_byteAt l D k st lo x0 x1 tz t2_99 (nI ta__2) 0 fb fx t2_99 (by first | assumption | omega) (by first | assumption | omega)) H.size) (cwV 1 hts (gV tw_379 tw_380 tw_381 tw_80 tw_382) rfl rfl rfl (by decide +kernel) ⟨Nat.le_of_ble_eq_true rfl, Nat.le_of_ble_eq_true rfl⟩) (pV hS hAlo hlo hP hK (va_Dlo hD hAlo) hZ [0, 1] (by decide) rfl (ci := 6) (q := (RX6, TX6, 6)) (q0 := 0) rfl rfl) rfl rfl hl.1 rfl (lv_room (Nat.le_of_ble_eq_true rfl)) dX6_needNumber_110 ⟨Nat.le_of_ble_eq_true rfl, Nat.le_of_ble_eq_true rfl⟩) hS hA hP (fun r_124 H locs hw_124 hP hS => ?_)
              try dsimp only at hw_124
              refine lv_iadd hx hb dX6_needNumber_113 ?_
              refine lv_topi (fun x_125 ex_125 => ?_)
              refine lv_bipush (v := 48) hx hb dX6_needNumber_114 (by decide) ?_
              refine lv_isub hx hb dX6_needNumber_116 ?_
              refine lv_topi (fun x_126 ex_126 => ?_)
              refine lv_istore (lv' := [(5, .int x_126), (4, .int (nI (ta__2 + 1))), (3, .int 1), (0, .ref x0), (1, .int p0), (2, .int p1)]) hx hb dX6_needNumber_117 hl (by decide) rfl (fun ls hl => ?_)
              refine lv_aload_n hx hb dX6_needNumber_119 rfl (lv_at hl 3 rfl) ?_
              refine lv_dup hx hb dX6_needNumber_120 rfl ?_
              refine va_get (D := D) (ci := 6) (v := .int (nI t2_99)) (C := RX6) (T := TX6) (N := 6) hx hb hts inX6 hown hK hP 0 rfl rfl 2 (by decide) (hts _ tw_113) (fun _ h9 => h9) rfl dX6_needNumber_121 ?_
              refine lv_iconst (v := 1) hx hb dX6_needNumber_124 (by decide) ?_
              refine lv_iadd hx hb dX6_needNumber_125 ?_
              refine lv_ti (y := (nI (t2_99 + 1))) (nI_add t2_99 1) ?_
              refine va_put (D := D) (ci := 6) (v := .int (nI (t2_99 + 1))) (ty := .int) (C := RX6) (T := TX6) (N := 6) hx hb hts inX6 tyX6 tyX6_ok nmX6 hown hK hP hD hS 0 rfl rfl 2 (by decide) (hts _ tw_113) (fun _ h9 => h9) rfl (by decide +kernel) rfl rfl (Nat.le_of_ble_eq_true rfl) dX6_needNumber_126 (fun H locs hP hD hS => ?_)
              have hQ9 := pd_mk [(x0, .inr (6, (fX6 x1 (nI tz) (nI (t2_99 + 1)) (nI ta__2) 0 fb))), (aB k x1 240 fx)] hP hD
              clear hP hD
              obtain ⟨hP, hD⟩ := hQ9
              refine lv_goto (tgt := 67) hx hb dX6_needNumber_129 (by decide) ?_
              have hst_127 := nn_step (by omega) (by omega) hw_120 hv_99.2.2.1 hv_99.2.2.2
              exact ih_99 _ (t2_99 + 1, x_126) _ _ _ (by omega) ⟨rfl, ⟨by omega, by omega, hst_127.1, (by rw [ex_126, ex_125, ex_123]; exact hst_127.2.1 (by omega) _ hw_124)⟩, hP, hD, hS, (lv_sub hl [0, 1, 2, 3, 4, 5] rfl)⟩
          · refine lv_if_eq (tgt := 132) hx hb dX6_needNumber_86 (by decide) (fun _ => ?_) (fun h => absurd (by decide) h)
            obtain ⟨hle_128, hve_128⟩ := nn_out (nn_fe hw_120) hv_99.2.2.1 hv_99.2.2.2
            refine lv_iload_n hx hb dX6_needNumber_132 rfl (lv_at hl 2 rfl) ?_
            refine lv_if_eq (tgt := 141) hx hb dX6_needNumber_133 (by decide) (fun h => absurd h (by decide)) (fun _ => ?_)
            refine lv_iload hx hb dX6_needNumber_136 (lv_at hl 0 rfl) ?_
            refine lv_ineg hx hb dX6_needNumber_138 ?_
            refine lv_topi (fun x_129 ex_129 => ?_)
            refine lv_istore (lv' := [(5, .int x_129), (4, .int (nI (ta__2 + 1))), (3, .int 1), (0, .ref x0), (1, .int p0), (2, .int p1)]) hx hb dX6_needNumber_139 hl (by decide) rfl (fun ls hl => ?_)
            refine lv_aload_n hx hb dX6_needNumber_141 rfl (lv_at hl 3 rfl) ?_
            refine va_get (D := D) (ci := 6) (v := .int (nI t2_99)) (C := RX6) (T := TX6) (N := 6) hx hb hts inX6 hown hK hP 0 rfl rfl 2 (by decide) (hts _ tw_113) (fun _ h9 => h9) rfl dX6_needNumber_142 ?_
            refine lv_iload hx hb dX6_needNumber_145 (lv_at hl 1 rfl) ?_
            refine lv_icmp_ne (tgt := 162) hx hb dX6_needNumber_147 (by decide) (fun c_130 => ?_) (fun c_130 => ?_)
            · have c_130 : ¬ (t2_99 = (ta__2 + 1)) := fun h => c_130 ((nI_eq (a := t2_99) (b := (ta__2 + 1)) (by omega) (by omega)).mpr h)
              refine lv_aload_n hx hb dX6_needNumber_162 rfl (lv_at hl 3 rfl) ?_
              refine va_get (D := D) (ci := 6) (v := .int (nI t2_99)) (C := RX6) (T := TX6) (N := 6) hx hb hts inX6 hown hK hP 0 rfl rfl 2 (by decide) (hts _ tw_113) (fun _ h9 => h9) rfl dX6_needNumber_163 ?_
              refine lv_iload hx hb dX6_needNumber_166 (lv_at hl 1 rfl) ?_
              refine lv_isub hx hb dX6_needNumber_168 ?_
              refine lv_ti (y := (nI (t2_99 - (ta__2 + 1)))) (pk_sub (a := t2_99) (b := (ta__2 + 1)) (by omega)) ?_
              refine lv_iconst (v := 3) hx hb dX6_needNumber_169 (by decide) ?_
              refine lv_icmp_gt (tgt := 185) hx hb dX6_needNumber_170 (by decide) (fun c_131 => ?_) (fun c_131 => ?_)
              · have c_131 := (nI_ltI (a := 3) (b := (t2_99 - (ta__2 + 1))) (by omega) (by omega)).mp c_131
                refine lv_aload_n hx hb dX6_needNumber_185 rfl (lv_at hl 3 rfl) ?_
                refine lv_iconst (v := 2) hx hb dX6_needNumber_186 (by decide) ?_
                refine lv_aload_n hx hb dX6_needNumber_187 rfl (lv_at hl 3 rfl) ?_
                refine va_get (D := D) (ci := 6) (v := .int (nI ta__2)) (C := RX6) (T := TX6) (N := 6) hx hb hts inX6 hown hK hP 0 rfl rfl 3 (by decide) (hts _ tw_116) (fun _ h9 => h9) rfl dX6_needNumber_188 ?_
                refine rw_v (D := D) (wr := [(aB k x1 240 fx)]) (va_runV (As := [.int 2, .int (nI ta__2)]) (rest := []) ⟨hx, hb, hml, hown, hts⟩ ((y_fail l D k st lo x0 x1 tz t2_99 (nI ta__2) 0 fb 2 (nI ta__2) (by decide)) H.size) (cwV 2 hts (gV tw_476 tw_456 tw_457 tw_80 tw_458) rfl rfl rfl (by decide +kernel) ⟨Nat.le_of_ble_eq_true rfl, Nat.le_of_ble_eq_true rfl⟩) (pV hS hAlo hlo hP hK (va_Dlo hD hAlo) hZ [0] (by decide) rfl (ci := 6) (q := (RX6, TX6, 6)) (q0 := 0) rfl rfl) rfl rfl hl.1 rfl (lv_room (Nat.le_of_ble_eq_true rfl)) dX6_needNumber_191 ⟨Nat.le_of_ble_eq_true rfl, Nat.le_of_ble_eq_true rfl⟩) hS hA hP hD [0] [1] rfl rfl (by decide) (by decide) (fun u H locs hw_132 hP hD hS => ?_)
                obtain ⟨fn__132, fb__132⟩ := u
                have hQ9 := pd_mk [(aB k x1 240 fx), (x0, .inr (6, (fX6 x1 (nI tz) (nI t2_99) (nI ta__2) fn__132 fb__132)))] hP hD
                clear hP hD
                obtain ⟨hP, hD⟩ := hQ9
                try dsimp only at hw_132
                obtain ⟨hs0_133, hs1_133⟩ := hw_132.2.1 rfl
                replace hs0_133 := hs0_133.symm
                subst hs0_133
                replace hs1_133 := hs1_133.symm
                subst hs1_133
                refine lv_aload_n hx hb dX6_needNumber_194 rfl (lv_at hl 3 rfl) ?_
                refine ro_i (D := D) (va_runV (As := []) (rest := []) ⟨hx, hb, hml, hown, hts⟩ ((x_failed l D k st lo x0 x1 tz t2_99 (nI ta__2) 2 (nI ta__2)) H.size) (cwV 0 hts (gV tw_471 tw_368 tw_369 tw_80 tw_370) rfl rfl rfl (by decide +kernel) ⟨Nat.le_of_ble_eq_true rfl, Nat.le_of_ble_eq_true rfl⟩) (pV hS hAlo hlo hP hK (va_Dlo hD hAlo) hZ [1] (by decide) rfl (ci := 6) (q := (RX6, TX6, 6)) (q0 := 0) rfl rfl) rfl rfl hl.1 rfl (lv_room (Nat.le_of_ble_eq_true rfl)) dX6_needNumber_195 ⟨Nat.le_of_ble_eq_true rfl, Nat.le_of_ble_eq_true rfl⟩) hS hA hP (fun r_134 H locs hw_134 hP hS => ?_)
                try dsimp only at hw_134
                obtain rfl : r_134 = 1 := by rcases hw_134 with ⟨h, h2⟩ | ⟨h, h2⟩ <;> first | exact h | exact absurd rfl h2 | exact absurd h2 (by decide)
                refine lv_if_eq (tgt := 205) hx hb dX6_needNumber_198 (by decide) (fun h => absurd h (by decide)) (fun _ => ?_)
                refine lv_iload_n hx hb dX6_needNumber_201 rfl (lv_at hl 4 rfl) ?_
                refine lv_goto (tgt := 207) hx hb dX6_needNumber_202 (by decide) ?_
                obtain ⟨hP9, hD9⟩ := pd_sub [(x0, .inr (6, (fX6 x1 (nI tz) (nI t2_99) (nI ta__2) 2 (nI ta__2)))), (aB k x1 240 fx)] [1, 0] hP hD (by decide) rfl
                exact W.iret (v := p0) hx hb hr (fun t ht hW => ⟨⟨p0, (t2_99, (nI ta__2), 2, (nI ta__2)), rfl, ⟨fun h => absurd rfl h, fun _ => ⟨_, _, rfl, .inr (.inr ⟨rfl, rfl, rfl, (nuR_C c_3 hw_50 c_51 hw_2.1).trans (nuS_2 hle_128 (by omega) (vS_t hve_128 ex_129) (.inl (by omega)))⟩)⟩, by omega, by omega, ⟨Int32.le_refl _, hle⟩⟩, by rw [ht]; exact hP9, hD9⟩, hS.F ht⟩) hS.2.2 dX6_needNumber_207
              · have c_131 : ¬ (3 < (t2_99 - (ta__2 + 1))) := fun h => c_131 ((nI_ltI (a := 3) (b := (t2_99 - (ta__2 + 1))) (by omega) (by omega)).mpr h)
                refine lv_iload hx hb dX6_needNumber_173 (lv_at hl 0 rfl) ?_
                refine lv_iload_n hx hb dX6_needNumber_175 rfl (lv_at hl 4 rfl) ?_
                refine lv_icmp_lt (tgt := 185) hx hb dX6_needNumber_176 (by decide) (fun c_135 => ?_) (fun c_135 => ?_)
                · refine lv_aload_n hx hb dX6_needNumber_185 rfl (lv_at hl 3 rfl) ?_
                  refine lv_iconst (v := 2) hx hb dX6_needNumber_186 (by decide) ?_
                  refine lv_aload_n hx hb dX6_needNumber_187 rfl (lv_at hl 3 rfl) ?_
                  refine va_get (D := D) (ci := 6) (v := .int (nI ta__2)) (C := RX6) (T := TX6) (N := 6) hx hb hts inX6 hown hK hP 0 rfl rfl 3 (by decide) (hts _ tw_116) (fun _ h9 => h9) rfl dX6_needNumber_188 ?_
                  refine rw_v (D := D) (wr := [(aB k x1 240 fx)]) (va_runV (As := [.int 2, .int (nI ta__2)]) (rest := []) ⟨hx, hb, hml, hown, hts⟩ ((y_fail l D k st lo x0 x1 tz t2_99 (nI ta__2) 0 fb 2 (nI ta__2) (by decide)) H.size) (cwV 2 hts (gV tw_476 tw_456 tw_457 tw_80 tw_458) rfl rfl rfl (by decide +kernel) ⟨Nat.le_of_ble_eq_true rfl, Nat.le_of_ble_eq_true rfl⟩) (pV hS hAlo hlo hP hK (va_Dlo hD hAlo) hZ [0] (by decide) rfl (ci := 6) (q := (RX6, TX6, 6)) (q0 := 0) rfl rfl) rfl rfl hl.1 rfl (lv_room (Nat.le_of_ble_eq_true rfl)) dX6_needNumber_191 ⟨Nat.le_of_ble_eq_true rfl, Nat.le_of_ble_eq_true rfl⟩) hS hA hP hD [0] [1] rfl rfl (by decide) (by decide) (fun u H locs hw_136 hP hD hS => ?_)
                  obtain ⟨fn__136, fb__136⟩ := u
                  have hQ9 := pd_mk [(aB k x1 240 fx), (x0, .inr (6, (fX6 x1 (nI tz) (nI t2_99) (nI ta__2) fn__136 fb__136)))] hP hD
                  clear hP hD
                  obtain ⟨hP, hD⟩ := hQ9
                  try dsimp only at hw_136
                  obtain ⟨hs0_137, hs1_137⟩ := hw_136.2.1 rfl
                  replace hs0_137 := hs0_137.symm
                  subst hs0_137
                  replace hs1_137 := hs1_137.symm
                  subst hs1_137
                  refine lv_aload_n hx hb dX6_needNumber_194 rfl (lv_at hl 3 rfl) ?_
                  refine ro_i (D := D) (va_runV (As := []) (rest := []) ⟨hx, hb, hml, hown, hts⟩ ((x_failed l D k st lo x0 x1 tz t2_99 (nI ta__2) 2 (nI ta__2)) H.size) (cwV 0 hts (gV tw_471 tw_368 tw_369 tw_80 tw_370) rfl rfl rfl (by decide +kernel) ⟨Nat.le_of_ble_eq_true rfl, Nat.le_of_ble_eq_true rfl⟩) (pV hS hAlo hlo hP hK (va_Dlo hD hAlo) hZ [1] (by decide) rfl (ci := 6) (q := (RX6, TX6, 6)) (q0 := 0) rfl rfl) rfl rfl hl.1 rfl (lv_room (Nat.le_of_ble_eq_true rfl)) dX6_needNumber_195 ⟨Nat.le_of_ble_eq_true rfl, Nat.le_of_ble_eq_true rfl⟩) hS hA hP (fun r_138 H locs hw_138 hP hS => ?_)
                  try dsimp only at hw_138
                  obtain rfl : r_138 = 1 := by rcases hw_138 with ⟨h, h2⟩ | ⟨h, h2⟩ <;> first | exact h | exact absurd rfl h2 | exact absurd h2 (by decide)
                  refine lv_if_eq (tgt := 205) hx hb dX6_needNumber_198 (by decide) (fun h => absurd h (by decide)) (fun _ => ?_)
                  refine lv_iload_n hx hb dX6_needNumber_201 rfl (lv_at hl 4 rfl) ?_
                  refine lv_goto (tgt := 207) hx hb dX6_needNumber_202 (by decide) ?_
                  obtain ⟨hP9, hD9⟩ := pd_sub [(x0, .inr (6, (fX6 x1 (nI tz) (nI t2_99) (nI ta__2) 2 (nI ta__2)))), (aB k x1 240 fx)] [1, 0] hP hD (by decide) rfl
                  exact W.iret (v := p0) hx hb hr (fun t ht hW => ⟨⟨p0, (t2_99, (nI ta__2), 2, (nI ta__2)), rfl, ⟨fun h => absurd rfl h, fun _ => ⟨_, _, rfl, .inr (.inr ⟨rfl, rfl, rfl, (nuR_C c_3 hw_50 c_51 hw_2.1).trans (nuS_2 hle_128 (by omega) (vS_t hve_128 ex_129) (.inr (fun h => absurd h.1 (Int32.not_le.mpr c_135))))⟩)⟩, by omega, by omega, ⟨Int32.le_refl _, hle⟩⟩, by rw [ht]; exact hP9, hD9⟩, hS.F ht⟩) hS.2.2 dX6_needNumber_207
                · refine lv_iload hx hb dX6_needNumber_179 (lv_at hl 0 rfl) ?_
                  refine lv_iload_n hx hb dX6_needNumber_181 rfl (lv_at hl 5 rfl) ?_
                  refine lv_icmp_le (tgt := 194) hx hb dX6_needNumber_182 (by decide) (fun c_139 => ?_) (fun c_139 => ?_)
                  · refine lv_aload_n hx hb dX6_needNumber_194 rfl (lv_at hl 3 rfl) ?_
                    refine ro_i (D := D) (va_runV (As := []) (rest := []) ⟨hx, hb, hml, hown, hts⟩ ((x_failed l D k st lo x0 x1 tz t2_99 (nI ta__2) 0 fb) H.size) (cwV 0 hts (gV tw_471 tw_368 tw_369 tw_80 tw_370) rfl rfl rfl (by decide +kernel) ⟨Nat.le_of_ble_eq_true rfl, Nat.le_of_ble_eq_true rfl⟩) (pV hS hAlo hlo hP hK (va_Dlo hD hAlo) hZ [0] (by decide) rfl (ci := 6) (q := (RX6, TX6, 6)) (q0 := 0) rfl rfl) rfl rfl hl.1 rfl (lv_room (Nat.le_of_ble_eq_true rfl)) dX6_needNumber_195 ⟨Nat.le_of_ble_eq_true rfl, Nat.le_of_ble_eq_true rfl⟩) hS hA hP (fun r_140 H locs hw_140 hP hS => ?_)
                    try dsimp only at hw_140
                    obtain rfl : r_140 = 0 := by rcases hw_140 with ⟨h, h2⟩ | ⟨h, h2⟩ <;> first | exact h | exact absurd rfl h2 | exact absurd h2 (by decide)
                    refine lv_if_eq (tgt := 205) hx hb dX6_needNumber_198 (by decide) (fun _ => ?_) (fun h => absurd (by decide) h)
                    refine lv_iload hx hb dX6_needNumber_205 (lv_at hl 0 rfl) ?_
                    obtain ⟨hP9, hD9⟩ := pd_sub [(x0, .inr (6, (fX6 x1 (nI tz) (nI t2_99) (nI ta__2) 0 fb))), (aB k x1 240 fx)] [0, 1] hP hD (by decide) rfl
                    exact W.iret (v := x_129) hx hb hr (fun t ht hW => ⟨⟨x_129, (t2_99, (nI ta__2), 0, fb), rfl, ⟨fun h => absurd rfl h, fun _ => ⟨0, _, rfl, .inl ⟨rfl, (nuR_C c_3 hw_50 c_51 hw_2.1).trans (nuS_0 hle_128 (by omega) (vS_t hve_128 ex_129) (by omega) ⟨Int32.not_lt.mp c_135, c_139⟩)⟩⟩, by omega, by omega, ⟨Int32.not_lt.mp c_135, c_139⟩⟩, by rw [ht]; exact hP9, hD9⟩, hS.F ht⟩) hS.2.2 dX6_needNumber_207
                  · refine lv_aload_n hx hb dX6_needNumber_185 rfl (lv_at hl 3 rfl) ?_
                    refine lv_iconst (v := 2) hx hb dX6_needNumber_186 (by decide) ?_
                    refine lv_aload_n hx hb dX6_needNumber_187 rfl (lv_at hl 3 rfl) ?_
                    refine va_get (D := D) (ci := 6) (v := .int (nI ta__2)) (C := RX6) (T := TX6) (N := 6) hx hb hts inX6 hown hK hP 0 rfl rfl 3 (by decide) (hts _ tw_116) (fun _ h9 => h9) rfl dX6_needNumber_188 ?_
                    refine rw_v (D := D) (wr := [(aB k x1 240 fx)]) (va_runV (As := [.int 2, .int (nI ta__2)]) (rest := []) ⟨hx, hb, hml, hown, hts⟩ ((y_fail l D k st lo x0 x1 tz t2_99 (nI ta__2) 0 fb 2 (nI ta__2) (by decide)) H.size) (cwV 2 hts (gV tw_476 tw_456 tw_457 tw_80 tw_458) rfl rfl rfl (by decide +kernel) ⟨Nat.le_of_ble_eq_true rfl, Nat.le_of_ble_eq_true rfl⟩) (pV hS hAlo hlo hP hK (va_Dlo hD hAlo) hZ [0] (by decide) rfl (ci := 6) (q := (RX6, TX6, 6)) (q0 := 0) rfl rfl) rfl rfl hl.1 rfl (lv_room (Nat.le_of_ble_eq_true rfl)) dX6_needNumber_191 ⟨Nat.le_of_ble_eq_true rfl, Nat.le_of_ble_eq_true rfl⟩) hS hA hP hD [0] [1] rfl rfl (by decide) (by decide) (fun u H locs hw_141 hP hD hS => ?_)
                    obtain ⟨fn__141, fb__141⟩ := u
                    have hQ9 := pd_mk [(aB k x1 240 fx), (x0, .inr (6, (fX6 x1 (nI tz) (nI t2_99) (nI ta__2) fn__141 fb__141)))] hP hD
                    clear hP hD
                    obtain ⟨hP, hD⟩ := hQ9
                    try dsimp only at hw_141
                    obtain ⟨hs0_142, hs1_142⟩ := hw_141.2.1 rfl
                    replace hs0_142 := hs0_142.symm
                    subst hs0_142
                    replace hs1_142 := hs1_142.symm
                    subst hs1_142
                    refine lv_aload_n hx hb dX6_needNumber_194 rfl (lv_at hl 3 rfl) ?_
                    refine ro_i (D := D) (va_runV (As := []) (rest := []) ⟨hx, hb, hml, hown, hts⟩ ((x_failed l D k st lo x0 x1 tz t2_99 (nI ta__2) 2 (nI ta__2)) H.size) (cwV 0 hts (gV tw_471 tw_368 tw_369 tw_80 tw_370) rfl rfl rfl (by decide +kernel) ⟨Nat.le_of_ble_eq_true rfl, Nat.le_of_ble_eq_true rfl⟩) (pV hS hAlo hlo hP hK (va_Dlo hD hAlo) hZ [1] (by decide) rfl (ci := 6) (q := (RX6, TX6, 6)) (q0 := 0) rfl rfl) rfl rfl hl.1 rfl (lv_room (Nat.le_of_ble_eq_true rfl)) dX6_needNumber_195 ⟨Nat.le_of_ble_eq_true rfl, Nat.le_of_ble_eq_true rfl⟩) hS hA hP (fun r_143 H locs hw_143 hP hS => ?_)
                    try dsimp only at hw_143
                    obtain rfl : r_143 = 1 := by rcases hw_143 with ⟨h, h2⟩ | ⟨h, h2⟩ <;> first | exact h | exact absurd rfl h2 | exact absurd h2 (by decide)
                    refine lv_if_eq (tgt := 205) hx hb dX6_needNumber_198 (by decide) (fun h => absurd h (by decide)) (fun _ => ?_)
                    refine lv_iload_n hx hb dX6_needNumber_201 rfl (lv_at hl 4 rfl) ?_
                    refine lv_goto (tgt := 207) hx hb dX6_needNumber_202 (by decide) ?_
                    obtain ⟨hP9, hD9⟩ := pd_sub [(x0, .inr (6, (fX6 x1 (nI tz) (nI t2_99) (nI ta__2) 2 (nI ta__2)))), (aB k x1 240 fx)] [1, 0] hP hD (by decide) rfl
                    exact W.iret (v := p0) hx hb hr (fun t ht hW => ⟨⟨p0, (t2_99, (nI ta__2), 2, (nI ta__2)), rfl, ⟨fun h => absurd rfl h, fun _ => ⟨_, _, rfl, .inr (.inr ⟨rfl, rfl, rfl, (nuR_C c_3 hw_50 c_51 hw_2.1).trans (nuS_2 hle_128 (by omega) (vS_t hve_128 ex_129) (.inr (fun h => absurd h.2 c_139)))⟩)⟩, by omega, by omega, ⟨Int32.le_refl _, hle⟩⟩, by rw [ht]; exact hP9, hD9⟩, hS.F ht⟩) hS.2.2 dX6_needNumber_207
            · have c_130 := (nI_eq (a := t2_99) (b := (ta__2 + 1)) (by omega) (by omega)).mp c_130
              refine lv_aload_n hx hb dX6_needNumber_150 rfl (lv_at hl 3 rfl) ?_
              refine lv_iconst (v := 1) hx hb dX6_needNumber_151 (by decide) ?_
              refine lv_aload_n hx hb dX6_needNumber_152 rfl (lv_at hl 3 rfl) ?_
              refine va_get (D := D) (ci := 6) (v := .int (nI t2_99)) (C := RX6) (T := TX6) (N := 6) hx hb hts inX6 hown hK hP 0 rfl rfl 2 (by decide) (hts _ tw_113) (fun _ h9 => h9) rfl dX6_needNumber_153 ?_
              refine rw_v (D := D) (wr := [(aB k x1 240 fx)]) (va_runV (As := [.int 1, .int (nI t2_99)]) (rest := []) ⟨hx, hb, hml, hown, hts⟩ ((y_fail l D k st lo x0 x1 tz t2_99 (nI ta__2) 0 fb 1 (nI t2_99) (by decide)) H.size) (cwV 2 hts (gV tw_476 tw_456 tw_457 tw_80 tw_458) rfl rfl rfl (by decide +kernel) ⟨Nat.le_of_ble_eq_true rfl, Nat.le_of_ble_eq_true rfl⟩) (pV hS hAlo hlo hP hK (va_Dlo hD hAlo) hZ [0] (by decide) rfl (ci := 6) (q := (RX6, TX6, 6)) (q0 := 0) rfl rfl) rfl rfl hl.1 rfl (lv_room (Nat.le_of_ble_eq_true rfl)) dX6_needNumber_156 ⟨Nat.le_of_ble_eq_true rfl, Nat.le_of_ble_eq_true rfl⟩) hS hA hP hD [0] [1] rfl rfl (by decide) (by decide) (fun u H locs hw_144 hP hD hS => ?_)
              obtain ⟨fn__144, fb__144⟩ := u
              have hQ9 := pd_mk [(aB k x1 240 fx), (x0, .inr (6, (fX6 x1 (nI tz) (nI t2_99) (nI ta__2) fn__144 fb__144)))] hP hD
              clear hP hD
              obtain ⟨hP, hD⟩ := hQ9
              try dsimp only at hw_144
              obtain ⟨hs0_145, hs1_145⟩ := hw_144.2.1 rfl
              replace hs0_145 := hs0_145.symm
              subst hs0_145
              replace hs1_145 := hs1_145.symm
              subst hs1_145
              refine lv_goto (tgt := 194) hx hb dX6_needNumber_159 (by decide) ?_
              refine lv_aload_n hx hb dX6_needNumber_194 rfl (lv_at hl 3 rfl) ?_
              refine ro_i (D := D) (va_runV (As := []) (rest := []) ⟨hx, hb, hml, hown, hts⟩ ((x_failed l D k st lo x0 x1 tz t2_99 (nI ta__2) 1 (nI t2_99)) H.size) (cwV 0 hts (gV tw_471 tw_368 tw_369 tw_80 tw_370) rfl rfl rfl (by decide +kernel) ⟨Nat.le_of_ble_eq_true rfl, Nat.le_of_ble_eq_true rfl⟩) (pV hS hAlo hlo hP hK (va_Dlo hD hAlo) hZ [1] (by decide) rfl (ci := 6) (q := (RX6, TX6, 6)) (q0 := 0) rfl rfl) rfl rfl hl.1 rfl (lv_room (Nat.le_of_ble_eq_true rfl)) dX6_needNumber_195 ⟨Nat.le_of_ble_eq_true rfl, Nat.le_of_ble_eq_true rfl⟩) hS hA hP (fun r_146 H locs hw_146 hP hS => ?_)
              try dsimp only at hw_146
              obtain rfl : r_146 = 1 := by rcases hw_146 with ⟨h, h2⟩ | ⟨h, h2⟩ <;> first | exact h | exact absurd rfl h2 | exact absurd h2 (by decide)
              refine lv_if_eq (tgt := 205) hx hb dX6_needNumber_198 (by decide) (fun h => absurd h (by decide)) (fun _ => ?_)
              refine lv_iload_n hx hb dX6_needNumber_201 rfl (lv_at hl 4 rfl) ?_
              refine lv_goto (tgt := 207) hx hb dX6_needNumber_202 (by decide) ?_
              obtain ⟨hP9, hD9⟩ := pd_sub [(x0, .inr (6, (fX6 x1 (nI tz) (nI t2_99) (nI ta__2) 1 (nI t2_99)))), (aB k x1 240 fx)] [1, 0] hP hD (by decide) rfl
              exact W.iret (v := p0) hx hb hr (fun t ht hW => ⟨⟨p0, (t2_99, (nI ta__2), 1, (nI t2_99)), rfl, ⟨fun h => absurd rfl h, fun _ => ⟨_, _, rfl, .inr (.inl ⟨rfl, rfl, rfl, (nuR_C c_3 hw_50 c_51 hw_2.1).trans (nuS_1t hle_128 (by omega))⟩)⟩, by omega, by omega, ⟨Int32.le_refl _, hle⟩⟩, by rw [ht]; exact hP9, hD9⟩, hS.F ht⟩) hS.2.2 dX6_needNumber_207

theorem f_glueP3 : True := trivial
theorem rw_far {w : Int64} {c : Int32} (h : ¬ lg_cmp w 1000000000000 ≤ 0) : stW w c = 2000000000000 := by
  unfold stW
  exact if_pos ((lg_cmp_gt _ _).mp (Int32.not_le.mp h))
theorem rw_near {w : Int64} {c : Int32} (h : lg_cmp w 1000000000000 ≤ 0) : stW w c = ((27 : Int32).toInt64) * w + c.toInt64 - ((96 : Int32).toInt64) := by
  unfold stW
  exact if_neg (fun q => absurd h (Int32.not_le.mpr ((lg_cmp_gt _ _).mpr q)))
theorem rw_step {b : Nat → Int32} {n T e : Nat} {w V : Int64} (he : e < n) (hc : inB (b e) 97 122) (hl : e + (letA b n e).length = T + (letA b n T).length) (hv : (letA b n e).foldl stW w = V) : e + 1 + (letA b n (e + 1)).length = T + (letA b n T).length ∧ (letA b n (e + 1)).foldl stW (stW w (b e)) = V := by
  have g := letA_go he hc
  rw [g, List.length_cons] at hl
  rw [g] at hv
  exact ⟨by omega, hv⟩
theorem rw_out {b : Nat → Int32} {n T e : Nat} {w V : Int64} (h : letA b n e = []) (hl : e + (letA b n e).length = T + (letA b n T).length) (hv : (letA b n e).foldl stW w = V) : e = T + (letA b n T).length ∧ w = V := by
  rw [h] at hl hv
  exact ⟨hl, hv⟩
theorem nd_1 {b : Nat → Int32} {n t T we wi : Nat} {wd q : Int64} (hwi : wi < 14) (h1 : T = skA b n t) (h2 : we = T + (letA b n T).length) (h3 : wd = wval (letA b n T)) (hq : q = wval (sByt.getD wi [])) (c : lg_cmp wd q = 0) : wdR b n (sByt.getD wi []) t = (0, 0, we) := by
  have e := lgc0 c
  rw [h3, hq] at e
  have hL := (wval_inj (sKa wi hwi) letA_all (sKs wi hwi)).mp e
  unfold wdR
  rw [← h1, if_pos hL, h2, hL]
theorem nd_0 {b : Nat → Int32} {n t T wi : Nat} {wd q : Int64} (hwi : wi < 14) (h1 : T = skA b n t) (h3 : wd = wval (letA b n T)) (hq : q = wval (sByt.getD wi [])) (c : ¬ lg_cmp wd q = 0) : wdR b n (sByt.getD wi []) t = (1, T, T) := by
  have hL : ¬ letA b n T = sByt.getD wi [] := fun hL => c (by rw [h3, hq, hL]; unfold lg_cmp; rw [if_neg (fun h => absurd h (Int64.lt_irrefl)), if_pos rfl])
  unfold wdR
  rw [← h1, if_neg hL]
theorem fg_step {b : Nat → Int32} {n F t : Nat} {v V : Int32} (h : t < n) (hc : inB (b t) 48 57) (hl : t + (figA b n t).length = F + (figA b n F).length) (hv : (figA b n t).foldl stN v = V) : t + 1 + (figA b n (t + 1)).length = F + (figA b n F).length ∧ (¬ v ≤ 10000 → (figA b n (t + 1)).foldl stN v = V) ∧ (v ≤ 10000 → (figA b n (t + 1)).foldl stN (10 * v + b t - 48) = V) := by
  have g := figA_go h hc
  rw [g, List.length_cons] at hl
  rw [g] at hv
  have hv2 : (figA b n (t + 1)).foldl stN (stN v (b t)) = V := hv
  unfold stN at hv2
  refine ⟨by omega, fun c => ?_, fun c => ?_⟩
  · rw [if_pos (Int32.not_le.mp c)] at hv2
    exact hv2
  · rw [if_neg (Int32.not_lt.mpr c)] at hv2
    exact hv2
theorem fg_out {b : Nat → Int32} {n F t : Nat} {v V : Int32} (h : figA b n t = []) (hl : t + (figA b n t).length = F + (figA b n F).length) (hv : (figA b n t).foldl stN v = V) : F + (figA b n F).length = t ∧ v = V := by
  rw [h] at hl hv
  exact ⟨hl.symm, hv⟩
theorem v_len {L : List Int32} (h : ∀ c ∈ L, inB c 48 57) (hl : ¬ 3 < L.length) : vM L = vX L := by
  obtain ⟨m, -, h1, h2⟩ := v_same L h (by omega)
  rw [h1, h2]
theorem vS_fm {b : Nat → Int32} {n f t : Nat} {v : Int32} (hl : f + (figA b n f).length = t) (h3 : ¬ 3 < t - f) (hv : v = vM (figA b n f)) : vS false (figA b n f) = v := by
  rw [hv, v_len figA_all (by omega)]
  rfl
theorem vS_tm {b : Nat → Int32} {n f t : Nat} {v w : Int32} (hl : f + (figA b n f).length = t) (h3 : ¬ 3 < t - f) (hv : v = vM (figA b n f)) (hw : w = -v) : vS true (figA b n f) = w := by
  rw [hw, hv, v_len figA_all (by omega)]
  rfl
theorem nuR_F {b : Nat → Int32} {n t a : Nat} {lo hi : Int32} (e : a = skA b n t) : nuR b n false lo hi t = nuS b n false lo hi a a := by
  unfold nuR
  rw [if_neg (fun q => absurd q.1 (by decide)), e]
theorem nuR_T {b : Nat → Int32} {n t a : Nat} {lo hi r : Int32} (hr : r = byF b n a) (h : r = 45) (e : a = skA b n t) : nuR b n true lo hi t = nuS b n true lo hi a (a + 1) := by
  unfold nuR
  rw [if_pos ⟨rfl, by rw [← e]; exact hr.symm.trans h⟩, e]


set_option maxHeartbeats 4000000 in
set_option maxRecDepth 100000 in
theorem n_fails (l : Launch) (D : va_G) (k : Nat → ClassId) (st : Nat → Nat) (lo : Nat) (a : Nat → Nat) (tx : Nat) (t0 : Nat) (we : Nat) (rd : Nat) (ru : Nat) (rw : Nat) (ca : Nat) (fp : Int32) (wd : Int64) (nu : Int32) (na : Int32) (ts : Int32) (df : Int32) (db : Int32) (sd : Int32) (fn : Nat) (p1 : Int32)  : CWi l D k st lo yX8_fails cX8_fails 3 (some .int) ({ frames := 0, cells := 0, slots := 0, locals := 0 }) 0 0 [.ref (a 0), .int (nI fn), .int p1] [((a 0), .inr (8, (fX8 a (nI tx) fp (nI t0) wd (nI we) nu na (nI rd) ts (nI ru) (nI rw) (nI ca) df db sd)))] (fun (r : Int32) (fp_ : Int32) => r = nI fn ∧ fp_ = p1) (fun (fp_ : Int32) => [((a 0), .inr (8, (fX8 a (nI tx) fp_ (nI t0) wd (nI we) nu na (nI rd) ts (nI ru) (nI rw) (nI ca) df db sd)))]) := by
  intro sz
  refine Met.ofW (cc := cX8_fails) (maxL := 3) (ret := (some .int)) (by decide) rfl ?_
  intro p e s m args below meth c s₁ B hml hv
  obtain ⟨rfl, hsz, hlo, hP, hK, hDL, hZ⟩ := hv
  have hx := B.exec
  have hb := B.bytes
  have hr := B.returns
  have hts := WS_ts B.pre
  have hown : s.vm.findClass RX8 = some m.cls := findClass_of_methodNamed B.named
  have hlocks := B.notSynchronized
  subst hsz
  have hD := hDL.self (sz := s.heap.size)
  have hAlo := A_lo hDL hlo
  generalize hAe : va_A [((a 0), .inr (8, (fX8 a (nI tx) fp (nI t0) wd (nI we) nu na (nI rd) ts (nI ru) (nI rw) (nI ca) df db sd)))] s.heap.size = A at hD hAlo ⊢
  have hA : ∀ q : Nat, s.heap.size ≤ q → A q := fun q h => by rw [← hAe]; exact Or.inr h
  have hS : va_S A s.heap s.heap [] := va_S.rf
  have hl := lv_entry ([.ref (a 0), .int (nI fn), .int p1]) (n := 3) (Nat.le_of_ble_eq_true rfl)
  rw [lg_entry_eq]
  generalize (lg_sl ([.ref (a 0), .int (nI fn), .int p1]) ++ List.replicate (3 - (lg_sl ([.ref (a 0), .int (nI fn), .int p1])).length) Slot.unset).toArray = ls at hl ⊢
  have hl : lv_has ls 3 [(0, .ref (a 0)), (1, .int (nI fn)), (2, .int p1)] := hl
  refine lv_aload_n hx hb dX8_fails_0 rfl (lv_at hl 0 rfl) ?_
  refine lv_iload_n hx hb dX8_fails_1 rfl (lv_at hl 2 rfl) ?_
  refine va_put (D := D) (ci := 8) (v := .int p1) (ty := .int) (C := RX8) (T := TX8) (N := 44) hx hb hts inX8 tyX8 tyX8_ok nmX8 hown hK hP hD hS 0 rfl rfl 6 (by decide) (hts _ tw_979) (fun _ h9 => h9) rfl (by decide +kernel) rfl rfl (Nat.le_of_ble_eq_true rfl) dX8_fails_2 (fun H locs hP hD hS => ?_)
  have hQ9 := pd_mk [((a 0), .inr (8, (fX8 a (nI tx) p1 (nI t0) wd (nI we) nu na (nI rd) ts (nI ru) (nI rw) (nI ca) df db sd)))] hP hD
  clear hP hD
  obtain ⟨hP, hD⟩ := hQ9
  refine lv_iload_n hx hb dX8_fails_5 rfl (lv_at hl 1 rfl) ?_
  obtain ⟨hP9, hD9⟩ := pd_sub [((a 0), .inr (8, (fX8 a (nI tx) p1 (nI t0) wd (nI we) nu na (nI rd) ts (nI ru) (nI rw) (nI ca) df db sd)))] [0] hP hD (by decide) rfl
  exact W.iret (v := (nI fn)) hx hb hr (fun t ht hW => ⟨⟨(nI fn), p1, rfl, ⟨rfl, rfl⟩, by rw [ht]; exact hP9, hD9⟩, hS.F ht⟩) hS.2.2 dX8_fails_6


set_option maxHeartbeats 4000000 in
set_option maxRecDepth 100000 in
theorem n_here (l : Launch) (D : va_G) (k : Nat → ClassId) (st : Nat → Nat) (lo : Nat) (a : Nat → Nat) (tx : Nat) (t0 : Nat) (we : Nat) (rd : Nat) (ru : Nat) (rw : Nat) (ca : Nat) (fp : Int32) (wd : Int64) (nu : Int32) (na : Int32) (ts : Int32) (df : Int32) (db : Int32) (sd : Int32) (ftext : Nat → Int32) (ht : t0 ≤ tx) (htx : tx ≤ 240) : CWi l D k st lo yX8_here cX8_here 1 (some .int) ({ frames := 0, cells := 0, slots := 0, locals := 0 }) 0 0 [.ref (a 0)] [((a 0), .inr (8, (fX8 a (nI tx) fp (nI t0) wd (nI we) nu na (nI rd) ts (nI ru) (nI rw) (nI ca) df db sd))), (aI k (a 5) 240 ftext)] (fun (r : Int32) (t0_ : Nat) => t0_ = skA ftext tx t0 ∧ r = byF ftext tx t0_ ∧ t0 ≤ t0_ ∧ t0_ ≤ tx) (fun (t0_ : Nat) => [((a 0), .inr (8, (fX8 a (nI tx) fp (nI t0_) wd (nI we) nu na (nI rd) ts (nI ru) (nI rw) (nI ca) df db sd))), (aI k (a 5) 240 ftext)]) := by
  intro sz
  refine Met.ofW (cc := cX8_here) (maxL := 1) (ret := (some .int)) (by decide) rfl ?_
  intro p e s m args below meth c s₁ B hml hv
  obtain ⟨rfl, hsz, hlo, hP, hK, hDL, hZ⟩ := hv
  have hx := B.exec
  have hb := B.bytes
  have hr := B.returns
  have hts := WS_ts B.pre
  have hown : s.vm.findClass RX8 = some m.cls := findClass_of_methodNamed B.named
  have hlocks := B.notSynchronized
  subst hsz
  have hD := hDL.self (sz := s.heap.size)
  have hAlo := A_lo hDL hlo
  generalize hAe : va_A [((a 0), .inr (8, (fX8 a (nI tx) fp (nI t0) wd (nI we) nu na (nI rd) ts (nI ru) (nI rw) (nI ca) df db sd))), (aI k (a 5) 240 ftext)] s.heap.size = A at hD hAlo ⊢
  have hA : ∀ q : Nat, s.heap.size ≤ q → A q := fun q h => by rw [← hAe]; exact Or.inr h
  have hS : va_S A s.heap s.heap [] := va_S.rf
  have hl := lv_entry ([.ref (a 0)]) (n := 1) (Nat.le_of_ble_eq_true rfl)
  rw [lg_entry_eq]
  generalize (lg_sl ([.ref (a 0)]) ++ List.replicate (1 - (lg_sl ([.ref (a 0)])).length) Slot.unset).toArray = ls at hl ⊢
  have hl : lv_has ls 1 [(0, .ref (a 0))] := hl
  refine W_loop (σ := Nat) (fun (n_ : Nat) (t_1 : Nat) (H : Heap) (locs : List Loc) (ls : Array Slot) => n_ = tx - t_1 ∧ (skA ftext tx t_1 = skA ftext tx t0 ∧ t0 ≤ t_1 ∧ t_1 ≤ tx) ∧ va_P D classes [((a 0), .inr (8, (fX8 a (nI tx) fp (nI t_1) wd (nI we) nu na (nI rd) ts (nI ru) (nI rw) (nI ca) df db sd))), (aI k (a 5) 240 ftext)] H ∧ va_D A [((a 0), .inr (8, (fX8 a (nI tx) fp (nI t_1) wd (nI we) nu na (nI rd) ts (nI ru) (nI rw) (nI ca) df db sd))), (aI k (a 5) 240 ftext)] ∧ va_S A s.heap H locs ∧ lv_has ls 1 [(0, .ref (a 0))]) (fun n_1 x_1 H locs ls hI ih_1 => ?_) _ t0 ⟨rfl, ⟨rfl, by omega, by omega⟩, hP, hD, hS, (lv_sub hl [0] rfl)⟩
  obtain ⟨t_1, rfl⟩ : ∃ z, z = x_1 := ⟨_, rfl⟩
  obtain ⟨hm_1, hv_1, hP, hD, hS, hl⟩ := hI
  subst hm_1
  refine lv_aload_n hx hb dX8_here_0 rfl (lv_at hl 0 rfl) ?_
  refine va_get (D := D) (ci := 8) (v := .int (nI t_1)) (C := RX8) (T := TX8) (N := 44) hx hb hts inX8 hown hK hP 0 rfl rfl 7 (by decide) (hts _ tw_980) (fun _ h9 => h9) rfl dX8_here_1 ?_
  refine lv_aload_n hx hb dX8_here_4 rfl (lv_at hl 0 rfl) ?_
  refine va_get (D := D) (ci := 8) (v := .int (nI tx)) (C := RX8) (T := TX8) (N := 44) hx hb hts inX8 hown hK hP 0 rfl rfl 5 (by decide) (hts _ tw_978) (fun _ h9 => h9) rfl dX8_here_5 ?_
  refine lv_icmp_ge (tgt := 38) hx hb dX8_here_8 (by decide) (fun c_2 => ?_) (fun c_2 => ?_)
  · have c_2 := (nI_leI (a := tx) (b := t_1) (by omega) (by omega)).mp c_2
    refine lv_aload_n hx hb dX8_here_38 rfl (lv_at hl 0 rfl) ?_
    refine va_get (D := D) (ci := 8) (v := .int (nI t_1)) (C := RX8) (T := TX8) (N := 44) hx hb hts inX8 hown hK hP 0 rfl rfl 7 (by decide) (hts _ tw_980) (fun _ h9 => h9) rfl dX8_here_39 ?_
    refine lv_aload_n hx hb dX8_here_42 rfl (lv_at hl 0 rfl) ?_
    refine va_get (D := D) (ci := 8) (v := .int (nI tx)) (C := RX8) (T := TX8) (N := 44) hx hb hts inX8 hown hK hP 0 rfl rfl 5 (by decide) (hts _ tw_978) (fun _ h9 => h9) rfl dX8_here_43 ?_
    refine lv_icmp_ge (tgt := 61) hx hb dX8_here_46 (by decide) (fun _ => ?_) (fun h => absurd ((nI_leI (a := tx) (b := t_1) (by omega) (by omega)).mpr (by omega)) h)
    refine lv_iconst (v := (-1)) hx hb dX8_here_61 (by decide) ?_
    obtain ⟨hP9, hD9⟩ := pd_sub [((a 0), .inr (8, (fX8 a (nI tx) fp (nI t_1) wd (nI we) nu na (nI rd) ts (nI ru) (nI rw) (nI ca) df db sd))), (aI k (a 5) 240 ftext)] [0, 1] hP hD (by decide) rfl
    exact W.iret (v := (-1)) hx hb hr (fun t ht hW => ⟨⟨(-1), t_1, rfl, ⟨(skA_end (by omega)).symm.trans hv_1.1, (byF_out (by omega)).symm, by omega, by omega⟩, by rw [ht]; exact hP9, hD9⟩, hS.F ht⟩) hS.2.2 dX8_here_62
  · have c_2 : ¬ (tx ≤ t_1) := fun h => c_2 ((nI_leI (a := tx) (b := t_1) (by omega) (by omega)).mpr h)
    refine lv_aload_n hx hb dX8_here_11 rfl (lv_at hl 0 rfl) ?_
    refine va_get (D := D) (ci := 8) (v := .ref (a 5)) (C := RX8) (T := TX8) (N := 44) hx hb hts inX8 hown hK hP 0 rfl rfl 4 (by decide) (hts _ tw_977) (fun _ h9 => h9) rfl dX8_here_12 ?_
    refine lv_aload_n hx hb dX8_here_15 rfl (lv_at hl 0 rfl) ?_
    refine va_get (D := D) (ci := 8) (v := .int (nI t_1)) (C := RX8) (T := TX8) (N := 44) hx hb hts inX8 hown hK hP 0 rfl rfl 7 (by decide) (hts _ tw_980) (fun _ h9 => h9) rfl dX8_here_16 ?_
    refine va_iald hx hb hK hP 1 1 rfl rfl (vp_in_nI (by omega) (by decide)) dX8_here_19 ?_
    refine lv_ti (y := (ftext t_1)) (by rw [nI_clamp (by omega)]) ?_
    refine lv_bipush (v := 32) hx hb dX8_here_20 (by decide) ?_
    refine lv_icmp_ne (tgt := 38) hx hb dX8_here_22 (by decide) (fun c_4 => ?_) (fun c_4 => ?_)
    · refine lv_aload_n hx hb dX8_here_38 rfl (lv_at hl 0 rfl) ?_
      refine va_get (D := D) (ci := 8) (v := .int (nI t_1)) (C := RX8) (T := TX8) (N := 44) hx hb hts inX8 hown hK hP 0 rfl rfl 7 (by decide) (hts _ tw_980) (fun _ h9 => h9) rfl dX8_here_39 ?_
      refine lv_aload_n hx hb dX8_here_42 rfl (lv_at hl 0 rfl) ?_
      refine va_get (D := D) (ci := 8) (v := .int (nI tx)) (C := RX8) (T := TX8) (N := 44) hx hb hts inX8 hown hK hP 0 rfl rfl 5 (by decide) (hts _ tw_978) (fun _ h9 => h9) rfl dX8_here_43 ?_
      refine lv_icmp_ge (tgt := 61) hx hb dX8_here_46 (by decide) (fun h => absurd ((nI_leI (a := tx) (b := t_1) (by omega) (by omega)).mp h) (by omega)) (fun _ => ?_)
      refine lv_aload_n hx hb dX8_here_49 rfl (lv_at hl 0 rfl) ?_
      refine va_get (D := D) (ci := 8) (v := .ref (a 5)) (C := RX8) (T := TX8) (N := 44) hx hb hts inX8 hown hK hP 0 rfl rfl 4 (by decide) (hts _ tw_977) (fun _ h9 => h9) rfl dX8_here_50 ?_
      refine lv_aload_n hx hb dX8_here_53 rfl (lv_at hl 0 rfl) ?_
      refine va_get (D := D) (ci := 8) (v := .int (nI t_1)) (C := RX8) (T := TX8) (N := 44) hx hb hts inX8 hown hK hP 0 rfl rfl 7 (by decide) (hts _ tw_980) (fun _ h9 => h9) rfl dX8_here_54 ?_
      refine va_iald hx hb hK hP 1 1 rfl rfl (vp_in_nI (by omega) (by decide)) dX8_here_57 ?_
      refine lv_ti (y := (ftext t_1)) (by rw [nI_clamp (by omega)]) ?_
      refine lv_goto (tgt := 62) hx hb dX8_here_58 (by decide) ?_
      obtain ⟨hP9, hD9⟩ := pd_sub [((a 0), .inr (8, (fX8 a (nI tx) fp (nI t_1) wd (nI we) nu na (nI rd) ts (nI ru) (nI rw) (nI ca) df db sd))), (aI k (a 5) 240 ftext)] [0, 1] hP hD (by decide) rfl
      exact W.iret (v := (ftext t_1)) hx hb hr (fun t ht hW => ⟨⟨(ftext t_1), t_1, rfl, ⟨(skA_no c_4).symm.trans hv_1.1, (byF_in (by omega)).symm, by omega, by omega⟩, by rw [ht]; exact hP9, hD9⟩, hS.F ht⟩) hS.2.2 dX8_here_62
    · refine lv_aload_n hx hb dX8_here_25 rfl (lv_at hl 0 rfl) ?_
      refine lv_dup hx hb dX8_here_26 rfl ?_
      refine va_get (D := D) (ci := 8) (v := .int (nI t_1)) (C := RX8) (T := TX8) (N := 44) hx hb hts inX8 hown hK hP 0 rfl rfl 7 (by decide) (hts _ tw_980) (fun _ h9 => h9) rfl dX8_here_27 ?_
      refine lv_iconst (v := 1) hx hb dX8_here_30 (by decide) ?_
      refine lv_iadd hx hb dX8_here_31 ?_
      refine lv_ti (y := (nI (t_1 + 1))) (nI_add t_1 1) ?_
      refine va_put (D := D) (ci := 8) (v := .int (nI (t_1 + 1))) (ty := .int) (C := RX8) (T := TX8) (N := 44) hx hb hts inX8 tyX8 tyX8_ok nmX8 hown hK hP hD hS 0 rfl rfl 7 (by decide) (hts _ tw_980) (fun _ h9 => h9) rfl (by decide +kernel) rfl rfl (Nat.le_of_ble_eq_true rfl) dX8_here_32 (fun H locs hP hD hS => ?_)
      have hQ9 := pd_mk [((a 0), .inr (8, (fX8 a (nI tx) fp (nI (t_1 + 1)) wd (nI we) nu na (nI rd) ts (nI ru) (nI rw) (nI ca) df db sd))), (aI k (a 5) 240 ftext)] hP hD
      clear hP hD
      obtain ⟨hP, hD⟩ := hQ9
      refine lv_goto (tgt := 0) hx hb dX8_here_35 (by decide) ?_
      exact ih_1 _ (t_1 + 1) _ _ _ (by omega) ⟨rfl, ⟨(skA_go (by omega) c_4).trans hv_1.1, by omega, by omega⟩, hP, hD, hS, (lv_sub hl [0] rfl)⟩


set_option maxHeartbeats 4000000 in
set_option maxRecDepth 100000 in
theorem n_readWord (l : Launch) (D : va_G) (k : Nat → ClassId) (st : Nat → Nat) (lo : Nat) (a : Nat → Nat) (tx : Nat) (t0 : Nat) (we : Nat) (rd : Nat) (ru : Nat) (rw : Nat) (ca : Nat) (fp : Int32) (wd : Int64) (nu : Int32) (na : Int32) (ts : Int32) (df : Int32) (db : Int32) (sd : Int32) (ftext : Nat → Int32) (ht : t0 ≤ tx) (htx : tx ≤ 240) : CWv l D k st lo yX8_readWord cX8_readWord 2 none ({ frames := 1, cells := 0, slots := 0, locals := 25 }) 0 0 [.ref (a 0)] [((a 0), .inr (8, (fX8 a (nI tx) fp (nI t0) wd (nI we) nu na (nI rd) ts (nI ru) (nI rw) (nI ca) df db sd))), (aI k (a 5) 240 ftext)] (fun (u : Nat × Int64 × Nat) => match u with | (t0_, wd_, we_) => t0_ = skA ftext tx t0 ∧ we_ = t0_ + (letA ftext tx t0_).length ∧ wd_ = wval (letA ftext tx t0_) ∧ t0 ≤ t0_ ∧ t0_ ≤ we_ ∧ we_ ≤ tx) (fun (u : Nat × Int64 × Nat) => match u with | (t0_, wd_, we_) => [((a 0), .inr (8, (fX8 a (nI tx) fp (nI t0_) wd_ (nI we_) nu na (nI rd) ts (nI ru) (nI rw) (nI ca) df db sd))), (aI k (a 5) 240 ftext)]) := by
  intro sz
  refine Met.ofW (cc := cX8_readWord) (maxL := 2) (ret := none) (by decide) rfl ?_
  intro p e s m args below meth c s₁ B hml hv
  obtain ⟨rfl, hsz, hlo, hP, hK, hDL, hZ⟩ := hv
  have hx := B.exec
  have hb := B.bytes
  have hr := B.returns
  have hts := WS_ts B.pre
  have hown : s.vm.findClass RX8 = some m.cls := findClass_of_methodNamed B.named
  have hlocks := B.notSynchronized
  subst hsz
  have hD := hDL.self (sz := s.heap.size)
  have hAlo := A_lo hDL hlo
  generalize hAe : va_A [((a 0), .inr (8, (fX8 a (nI tx) fp (nI t0) wd (nI we) nu na (nI rd) ts (nI ru) (nI rw) (nI ca) df db sd))), (aI k (a 5) 240 ftext)] s.heap.size = A at hD hAlo ⊢
  have hA : ∀ q : Nat, s.heap.size ≤ q → A q := fun q h => by rw [← hAe]; exact Or.inr h
  have hS : va_S A s.heap s.heap [] := va_S.rf
  have hl := lv_entry ([.ref (a 0)]) (n := 2) (Nat.le_of_ble_eq_true rfl)
  rw [lg_entry_eq]
  generalize (lg_sl ([.ref (a 0)]) ++ List.replicate (2 - (lg_sl ([.ref (a 0)])).length) Slot.unset).toArray = ls at hl ⊢
  have hl : lv_has ls 2 [(0, .ref (a 0))] := hl
  refine lv_aload_n hx hb dX8_readWord_0 rfl (lv_at hl 0 rfl) ?_
  refine rw_i (D := D) (wr := []) (va_runV (As := []) (rest := []) ⟨hx, hb, hml, hown, hts⟩ ((n_here l D k st lo a tx t0 we rd ru rw ca fp wd nu na ts df db sd ftext (by first | assumption | omega) (by first | assumption | omega)) s.heap.size) (cwV 0 hts (gV tw_1120 tw_1122 tw_27 tw_87 tw_1123) rfl rfl rfl (by decide +kernel) ⟨Nat.le_of_ble_eq_true rfl, Nat.le_of_ble_eq_true rfl⟩) (pV hS hAlo hlo hP hK (va_Dlo hD hAlo) hZ [0, 1] (by decide) rfl (ci := 8) (q := (RX8, TX8, 44)) (q0 := 0) rfl rfl) rfl rfl hl.1 rfl (lv_room (Nat.le_of_ble_eq_true rfl)) dX8_readWord_1 ⟨Nat.le_of_ble_eq_true rfl, Nat.le_of_ble_eq_true rfl⟩) hS hA hP hD [0, 1] [] rfl rfl (by decide) (by decide) (fun r_1 u H locs hw_1 hP hD hS => ?_)
  obtain ⟨t0__1, rfl⟩ : ∃ z, z = u := ⟨_, rfl⟩
  have hQ9 := pd_mk [((a 0), .inr (8, (fX8 a (nI tx) fp (nI t0__1) wd (nI we) nu na (nI rd) ts (nI ru) (nI rw) (nI ca) df db sd))), (aI k (a 5) 240 ftext)] hP hD
  clear hP hD
  obtain ⟨hP, hD⟩ := hQ9
  try dsimp only at hw_1
  refine lv_istore_n (lv' := [(1, .int r_1), (0, .ref (a 0))]) hx hb dX8_readWord_4 rfl hl (by decide) rfl (fun ls hl => ?_)
  refine lv_aload_n hx hb dX8_readWord_5 rfl (lv_at hl 1 rfl) ?_
  refine lv_lconst (v := (0 : Int32).toInt64) hx hb dX8_readWord_6 (by decide) ?_
  refine va_put (D := D) (ci := 8) (v := .long ((0 : Int32).toInt64)) (ty := .long) (C := RX8) (T := TX8) (N := 44) hx hb hts inX8 tyX8 tyX8_ok nmX8 hown hK hP hD hS 0 rfl rfl 8 (by decide) (hts _ tw_981) (fun _ h9 => h9) rfl (by decide +kernel) rfl rfl (Nat.le_of_ble_eq_true rfl) dX8_readWord_7 (fun H locs hP hD hS => ?_)
  have hQ9 := pd_mk [((a 0), .inr (8, (fX8 a (nI tx) fp (nI t0__1) ((0 : Int32).toInt64) (nI we) nu na (nI rd) ts (nI ru) (nI rw) (nI ca) df db sd))), (aI k (a 5) 240 ftext)] hP hD
  clear hP hD
  obtain ⟨hP, hD⟩ := hQ9
  refine lv_aload_n hx hb dX8_readWord_10 rfl (lv_at hl 1 rfl) ?_
  refine lv_aload_n hx hb dX8_readWord_11 rfl (lv_at hl 1 rfl) ?_
  refine va_get (D := D) (ci := 8) (v := .int (nI t0__1)) (C := RX8) (T := TX8) (N := 44) hx hb hts inX8 hown hK hP 0 rfl rfl 7 (by decide) (hts _ tw_980) (fun _ h9 => h9) rfl dX8_readWord_12 ?_
  refine va_put (D := D) (ci := 8) (v := .int (nI t0__1)) (ty := .int) (C := RX8) (T := TX8) (N := 44) hx hb hts inX8 tyX8 tyX8_ok nmX8 hown hK hP hD hS 0 rfl rfl 9 (by decide) (hts _ tw_982) (fun _ h9 => h9) rfl (by decide +kernel) rfl rfl (Nat.le_of_ble_eq_true rfl) dX8_readWord_15 (fun H locs hP hD hS => ?_)
  have hQ9 := pd_mk [((a 0), .inr (8, (fX8 a (nI tx) fp (nI t0__1) ((0 : Int32).toInt64) (nI t0__1) nu na (nI rd) ts (nI ru) (nI rw) (nI ca) df db sd))), (aI k (a 5) 240 ftext)] hP hD
  clear hP hD
  obtain ⟨hP, hD⟩ := hQ9
  refine W_loop (σ := Int64 × Nat) (fun (n_ : Nat) (x_ : Int64 × Nat) (H : Heap) (locs : List Loc) (ls : Array Slot) => match x_ with | (wd2_2, e2_2) => n_ = tx - e2_2 ∧ (t0__1 ≤ e2_2 ∧ e2_2 ≤ tx ∧ e2_2 + (letA ftext tx e2_2).length = t0__1 + (letA ftext tx t0__1).length ∧ (letA ftext tx e2_2).foldl stW wd2_2 = wval (letA ftext tx t0__1)) ∧ va_P D classes [((a 0), .inr (8, (fX8 a (nI tx) fp (nI t0__1) wd2_2 (nI e2_2) nu na (nI rd) ts (nI ru) (nI rw) (nI ca) df db sd))), (aI k (a 5) 240 ftext)] H ∧ va_D A [((a 0), .inr (8, (fX8 a (nI tx) fp (nI t0__1) wd2_2 (nI e2_2) nu na (nI rd) ts (nI ru) (nI rw) (nI ca) df db sd))), (aI k (a 5) 240 ftext)] ∧ va_S A s.heap H locs ∧ lv_has ls 2 [(0, .ref (a 0))]) (fun n_2 x_2 H locs ls hI ih_2 => ?_) _ (((0 : Int32).toInt64), t0__1) ⟨rfl, ⟨by omega, by omega, rfl, rfl⟩, hP, hD, hS, (lv_sub hl [1] rfl)⟩
  obtain ⟨wd2_2, e2_2⟩ := x_2
  obtain ⟨hm_2, hv_2, hP, hD, hS, hl⟩ := hI
  subst hm_2
  refine lv_aload_n hx hb dX8_readWord_18 rfl (lv_at hl 0 rfl) ?_
  refine va_get (D := D) (ci := 8) (v := .int (nI e2_2)) (C := RX8) (T := TX8) (N := 44) hx hb hts inX8 hown hK hP 0 rfl rfl 9 (by decide) (hts _ tw_982) (fun _ h9 => h9) rfl dX8_readWord_19 ?_
  refine lv_aload_n hx hb dX8_readWord_22 rfl (lv_at hl 0 rfl) ?_
  refine va_get (D := D) (ci := 8) (v := .int (nI tx)) (C := RX8) (T := TX8) (N := 44) hx hb hts inX8 hown hK hP 0 rfl rfl 5 (by decide) (hts _ tw_978) (fun _ h9 => h9) rfl dX8_readWord_23 ?_
  refine lv_icmp_ge (tgt := 108) hx hb dX8_readWord_26 (by decide) (fun c_3 => ?_) (fun c_3 => ?_)
  · have c_3 := (nI_leI (a := tx) (b := e2_2) (by omega) (by omega)).mp c_3
    obtain ⟨hP9, hD9⟩ := pd_sub [((a 0), .inr (8, (fX8 a (nI tx) fp (nI t0__1) wd2_2 (nI e2_2) nu na (nI rd) ts (nI ru) (nI rw) (nI ca) df db sd))), (aI k (a 5) 240 ftext)] [0, 1] hP hD (by decide) rfl
    exact W.vret hx hb hr (fun t ht hW => ⟨⟨(t0__1, wd2_2, e2_2), rfl, ⟨hw_1.1, (rw_out (letA_end (by omega)) hv_2.2.2.1 hv_2.2.2.2).1, (rw_out (letA_end (by omega)) hv_2.2.2.1 hv_2.2.2.2).2, by omega, by omega, by omega⟩, by rw [ht]; exact hP9, hD9⟩, hS.F ht⟩) hS.2.2 dX8_readWord_108
  · have c_3 : ¬ (tx ≤ e2_2) := fun h => c_3 ((nI_leI (a := tx) (b := e2_2) (by omega) (by omega)).mpr h)
    refine lv_aload_n hx hb dX8_readWord_29 rfl (lv_at hl 0 rfl) ?_
    refine va_get (D := D) (ci := 8) (v := .ref (a 5)) (C := RX8) (T := TX8) (N := 44) hx hb hts inX8 hown hK hP 0 rfl rfl 4 (by decide) (hts _ tw_977) (fun _ h9 => h9) rfl dX8_readWord_30 ?_
    refine lv_aload_n hx hb dX8_readWord_33 rfl (lv_at hl 0 rfl) ?_
    refine va_get (D := D) (ci := 8) (v := .int (nI e2_2)) (C := RX8) (T := TX8) (N := 44) hx hb hts inX8 hown hK hP 0 rfl rfl 9 (by decide) (hts _ tw_982) (fun _ h9 => h9) rfl dX8_readWord_34 ?_
    refine va_iald hx hb hK hP 1 1 rfl rfl (vp_in_nI (by omega) (by decide)) dX8_readWord_37 ?_
    refine lv_ti (y := (ftext e2_2)) (by rw [nI_clamp (by omega)]) ?_
    refine lv_i2l (v := (ftext e2_2).toInt64) hx hb dX8_readWord_38 rfl ?_
    refine lv_ldc2 hx hb hown (hts _ tw_1132) dX8_readWord_39 ?_
    refine lv_tl (y := ((97 : Int32).toInt64)) (by decide) ?_
    refine lv_ldc2 hx hb hown (hts _ tw_1133) dX8_readWord_42 ?_
    refine lv_tl (y := ((122 : Int32).toInt64)) (by decide) ?_
    refine ro_i (D := D) (va_runS (As := [.long ((ftext e2_2).toInt64), .long ((97 : Int32).toInt64), .long ((122 : Int32).toInt64)]) (rest := []) ⟨hx, hb, hml, hown, hts⟩ ((k_in l D k st lo (ftext e2_2) (97 : Int32) (122 : Int32)) H.size) (va_cwS 3 hts (gS tw_1111 tw_1112 tw_87 tw_1113) rfl rfl rfl (by decide +kernel) ⟨Nat.le_of_ble_eq_true rfl, Nat.le_of_ble_eq_true rfl⟩) (pS hS hAlo hlo hP hK (va_Dlo hD hAlo) hZ [] (by decide) rfl) rfl rfl hl.1 rfl (lv_room (Nat.le_of_ble_eq_true rfl)) dX8_readWord_45 ⟨Nat.le_of_ble_eq_true rfl, Nat.le_of_ble_eq_true rfl⟩) hS hA hP (fun r_4 H locs hw_4 hP hS => ?_)
    try dsimp only at hw_4
    rcases hw_4 with ⟨rfl, hw_4⟩ | ⟨rfl, hw_4⟩
    · refine lv_if_eq (tgt := 108) hx hb dX8_readWord_48 (by decide) (fun h => absurd h (by decide)) (fun _ => ?_)
      refine lv_aload_n hx hb dX8_readWord_51 rfl (lv_at hl 0 rfl) ?_
      refine lv_aload_n hx hb dX8_readWord_52 rfl (lv_at hl 0 rfl) ?_
      refine va_get (D := D) (ci := 8) (v := .long wd2_2) (C := RX8) (T := TX8) (N := 44) hx hb hts inX8 hown hK hP 0 rfl rfl 8 (by decide) (hts _ tw_981) (fun _ h9 => h9) rfl dX8_readWord_53 ?_
      refine lv_ldc2 hx hb hown (hts _ tw_1134) dX8_readWord_56 ?_
      refine W.lcmp hx hb dX8_readWord_59 ?_
      refine lv_if_le (tgt := 69) hx hb dX8_readWord_60 (by decide) (fun c_5 => ?_) (fun c_5 => ?_)
      · refine lv_ldc2 hx hb hown (hts _ tw_1136) dX8_readWord_69 ?_
        refine lv_tl (y := ((27 : Int32).toInt64)) (by decide) ?_
        refine lv_aload_n hx hb dX8_readWord_72 rfl (lv_at hl 0 rfl) ?_
        refine va_get (D := D) (ci := 8) (v := .long wd2_2) (C := RX8) (T := TX8) (N := 44) hx hb hts inX8 hown hK hP 0 rfl rfl 8 (by decide) (hts _ tw_981) (fun _ h9 => h9) rfl dX8_readWord_73 ?_
        refine lv_lmul hx hb dX8_readWord_76 ?_
        refine lv_topl (fun x_6 ex_6 => ?_)
        refine lv_aload_n hx hb dX8_readWord_77 rfl (lv_at hl 0 rfl) ?_
        refine va_get (D := D) (ci := 8) (v := .ref (a 5)) (C := RX8) (T := TX8) (N := 44) hx hb hts inX8 hown hK hP 0 rfl rfl 4 (by decide) (hts _ tw_977) (fun _ h9 => h9) rfl dX8_readWord_78 ?_
        refine lv_aload_n hx hb dX8_readWord_81 rfl (lv_at hl 0 rfl) ?_
        refine va_get (D := D) (ci := 8) (v := .int (nI e2_2)) (C := RX8) (T := TX8) (N := 44) hx hb hts inX8 hown hK hP 0 rfl rfl 9 (by decide) (hts _ tw_982) (fun _ h9 => h9) rfl dX8_readWord_82 ?_
        refine va_iald hx hb hK hP 1 1 rfl rfl (vp_in_nI (by omega) (by decide)) dX8_readWord_85 ?_
        refine lv_ti (y := (ftext e2_2)) (by rw [nI_clamp (by omega)]) ?_
        refine lv_i2l (v := (ftext e2_2).toInt64) hx hb dX8_readWord_86 rfl ?_
        refine lv_ladd hx hb dX8_readWord_87 ?_
        refine lv_topl (fun x_7 ex_7 => ?_)
        refine lv_ldc2 hx hb hown (hts _ tw_1137) dX8_readWord_88 ?_
        refine lv_tl (y := ((96 : Int32).toInt64)) (by decide) ?_
        refine lv_lsub hx hb dX8_readWord_91 ?_
        refine lv_topl (fun x_8 ex_8 => ?_)
        refine va_put (D := D) (ci := 8) (v := .long x_8) (ty := .long) (C := RX8) (T := TX8) (N := 44) hx hb hts inX8 tyX8 tyX8_ok nmX8 hown hK hP hD hS 0 rfl rfl 8 (by decide) (hts _ tw_981) (fun _ h9 => h9) rfl (by decide +kernel) rfl rfl (Nat.le_of_ble_eq_true rfl) dX8_readWord_92 (fun H locs hP hD hS => ?_)
        have hQ9 := pd_mk [((a 0), .inr (8, (fX8 a (nI tx) fp (nI t0__1) x_8 (nI e2_2) nu na (nI rd) ts (nI ru) (nI rw) (nI ca) df db sd))), (aI k (a 5) 240 ftext)] hP hD
        clear hP hD
        obtain ⟨hP, hD⟩ := hQ9
        refine lv_aload_n hx hb dX8_readWord_95 rfl (lv_at hl 0 rfl) ?_
        refine lv_dup hx hb dX8_readWord_96 rfl ?_
        refine va_get (D := D) (ci := 8) (v := .int (nI e2_2)) (C := RX8) (T := TX8) (N := 44) hx hb hts inX8 hown hK hP 0 rfl rfl 9 (by decide) (hts _ tw_982) (fun _ h9 => h9) rfl dX8_readWord_97 ?_
        refine lv_iconst (v := 1) hx hb dX8_readWord_100 (by decide) ?_
        refine lv_iadd hx hb dX8_readWord_101 ?_
        refine lv_ti (y := (nI (e2_2 + 1))) (nI_add e2_2 1) ?_
        refine va_put (D := D) (ci := 8) (v := .int (nI (e2_2 + 1))) (ty := .int) (C := RX8) (T := TX8) (N := 44) hx hb hts inX8 tyX8 tyX8_ok nmX8 hown hK hP hD hS 0 rfl rfl 9 (by decide) (hts _ tw_982) (fun _ h9 => h9) rfl (by decide +kernel) rfl rfl (Nat.le_of_ble_eq_true rfl) dX8_readWord_102 (fun H locs hP hD hS => ?_)
        have hQ9 := pd_mk [((a 0), .inr (8, (fX8 a (nI tx) fp (nI t0__1) x_8 (nI (e2_2 + 1)) nu na (nI rd) ts (nI ru) (nI rw) (nI ca) df db sd))), (aI k (a 5) 240 ftext)] hP hD
        clear hP hD
        obtain ⟨hP, hD⟩ := hQ9
        refine lv_goto (tgt := 18) hx hb dX8_readWord_105 (by decide) ?_
        have hst_9 := rw_step (by omega) hw_4 hv_2.2.2.1 hv_2.2.2.2
        exact ih_2 _ (x_8, e2_2 + 1) _ _ _ (by omega) ⟨rfl, ⟨by omega, by omega, hst_9.1, (by have h9 := hst_9.2; rw [rw_near c_5] at h9; rw [ex_8, ex_7, ex_6]; exact h9)⟩, hP, hD, hS, (lv_sub hl [0] rfl)⟩
      · refine lv_ldc2 hx hb hown (hts _ tw_1135) dX8_readWord_63 ?_
        refine lv_goto (tgt := 92) hx hb dX8_readWord_66 (by decide) ?_
        refine va_put (D := D) (ci := 8) (v := .long 2000000000000) (ty := .long) (C := RX8) (T := TX8) (N := 44) hx hb hts inX8 tyX8 tyX8_ok nmX8 hown hK hP hD hS 0 rfl rfl 8 (by decide) (hts _ tw_981) (fun _ h9 => h9) rfl (by decide +kernel) rfl rfl (Nat.le_of_ble_eq_true rfl) dX8_readWord_92 (fun H locs hP hD hS => ?_)
        have hQ9 := pd_mk [((a 0), .inr (8, (fX8 a (nI tx) fp (nI t0__1) 2000000000000 (nI e2_2) nu na (nI rd) ts (nI ru) (nI rw) (nI ca) df db sd))), (aI k (a 5) 240 ftext)] hP hD
        clear hP hD
        obtain ⟨hP, hD⟩ := hQ9
        refine lv_aload_n hx hb dX8_readWord_95 rfl (lv_at hl 0 rfl) ?_
        refine lv_dup hx hb dX8_readWord_96 rfl ?_
        refine va_get (D := D) (ci := 8) (v := .int (nI e2_2)) (C := RX8) (T := TX8) (N := 44) hx hb hts inX8 hown hK hP 0 rfl rfl 9 (by decide) (hts _ tw_982) (fun _ h9 => h9) rfl dX8_readWord_97 ?_
        refine lv_iconst (v := 1) hx hb dX8_readWord_100 (by decide) ?_
        refine lv_iadd hx hb dX8_readWord_101 ?_
        refine lv_ti (y := (nI (e2_2 + 1))) (nI_add e2_2 1) ?_
        refine va_put (D := D) (ci := 8) (v := .int (nI (e2_2 + 1))) (ty := .int) (C := RX8) (T := TX8) (N := 44) hx hb hts inX8 tyX8 tyX8_ok nmX8 hown hK hP hD hS 0 rfl rfl 9 (by decide) (hts _ tw_982) (fun _ h9 => h9) rfl (by decide +kernel) rfl rfl (Nat.le_of_ble_eq_true rfl) dX8_readWord_102 (fun H locs hP hD hS => ?_)
        have hQ9 := pd_mk [((a 0), .inr (8, (fX8 a (nI tx) fp (nI t0__1) 2000000000000 (nI (e2_2 + 1)) nu na (nI rd) ts (nI ru) (nI rw) (nI ca) df db sd))), (aI k (a 5) 240 ftext)] hP hD
        clear hP hD
        obtain ⟨hP, hD⟩ := hQ9
        refine lv_goto (tgt := 18) hx hb dX8_readWord_105 (by decide) ?_
        have hst_10 := rw_step (by omega) hw_4 hv_2.2.2.1 hv_2.2.2.2
        exact ih_2 _ (2000000000000, e2_2 + 1) _ _ _ (by omega) ⟨rfl, ⟨by omega, by omega, hst_10.1, (by have h9 := hst_10.2; rw [rw_far c_5] at h9; exact h9)⟩, hP, hD, hS, (lv_sub hl [0] rfl)⟩
    · refine lv_if_eq (tgt := 108) hx hb dX8_readWord_48 (by decide) (fun _ => ?_) (fun h => absurd (by decide) h)
      obtain ⟨hP9, hD9⟩ := pd_sub [((a 0), .inr (8, (fX8 a (nI tx) fp (nI t0__1) wd2_2 (nI e2_2) nu na (nI rd) ts (nI ru) (nI rw) (nI ca) df db sd))), (aI k (a 5) 240 ftext)] [0, 1] hP hD (by decide) rfl
      exact W.vret hx hb hr (fun t ht hW => ⟨⟨(t0__1, wd2_2, e2_2), rfl, ⟨hw_1.1, (rw_out (letA_no hw_4) hv_2.2.2.1 hv_2.2.2.2).1, (rw_out (letA_no hw_4) hv_2.2.2.1 hv_2.2.2.2).2, by omega, by omega, by omega⟩, by rw [ht]; exact hP9, hD9⟩, hS.F ht⟩) hS.2.2 dX8_readWord_108


def fM_code (p0 : Int32) (p1 : Int32) (p2 : Int32) : Int64 := (((27 * (((27 * ((p0.toInt64) - 96)) + (p1.toInt64)) - 96)) + (p2.toInt64)) - 96)
set_option maxHeartbeats 4000000 in
set_option maxRecDepth 100000 in
theorem n_code (l : Launch) (D : va_G) (k : Nat → ClassId) (st : Nat → Nat) (lo : Nat) (p0 : Int32) (p1 : Int32) (p2 : Int32)  : CRl l D k st lo yX8_code cX8_code 3 (some .long) ({ frames := 0, cells := 0, slots := 0, locals := 0 }) [.int p0, .int p1, .int p2] [] (fun r => r = fM_code p0 p1 p2) := by
  intro sz
  refine Met.ofW (cc := cX8_code) (maxL := 3) (ret := (some .long)) (by decide) rfl ?_
  intro p e s m args below meth c s₁ B hml hv
  obtain ⟨rfl, hsz, hlo, hP, hK, hDL, hZ⟩ := hv
  have hx := B.exec
  have hb := B.bytes
  have hr := B.returns
  have hts := WS_ts B.pre
  have hown : s.vm.findClass RX8 = some m.cls := findClass_of_methodNamed B.named
  have hlocks := B.notSynchronized
  subst hsz
  have hA : ∀ q : Nat, s.heap.size ≤ q → (fun q : Nat => s.heap.size ≤ q) q := fun _ h => h
  have hAlo : ∀ q : Nat, (fun q : Nat => s.heap.size ≤ q) q → lo ≤ q := fun q h => Nat.le_trans hlo h
  have hS : va_S (fun q : Nat => s.heap.size ≤ q) s.heap s.heap [] := va_S.rf
  have hl := lv_entry ([.int p0, .int p1, .int p2]) (n := 3) (Nat.le_of_ble_eq_true rfl)
  rw [lg_entry_eq]
  generalize (lg_sl ([.int p0, .int p1, .int p2]) ++ List.replicate (3 - (lg_sl ([.int p0, .int p1, .int p2])).length) Slot.unset).toArray = ls at hl ⊢
  have hl : lv_has ls 3 [(0, .int p0), (1, .int p1), (2, .int p2)] := hl
  refine lv_ldc2 hx hb hown (hts _ tw_1136) dX8_code_0 ?_
  refine lv_ldc2 hx hb hown (hts _ tw_1136) dX8_code_3 ?_
  refine lv_iload_n hx hb dX8_code_6 rfl (lv_at hl 0 rfl) ?_
  refine lv_i2l (v := p0.toInt64) hx hb dX8_code_7 rfl ?_
  refine lv_ldc2 hx hb hown (hts _ tw_1137) dX8_code_8 ?_
  refine lv_lsub hx hb dX8_code_11 ?_
  refine lv_topl (fun x_1 ex_1 => ?_)
  refine lv_lmul hx hb dX8_code_12 ?_
  refine lv_topl (fun x_2 ex_2 => ?_)
  refine lv_iload_n hx hb dX8_code_13 rfl (lv_at hl 1 rfl) ?_
  refine lv_i2l (v := p1.toInt64) hx hb dX8_code_14 rfl ?_
  refine lv_ladd hx hb dX8_code_15 ?_
  refine lv_topl (fun x_3 ex_3 => ?_)
  refine lv_ldc2 hx hb hown (hts _ tw_1137) dX8_code_16 ?_
  refine lv_lsub hx hb dX8_code_19 ?_
  refine lv_topl (fun x_4 ex_4 => ?_)
  refine lv_lmul hx hb dX8_code_20 ?_
  refine lv_topl (fun x_5 ex_5 => ?_)
  refine lv_iload_n hx hb dX8_code_21 rfl (lv_at hl 2 rfl) ?_
  refine lv_i2l (v := p2.toInt64) hx hb dX8_code_22 rfl ?_
  refine lv_ladd hx hb dX8_code_23 ?_
  refine lv_topl (fun x_6 ex_6 => ?_)
  refine lv_ldc2 hx hb hown (hts _ tw_1137) dX8_code_24 ?_
  refine lv_lsub hx hb dX8_code_27 ?_
  refine lv_topl (fun x_7 ex_7 => ?_)
  exact W.lret (v := x_7) hx hb hr (fun t ht hW => ⟨⟨x_7, (), rfl, (by show _ = fM_code p0 p1 p2; unfold fM_code; first | (rw [ex_7, ex_6, ex_5, ex_4, ex_3, ex_2, ex_1]; done) | (rw [ex_7, ex_6, ex_5, ex_4, ex_3, ex_2, ex_1]; rfl) | (simp only [ex_7, ex_6, ex_5, ex_4, ex_3, ex_2, ex_1]; done)), trivial⟩, hS.F ht⟩) hS.2.2 dX8_code_28


def fM_longer (q0 : Int64) (p1 : Int32) : Int64 := (((27 * q0) + (p1.toInt64)) - 96)
set_option maxHeartbeats 4000000 in
set_option maxRecDepth 100000 in
theorem n_longer (l : Launch) (D : va_G) (k : Nat → ClassId) (st : Nat → Nat) (lo : Nat) (q0 : Int64) (p1 : Int32)  : CRl l D k st lo yX8_longer cX8_longer 3 (some .long) ({ frames := 0, cells := 0, slots := 0, locals := 0 }) [.long q0, .int p1] [] (fun r => r = fM_longer q0 p1) := by
  intro sz
  refine Met.ofW (cc := cX8_longer) (maxL := 3) (ret := (some .long)) (by decide) rfl ?_
  intro p e s m args below meth c s₁ B hml hv
  obtain ⟨rfl, hsz, hlo, hP, hK, hDL, hZ⟩ := hv
  have hx := B.exec
  have hb := B.bytes
  have hr := B.returns
  have hts := WS_ts B.pre
  have hown : s.vm.findClass RX8 = some m.cls := findClass_of_methodNamed B.named
  have hlocks := B.notSynchronized
  subst hsz
  have hA : ∀ q : Nat, s.heap.size ≤ q → (fun q : Nat => s.heap.size ≤ q) q := fun _ h => h
  have hAlo : ∀ q : Nat, (fun q : Nat => s.heap.size ≤ q) q → lo ≤ q := fun q h => Nat.le_trans hlo h
  have hS : va_S (fun q : Nat => s.heap.size ≤ q) s.heap s.heap [] := va_S.rf
  have hl := lv_entry ([.long q0, .int p1]) (n := 3) (Nat.le_of_ble_eq_true rfl)
  rw [lg_entry_eq]
  generalize (lg_sl ([.long q0, .int p1]) ++ List.replicate (3 - (lg_sl ([.long q0, .int p1])).length) Slot.unset).toArray = ls at hl ⊢
  have hl : lv_has ls 3 [(0, .long q0), (2, .int p1)] := hl
  refine lv_ldc2 hx hb hown (hts _ tw_1136) dX8_longer_0 ?_
  refine lv_lload_n hx hb dX8_longer_3 rfl (lv_at hl 0 rfl) ?_
  refine lv_lmul hx hb dX8_longer_4 ?_
  refine lv_topl (fun x_1 ex_1 => ?_)
  refine lv_iload_n hx hb dX8_longer_5 rfl (lv_at hl 1 rfl) ?_
  refine lv_i2l (v := p1.toInt64) hx hb dX8_longer_6 rfl ?_
  refine lv_ladd hx hb dX8_longer_7 ?_
  refine lv_topl (fun x_2 ex_2 => ?_)
  refine lv_ldc2 hx hb hown (hts _ tw_1137) dX8_longer_8 ?_
  refine lv_lsub hx hb dX8_longer_11 ?_
  refine lv_topl (fun x_3 ex_3 => ?_)
  exact W.lret (v := x_3) hx hb hr (fun t ht hW => ⟨⟨x_3, (), rfl, (by show _ = fM_longer q0 p1; unfold fM_longer; first | (rw [ex_3, ex_2, ex_1]; done) | (rw [ex_3, ex_2, ex_1]; rfl) | (simp only [ex_3, ex_2, ex_1]; done)), trivial⟩, hS.F ht⟩) hS.2.2 dX8_longer_12


def fM_longest (q0 : Int64) (p1 : Int32) (p2 : Int32) : Int64 := (fM_longer (fM_longer q0 p1) p2)
set_option maxHeartbeats 4000000 in
set_option maxRecDepth 100000 in
theorem n_longest (l : Launch) (D : va_G) (k : Nat → ClassId) (st : Nat → Nat) (lo : Nat) (q0 : Int64) (p1 : Int32) (p2 : Int32)  : CRl l D k st lo yX8_longest cX8_longest 4 (some .long) ({ frames := 1, cells := 0, slots := 0, locals := 22 }) [.long q0, .int p1, .int p2] [] (fun r => r = fM_longest q0 p1 p2) := by
  intro sz
  refine Met.ofW (cc := cX8_longest) (maxL := 4) (ret := (some .long)) (by decide) rfl ?_
  intro p e s m args below meth c s₁ B hml hv
  obtain ⟨rfl, hsz, hlo, hP, hK, hDL, hZ⟩ := hv
  have hx := B.exec
  have hb := B.bytes
  have hr := B.returns
  have hts := WS_ts B.pre
  have hown : s.vm.findClass RX8 = some m.cls := findClass_of_methodNamed B.named
  have hlocks := B.notSynchronized
  subst hsz
  have hA : ∀ q : Nat, s.heap.size ≤ q → (fun q : Nat => s.heap.size ≤ q) q := fun _ h => h
  have hAlo : ∀ q : Nat, (fun q : Nat => s.heap.size ≤ q) q → lo ≤ q := fun q h => Nat.le_trans hlo h
  have hS : va_S (fun q : Nat => s.heap.size ≤ q) s.heap s.heap [] := va_S.rf
  have hl := lv_entry ([.long q0, .int p1, .int p2]) (n := 4) (Nat.le_of_ble_eq_true rfl)
  rw [lg_entry_eq]
  generalize (lg_sl ([.long q0, .int p1, .int p2]) ++ List.replicate (4 - (lg_sl ([.long q0, .int p1, .int p2])).length) Slot.unset).toArray = ls at hl ⊢
  have hl : lv_has ls 4 [(0, .long q0), (2, .int p1), (3, .int p2)] := hl
  refine lv_lload_n hx hb dX8_longest_0 rfl (lv_at hl 0 rfl) ?_
  refine lv_iload_n hx hb dX8_longest_1 rfl (lv_at hl 1 rfl) ?_
  refine ro_l (D := D) (va_runS (As := [.long q0, .int p1]) (rest := []) ⟨hx, hb, hml, hown, hts⟩ ((n_longer l D k st lo q0 p1) s.heap.size) (va_cwS 2 hts (gS tw_1148 tw_1149 tw_87 tw_1150) rfl rfl rfl (by decide +kernel) ⟨Nat.le_of_ble_eq_true rfl, Nat.le_of_ble_eq_true rfl⟩) (pS hS hAlo hlo hP hK hDL hZ [] (by decide) rfl) rfl rfl hl.1 rfl (lv_room (Nat.le_of_ble_eq_true rfl)) dX8_longest_2 ⟨Nat.le_of_ble_eq_true rfl, Nat.le_of_ble_eq_true rfl⟩) hS hA hP (fun r_1 H locs hw_1 hP hS => ?_)
  try dsimp only at hw_1
  refine lv_iload_n hx hb dX8_longest_5 rfl (lv_at hl 2 rfl) ?_
  refine ro_l (D := D) (va_runS (As := [.long r_1, .int p2]) (rest := []) ⟨hx, hb, hml, hown, hts⟩ ((n_longer l D k st lo r_1 p2) H.size) (va_cwS 2 hts (gS tw_1148 tw_1149 tw_87 tw_1150) rfl rfl rfl (by decide +kernel) ⟨Nat.le_of_ble_eq_true rfl, Nat.le_of_ble_eq_true rfl⟩) (pS hS hAlo hlo hP hK hDL hZ [] (by decide) rfl) rfl rfl hl.1 rfl (lv_room (Nat.le_of_ble_eq_true rfl)) dX8_longest_6 ⟨Nat.le_of_ble_eq_true rfl, Nat.le_of_ble_eq_true rfl⟩) hS hA hP (fun r_2 H locs hw_2 hP hS => ?_)
  try dsimp only at hw_2
  exact W.lret (v := r_2) hx hb hr (fun t ht hW => ⟨⟨r_2, (), rfl, (by show _ = fM_longest q0 p1 p2; unfold fM_longest; first | (rw [hw_2, hw_1]; done) | (rw [hw_2, hw_1]; rfl) | (simp only [hw_2, hw_1]; done)), trivial⟩, hS.F ht⟩) hS.2.2 dX8_longest_9


set_option maxHeartbeats 4000000 in
set_option maxRecDepth 100000 in
theorem n_needs (l : Launch) (D : va_G) (k : Nat → ClassId) (st : Nat → Nat) (lo : Nat) (a : Nat → Nat) (tx : Nat) (t0 : Nat) (we : Nat) (rd : Nat) (ru : Nat) (rw : Nat) (ca : Nat) (fp : Int32) (wd : Int64) (nu : Int32) (na : Int32) (ts : Int32) (df : Int32) (db : Int32) (sd : Int32) (ftext : Nat → Int32) (q0 : Int64) (wi : Nat) (ht : t0 ≤ tx) (htx : tx ≤ 240) (hwi : wi < 14) (hq : q0 = wval (sByt.getD wi [])) : CWi l D k st lo yX8_needs cX8_needs 3 (some .int) ({ frames := 2, cells := 0, slots := 0, locals := 46 }) 0 0 [.ref (a 0), .long q0] [((a 0), .inr (8, (fX8 a (nI tx) fp (nI t0) wd (nI we) nu na (nI rd) ts (nI ru) (nI rw) (nI ca) df db sd))), (aI k (a 5) 240 ftext)] (fun (r : Int32) (u : Nat × Int64 × Nat × Int32) => match u with | (t0_, wd_, we_, fp_) => ((r = 0 ∧ wdR ftext tx (sByt.getD wi []) t0 = (0, 0, t0_) ∧ fp_ = fp) ∨ (r = 1 ∧ ∃ pl : Nat, wdR ftext tx (sByt.getD wi []) t0 = (1, pl, t0_) ∧ fp_ = nI pl)) ∧ t0 ≤ t0_ ∧ t0_ ≤ tx ∧ we_ ≤ tx) (fun (u : Nat × Int64 × Nat × Int32) => match u with | (t0_, wd_, we_, fp_) => [((a 0), .inr (8, (fX8 a (nI tx) fp_ (nI t0_) wd_ (nI we_) nu na (nI rd) ts (nI ru) (nI rw) (nI ca) df db sd))), (aI k (a 5) 240 ftext)]) := by
  intro sz
  refine Met.ofW (cc := cX8_needs) (maxL := 3) (ret := (some .int)) (by decide) rfl ?_
  intro p e s m args below meth c s₁ B hml hv
  obtain ⟨rfl, hsz, hlo, hP, hK, hDL, hZ⟩ := hv
  have hx := B.exec
  have hb := B.bytes
  have hr := B.returns
  have hts := WS_ts B.pre
  have hown : s.vm.findClass RX8 = some m.cls := findClass_of_methodNamed B.named
  have hlocks := B.notSynchronized
  subst hsz
  have hD := hDL.self (sz := s.heap.size)
  have hAlo := A_lo hDL hlo
  generalize hAe : va_A [((a 0), .inr (8, (fX8 a (nI tx) fp (nI t0) wd (nI we) nu na (nI rd) ts (nI ru) (nI rw) (nI ca) df db sd))), (aI k (a 5) 240 ftext)] s.heap.size = A at hD hAlo ⊢
  have hA : ∀ q : Nat, s.heap.size ≤ q → A q := fun q h => by rw [← hAe]; exact Or.inr h
  have hS : va_S A s.heap s.heap [] := va_S.rf
  have hl := lv_entry ([.ref (a 0), .long q0]) (n := 3) (Nat.le_of_ble_eq_true rfl)
  rw [lg_entry_eq]
  generalize (lg_sl ([.ref (a 0), .long q0]) ++ List.replicate (3 - (lg_sl ([.ref (a 0), .long q0])).length) Slot.unset).toArray = ls at hl ⊢
  have hl : lv_has ls 3 [(0, .ref (a 0)), (1, .long q0)] := hl
  refine lv_aload_n hx hb dX8_needs_0 rfl (lv_at hl 0 rfl) ?_
  refine rw_v (D := D) (wr := []) (va_runV (As := []) (rest := []) ⟨hx, hb, hml, hown, hts⟩ ((n_readWord l D k st lo a tx t0 we rd ru rw ca fp wd nu na ts df db sd ftext (by first | assumption | omega) (by first | assumption | omega)) s.heap.size) (cwV 0 hts (gV tw_1128 tw_1130 tw_29 tw_87 tw_1131) rfl rfl rfl (by decide +kernel) ⟨Nat.le_of_ble_eq_true rfl, Nat.le_of_ble_eq_true rfl⟩) (pV hS hAlo hlo hP hK (va_Dlo hD hAlo) hZ [0, 1] (by decide) rfl (ci := 8) (q := (RX8, TX8, 44)) (q0 := 0) rfl rfl) rfl rfl hl.1 rfl (lv_room (Nat.le_of_ble_eq_true rfl)) dX8_needs_1 ⟨Nat.le_of_ble_eq_true rfl, Nat.le_of_ble_eq_true rfl⟩) hS hA hP hD [0, 1] [] rfl rfl (by decide) (by decide) (fun u H locs hw_1 hP hD hS => ?_)
  obtain ⟨t0__1, wd__1, we__1⟩ := u
  have hQ9 := pd_mk [((a 0), .inr (8, (fX8 a (nI tx) fp (nI t0__1) wd__1 (nI we__1) nu na (nI rd) ts (nI ru) (nI rw) (nI ca) df db sd))), (aI k (a 5) 240 ftext)] hP hD
  clear hP hD
  obtain ⟨hP, hD⟩ := hQ9
  try dsimp only at hw_1
  refine lv_aload_n hx hb dX8_needs_4 rfl (lv_at hl 0 rfl) ?_
  refine va_get (D := D) (ci := 8) (v := .long wd__1) (C := RX8) (T := TX8) (N := 44) hx hb hts inX8 hown hK hP 0 rfl rfl 8 (by decide) (hts _ tw_981) (fun _ h9 => h9) rfl dX8_needs_5 ?_
  refine lv_lload_n hx hb dX8_needs_8 rfl (lv_at hl 1 rfl) ?_
  refine W.lcmp hx hb dX8_needs_9 ?_
  refine lv_if_eq (tgt := 23) hx hb dX8_needs_10 (by decide) (fun c_2 => ?_) (fun c_2 => ?_)
  · refine lv_aload_n hx hb dX8_needs_23 rfl (lv_at hl 0 rfl) ?_
    refine lv_aload_n hx hb dX8_needs_24 rfl (lv_at hl 0 rfl) ?_
    refine va_get (D := D) (ci := 8) (v := .int (nI we__1)) (C := RX8) (T := TX8) (N := 44) hx hb hts inX8 hown hK hP 0 rfl rfl 9 (by decide) (hts _ tw_982) (fun _ h9 => h9) rfl dX8_needs_25 ?_
    refine va_put (D := D) (ci := 8) (v := .int (nI we__1)) (ty := .int) (C := RX8) (T := TX8) (N := 44) hx hb hts inX8 tyX8 tyX8_ok nmX8 hown hK hP hD hS 0 rfl rfl 7 (by decide) (hts _ tw_980) (fun _ h9 => h9) rfl (by decide +kernel) rfl rfl (Nat.le_of_ble_eq_true rfl) dX8_needs_28 (fun H locs hP hD hS => ?_)
    have hQ9 := pd_mk [((a 0), .inr (8, (fX8 a (nI tx) fp (nI we__1) wd__1 (nI we__1) nu na (nI rd) ts (nI ru) (nI rw) (nI ca) df db sd))), (aI k (a 5) 240 ftext)] hP hD
    clear hP hD
    obtain ⟨hP, hD⟩ := hQ9
    refine lv_iconst (v := 0) hx hb dX8_needs_31 (by decide) ?_
    obtain ⟨hP9, hD9⟩ := pd_sub [((a 0), .inr (8, (fX8 a (nI tx) fp (nI we__1) wd__1 (nI we__1) nu na (nI rd) ts (nI ru) (nI rw) (nI ca) df db sd))), (aI k (a 5) 240 ftext)] [0, 1] hP hD (by decide) rfl
    exact W.iret (v := 0) hx hb hr (fun t ht hW => ⟨⟨0, (we__1, wd__1, we__1, fp), rfl, ⟨.inl ⟨rfl, nd_1 hwi hw_1.1 hw_1.2.1 hw_1.2.2.1 hq c_2, rfl⟩, by omega, by omega, by omega⟩, by rw [ht]; exact hP9, hD9⟩, hS.F ht⟩) hS.2.2 dX8_needs_32
  · refine lv_aload_n hx hb dX8_needs_13 rfl (lv_at hl 0 rfl) ?_
    refine lv_iconst (v := 1) hx hb dX8_needs_14 (by decide) ?_
    refine lv_aload_n hx hb dX8_needs_15 rfl (lv_at hl 0 rfl) ?_
    refine va_get (D := D) (ci := 8) (v := .int (nI t0__1)) (C := RX8) (T := TX8) (N := 44) hx hb hts inX8 hown hK hP 0 rfl rfl 7 (by decide) (hts _ tw_980) (fun _ h9 => h9) rfl dX8_needs_16 ?_
    refine rw_i (D := D) (wr := [(aI k (a 5) 240 ftext)]) (va_runV (As := [.int 1, .int (nI t0__1)]) (rest := []) ⟨hx, hb, hml, hown, hts⟩ ((n_fails l D k st lo a tx t0__1 we__1 rd ru rw ca fp wd__1 nu na ts df db sd 1 (nI t0__1)) H.size) (cwV 2 hts (gV tw_1151 tw_1153 tw_31 tw_87 tw_1154) rfl rfl rfl (by decide +kernel) ⟨Nat.le_of_ble_eq_true rfl, Nat.le_of_ble_eq_true rfl⟩) (pV hS hAlo hlo hP hK (va_Dlo hD hAlo) hZ [0] (by decide) rfl (ci := 8) (q := (RX8, TX8, 44)) (q0 := 0) rfl rfl) rfl rfl hl.1 rfl (lv_room (Nat.le_of_ble_eq_true rfl)) dX8_needs_19 ⟨Nat.le_of_ble_eq_true rfl, Nat.le_of_ble_eq_true rfl⟩) hS hA hP hD [0] [1] rfl rfl (by decide) (by decide) (fun r_3 u H locs hw_3 hP hD hS => ?_)
    obtain ⟨fp__3, rfl⟩ : ∃ z, z = u := ⟨_, rfl⟩
    have hQ9 := pd_mk [(aI k (a 5) 240 ftext), ((a 0), .inr (8, (fX8 a (nI tx) fp__3 (nI t0__1) wd__1 (nI we__1) nu na (nI rd) ts (nI ru) (nI rw) (nI ca) df db sd)))] hP hD
    clear hP hD
    obtain ⟨hP, hD⟩ := hQ9
    try dsimp only at hw_3
    obtain ⟨hs0_4, hs1_4⟩ := hw_3
    replace hs0_4 := hs0_4.symm
    subst hs0_4
    replace hs1_4 := hs1_4.symm
    subst hs1_4
    obtain ⟨hP9, hD9⟩ := pd_sub [((a 0), .inr (8, (fX8 a (nI tx) (nI t0__1) (nI t0__1) wd__1 (nI we__1) nu na (nI rd) ts (nI ru) (nI rw) (nI ca) df db sd))), (aI k (a 5) 240 ftext)] [1, 0] hP hD (by decide) rfl
    exact W.iret (v := 1) hx hb hr (fun t ht hW => ⟨⟨1, (t0__1, wd__1, we__1, (nI t0__1)), rfl, ⟨.inr ⟨rfl, _, nd_0 hwi hw_1.1 hw_1.2.2.1 hq c_2, rfl⟩, by omega, by omega, by omega⟩, by rw [ht]; exact hP9, hD9⟩, hS.F ht⟩) hS.2.2 dX8_needs_22


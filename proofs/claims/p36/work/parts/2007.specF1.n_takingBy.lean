def fM_takingBy (dn : Nat → Nat) (se : Nat → Nat) (tm : Nat → Nat) (gs : Nat → Int32) (fprices : Nat → Int32) (sn : Nat) (i : Nat) (p0 : Int32) (p2 : Int32) : Int32 := ((((fprices (24 * sn + i)) + (p2 * ((nI (dn sn)) - (nI i)))) + ((sg se tm gs (9 * sn + 3)) * (fM_late se tm gs sn (((fM_tick dn se tm gs sn p0 (nI i)) + (nI (dn sn))) - (nI i))))) * 1000)
set_option maxHeartbeats 4000000 in
set_option maxRecDepth 100000 in
theorem n_takingBy (l : Launch) (D : va_G) (k : Nat → ClassId) (st : Nat → Nat) (lo : Nat) (a : Nat → Nat) (tx : Nat) (t0 : Nat) (we : Nat) (rd : Nat) (ru : Nat) (rw : Nat) (ca : Nat) (fp : Int32) (wd : Int64) (nu : Int32) (na : Int32) (ts : Int32) (df : Int32) (db : Int32) (sd : Int32) (dn : Nat → Nat) (se : Nat → Nat) (tm : Nat → Nat) (gs : Nat → Int32) (fprices : Nat → Int32) (sn : Nat) (i : Nat) (p0 : Int32) (p2 : Int32)  (hs : sn < 3) (hi : i < 24) : CRi l D k st lo yX8_takingBy cX8_takingBy 6 (some .int) ({ frames := 2, cells := 0, slots := 0, locals := 45 }) [.ref (a 0), .int (nI sn), .int p0, .int (nI i), .int p2] [((a 0), .inr (8, (fX8 a (nI tx) fp (nI t0) wd (nI we) nu na (nI rd) ts (nI ru) (nI rw) (nI ca) df db sd))), (aI k (a 1) 3 (nF dn)), (aI k (a 4) 27 (sg se tm gs)), (aI k (a 3) 72 fprices)] (fun r => r = fM_takingBy dn se tm gs fprices sn i p0 p2) := by
  intro sz
  refine Met.ofW (cc := cX8_takingBy) (maxL := 6) (ret := (some .int)) (by decide) rfl ?_
  intro p e s m args below meth c s₁ B hml hv
  obtain ⟨rfl, hsz, hlo, hP, hK, hDL, hZ⟩ := hv
  have hx := B.exec
  have hb := B.bytes
  have hr := B.returns
  have hts := WS_ts B.pre
  have hown : s.vm.findClass RX8 = some m.cls := findClass_of_methodNamed B.named
  have hlocks := B.notSynchronized
  subst hsz
  have hA : ∀ q : Nat, s.heap.size ≤ q → (fun q : Nat => s.heap.size ≤ q) q := fun _ h => h
  have hAlo : ∀ q : Nat, (fun q : Nat => s.heap.size ≤ q) q → lo ≤ q := fun q h => Nat.le_trans hlo h
  have hS : va_S (fun q : Nat => s.heap.size ≤ q) s.heap s.heap [] := va_S.rf
  have hl := lv_entry ([.ref (a 0), .int (nI sn), .int p0, .int (nI i), .int p2]) (n := 6) (Nat.le_of_ble_eq_true rfl)
  rw [lg_entry_eq]
  generalize (lg_sl ([.ref (a 0), .int (nI sn), .int p0, .int (nI i), .int p2]) ++ List.replicate (6 - (lg_sl ([.ref (a 0), .int (nI sn), .int p0, .int (nI i), .int p2])).length) Slot.unset).toArray = ls at hl ⊢
  have hl : lv_has ls 6 [(0, .ref (a 0)), (1, .int (nI sn)), (2, .int p0), (3, .int (nI i)), (4, .int p2)] := hl
  refine lv_aload_n hx hb dX8_takingBy_0 rfl (lv_at hl 0 rfl) ?_
  refine va_get (D := D) (ci := 8) (v := .ref (a 1)) (C := RX8) (T := TX8) (N := 44) hx hb hts inX8 hown hK hP 0 rfl rfl 0 (by decide) (hts _ tw_973) (fun _ h9 => h9) rfl dX8_takingBy_1 ?_
  refine lv_iload_n hx hb dX8_takingBy_4 rfl (lv_at hl 1 rfl) ?_
  refine va_iald hx hb hK hP 1 1 rfl rfl (vp_in_nI (by omega) (by decide)) dX8_takingBy_5 ?_
  refine lv_ti (y := (nI (dn sn))) (by rw [nI_clamp (by omega)]; rfl) ?_
  refine lv_istore (lv' := [(5, .int (nI (dn sn))), (0, .ref (a 0)), (1, .int (nI sn)), (2, .int p0), (3, .int (nI i)), (4, .int p2)]) hx hb dX8_takingBy_6 hl (by decide) rfl (fun ls hl => ?_)
  refine lv_aload_n hx hb dX8_takingBy_8 rfl (lv_at hl 1 rfl) ?_
  refine va_get (D := D) (ci := 8) (v := .ref (a 3)) (C := RX8) (T := TX8) (N := 44) hx hb hts inX8 hown hK hP 0 rfl rfl 2 (by decide) (hts _ tw_975) (fun _ h9 => h9) rfl dX8_takingBy_9 ?_
  refine lv_bipush (v := 24) hx hb dX8_takingBy_12 (by decide) ?_
  refine lv_iload_n hx hb dX8_takingBy_14 rfl (lv_at hl 2 rfl) ?_
  refine lv_imul hx hb dX8_takingBy_15 ?_
  refine lv_ti (y := (nI (24 * sn))) (pk_mul 24 sn) ?_
  refine lv_iload_n hx hb dX8_takingBy_16 rfl (lv_at hl 4 rfl) ?_
  refine lv_iadd hx hb dX8_takingBy_17 ?_
  refine lv_ti (y := (nI (24 * sn + i))) (nI_add (24 * sn) i) ?_
  refine va_iald hx hb hK hP 3 1 rfl rfl (vp_in_nI (by omega) (by decide)) dX8_takingBy_18 ?_
  refine lv_ti (y := (fprices (24 * sn + i))) (by rw [nI_clamp (by omega)]) ?_
  refine lv_iload hx hb dX8_takingBy_19 (lv_at hl 5 rfl) ?_
  refine lv_iload hx hb dX8_takingBy_21 (lv_at hl 0 rfl) ?_
  refine lv_iload_n hx hb dX8_takingBy_23 rfl (lv_at hl 4 rfl) ?_
  refine lv_isub hx hb dX8_takingBy_24 ?_
  refine lv_topi (fun x_1 ex_1 => ?_)
  refine lv_imul hx hb dX8_takingBy_25 ?_
  refine lv_topi (fun x_2 ex_2 => ?_)
  refine lv_iadd hx hb dX8_takingBy_26 ?_
  refine lv_topi (fun x_3 ex_3 => ?_)
  refine lv_aload_n hx hb dX8_takingBy_27 rfl (lv_at hl 1 rfl) ?_
  refine lv_iload_n hx hb dX8_takingBy_28 rfl (lv_at hl 2 rfl) ?_
  refine lv_iconst (v := 3) hx hb dX8_takingBy_29 (by decide) ?_
  refine ro_i (D := D) (va_runV (As := [.int (nI sn), .int 3]) (rest := [.int x_3]) ⟨hx, hb, hml, hown, hts⟩ ((m_of l D k st lo a tx t0 we rd ru rw ca fp wd nu na ts df db sd se tm gs sn 3 (by omega) (by omega)) s.heap.size) (cwV 2 hts (gV tw_1194 tw_1196 tw_39 tw_87 tw_1197) rfl rfl rfl (by decide +kernel) ⟨Nat.le_of_ble_eq_true rfl, Nat.le_of_ble_eq_true rfl⟩) (pV hS hAlo hlo hP hK hDL hZ [0, 2] (by decide) rfl (ci := 8) (q := (RX8, TX8, 44)) (q0 := 0) rfl rfl) rfl rfl hl.1 rfl (lv_room (Nat.le_of_ble_eq_true rfl)) dX8_takingBy_30 ⟨Nat.le_of_ble_eq_true rfl, Nat.le_of_ble_eq_true rfl⟩) hS hA hP (fun r_4 H locs hw_4 hP hS => ?_)
  try dsimp only at hw_4
  refine lv_aload_n hx hb dX8_takingBy_33 rfl (lv_at hl 1 rfl) ?_
  refine lv_iload_n hx hb dX8_takingBy_34 rfl (lv_at hl 2 rfl) ?_
  refine lv_aload_n hx hb dX8_takingBy_35 rfl (lv_at hl 1 rfl) ?_
  refine lv_iload_n hx hb dX8_takingBy_36 rfl (lv_at hl 2 rfl) ?_
  refine lv_iload_n hx hb dX8_takingBy_37 rfl (lv_at hl 3 rfl) ?_
  refine lv_iload_n hx hb dX8_takingBy_38 rfl (lv_at hl 4 rfl) ?_
  refine ro_i (D := D) (va_runV (As := [.int (nI sn), .int p0, .int (nI i)]) (rest := [.int (nI sn), .ref (a 0), .int r_4, .int x_3]) ⟨hx, hb, hml, hown, hts⟩ ((n_tick l D k st lo a tx t0 we rd ru rw ca fp wd nu na ts df db sd dn se tm gs sn p0 (nI i) (by omega)) H.size) (cwV 3 hts (gV tw_1230 tw_1232 tw_45 tw_87 tw_1233) rfl rfl rfl (by decide +kernel) ⟨Nat.le_of_ble_eq_true rfl, Nat.le_of_ble_eq_true rfl⟩) (pV hS hAlo hlo hP hK hDL hZ [0, 1, 2] (by decide) rfl (ci := 8) (q := (RX8, TX8, 44)) (q0 := 0) rfl rfl) rfl rfl hl.1 rfl (lv_room (Nat.le_of_ble_eq_true rfl)) dX8_takingBy_39 ⟨Nat.le_of_ble_eq_true rfl, Nat.le_of_ble_eq_true rfl⟩) hS hA hP (fun r_5 H locs hw_5 hP hS => ?_)
  try dsimp only at hw_5
  refine lv_iload hx hb dX8_takingBy_42 (lv_at hl 0 rfl) ?_
  refine lv_iadd hx hb dX8_takingBy_44 ?_
  refine lv_topi (fun x_6 ex_6 => ?_)
  refine lv_iload_n hx hb dX8_takingBy_45 rfl (lv_at hl 4 rfl) ?_
  refine lv_isub hx hb dX8_takingBy_46 ?_
  refine lv_topi (fun x_7 ex_7 => ?_)
  refine ro_i (D := D) (va_runV (As := [.int (nI sn), .int x_7]) (rest := [.int r_4, .int x_3]) ⟨hx, hb, hml, hown, hts⟩ ((n_lateAt l D k st lo a tx t0 we rd ru rw ca fp wd nu na ts df db sd se tm gs sn x_7 (by omega)) H.size) (cwV 2 hts (gV tw_1234 tw_1236 tw_46 tw_87 tw_1237) rfl rfl rfl (by decide +kernel) ⟨Nat.le_of_ble_eq_true rfl, Nat.le_of_ble_eq_true rfl⟩) (pV hS hAlo hlo hP hK hDL hZ [0, 2] (by decide) rfl (ci := 8) (q := (RX8, TX8, 44)) (q0 := 0) rfl rfl) rfl rfl hl.1 rfl (lv_room (Nat.le_of_ble_eq_true rfl)) dX8_takingBy_47 ⟨Nat.le_of_ble_eq_true rfl, Nat.le_of_ble_eq_true rfl⟩) hS hA hP (fun r_8 H locs hw_8 hP hS => ?_)
  try dsimp only at hw_8
  refine lv_imul hx hb dX8_takingBy_50 ?_
  refine lv_topi (fun x_9 ex_9 => ?_)
  refine lv_iadd hx hb dX8_takingBy_51 ?_
  refine lv_topi (fun x_10 ex_10 => ?_)
  refine lv_sipush (v := 1000) hx hb dX8_takingBy_52 (by decide) ?_
  refine lv_imul hx hb dX8_takingBy_55 ?_
  refine lv_topi (fun x_11 ex_11 => ?_)
  exact W.iret (v := x_11) hx hb hr (fun t ht hW => ⟨⟨x_11, (), rfl, (by show _ = fM_takingBy dn se tm gs fprices sn i p0 p2; unfold fM_takingBy; first | (rw [ex_11, ex_10, ex_9, hw_8, ex_7, ex_6, hw_5, hw_4, ex_3, ex_2, ex_1]; done) | (rw [ex_11, ex_10, ex_9, hw_8, ex_7, ex_6, hw_5, hw_4, ex_3, ex_2, ex_1]; rfl) | (simp only [ex_11, ex_10, ex_9, hw_8, ex_7, ex_6, hw_5, hw_4, ex_3, ex_2, ex_1]; done)), trivial⟩, hS.F ht⟩) hS.2.2 dX8_takingBy_56


set_option maxHeartbeats 4000000 in
set_option maxRecDepth 100000 in
theorem n_door (l : Launch) (D : va_G) (k : Nat → ClassId) (st : Nat → Nat) (lo : Nat) (a : Nat → Nat) (tx : Nat) (t0 : Nat) (we : Nat) (rd : Nat) (ru : Nat) (rw : Nat) (ca : Nat) (fp : Int32) (wd : Int64) (nu : Int32) (na : Int32) (ts : Int32) (df : Int32) (db : Int32) (sd : Int32) (dn : Nat → Nat) (se : Nat → Nat) (tm : Nat → Nat) (gs : Nat → Int32) (ffrees : Nat → Int32) (fprices : Nat → Int32) (p0 : Int32) (p1 : Int32) (p2 : Int32) (hdn : ∀ j, dn j ≤ 24) (hse : ∀ j, se j ≤ 2) (htm : ∀ j, tm j ≤ 3) : CRi l D k st lo yX8_door cX8_door 4 (some .int) ({ frames := 2, cells := 0, slots := 0, locals := 47 }) [.ref (a 0), .int p0, .int p1, .int p2] [((a 0), .inr (8, (fX8 a (nI tx) fp (nI t0) wd (nI we) nu na (nI rd) ts (nI ru) (nI rw) (nI ca) df db sd))), (aI k (a 1) 3 (nF dn)), (aI k (a 4) 27 (sg se tm gs)), (aI k (a 2) 72 ffrees), (aI k (a 3) 72 fprices)] (fun r => doP (sdM dn (sg se tm gs) ffrees fprices) p0 p1 p2 r) := by
  intro sz
  refine Met.ofW (cc := cX8_door) (maxL := 4) (ret := (some .int)) (by decide) rfl ?_
  intro p e s m args below meth c s₁ B hml hv
  obtain ⟨rfl, hsz, hlo, hP, hK, hDL, hZ⟩ := hv
  have hx := B.exec
  have hb := B.bytes
  have hr := B.returns
  have hts := WS_ts B.pre
  have hown : s.vm.findClass RX8 = some m.cls := findClass_of_methodNamed B.named
  have hlocks := B.notSynchronized
  subst hsz
  have hA : ∀ q : Nat, s.heap.size ≤ q → (fun q : Nat => s.heap.size ≤ q) q := fun _ h => h
  have hAlo : ∀ q : Nat, (fun q : Nat => s.heap.size ≤ q) q → lo ≤ q := fun q h => Nat.le_trans hlo h
  have hS : va_S (fun q : Nat => s.heap.size ≤ q) s.heap s.heap [] := va_S.rf
  have hl := lv_entry ([.ref (a 0), .int p0, .int p1, .int p2]) (n := 4) (Nat.le_of_ble_eq_true rfl)
  rw [lg_entry_eq]
  generalize (lg_sl ([.ref (a 0), .int p0, .int p1, .int p2]) ++ List.replicate (4 - (lg_sl ([.ref (a 0), .int p0, .int p1, .int p2])).length) Slot.unset).toArray = ls at hl ⊢
  have hl : lv_has ls 4 [(0, .ref (a 0)), (1, .int p0), (2, .int p1), (3, .int p2)] := hl
  refine lv_aload_n hx hb dX8_door_0 rfl (lv_at hl 0 rfl) ?_
  refine lv_iload_n hx hb dX8_door_1 rfl (lv_at hl 1 rfl) ?_
  refine ro_i (D := D) (va_runV (As := [.int p0]) (rest := []) ⟨hx, hb, hml, hown, hts⟩ ((n_isStreet l D k st lo a tx t0 we rd ru rw ca fp wd nu na ts df db sd dn p0 hdn) s.heap.size) (cwV 1 hts (gV tw_1189 tw_1191 tw_38 tw_87 tw_1192) rfl rfl rfl (by decide +kernel) ⟨Nat.le_of_ble_eq_true rfl, Nat.le_of_ble_eq_true rfl⟩) (pV hS hAlo hlo hP hK hDL hZ [0, 1] (by decide) rfl (ci := 8) (q := (RX8, TX8, 44)) (q0 := 0) rfl rfl) rfl rfl hl.1 rfl (lv_room (Nat.le_of_ble_eq_true rfl)) dX8_door_2 ⟨Nat.le_of_ble_eq_true rfl, Nat.le_of_ble_eq_true rfl⟩) hS hA hP (fun r_1 H locs hw_1 hP hS => ?_)
  try dsimp only at hw_1
  rcases hw_1 with ⟨rfl, j_2, hj_2, rfl, hw_1⟩ | ⟨rfl, hw_1⟩
  · have hdj_2 := hdn j_2
    have htj_2 := htm j_2
    refine lv_if_eq (tgt := 17) hx hb dX8_door_5 (by decide) (fun h => absurd h (by decide)) (fun _ => ?_)
    refine lv_aload_n hx hb dX8_door_8 rfl (lv_at hl 0 rfl) ?_
    refine lv_iload_n hx hb dX8_door_9 rfl (lv_at hl 1 rfl) ?_
    refine lv_iload_n hx hb dX8_door_10 rfl (lv_at hl 2 rfl) ?_
    refine ro_i (D := D) (va_runV (As := [.int (nI j_2), .int p1]) (rest := []) ⟨hx, hb, hml, hown, hts⟩ ((n_isDoor l D k st lo a tx t0 we rd ru rw ca fp wd nu na ts df db sd dn j_2 p1 hdn (by omega)) H.size) (cwV 2 hts (gV tw_1202 tw_1204 tw_40 tw_87 tw_1205) rfl rfl rfl (by decide +kernel) ⟨Nat.le_of_ble_eq_true rfl, Nat.le_of_ble_eq_true rfl⟩) (pV hS hAlo hlo hP hK hDL hZ [0, 1] (by decide) rfl (ci := 8) (q := (RX8, TX8, 44)) (q0 := 0) rfl rfl) rfl rfl hl.1 rfl (lv_room (Nat.le_of_ble_eq_true rfl)) dX8_door_11 ⟨Nat.le_of_ble_eq_true rfl, Nat.le_of_ble_eq_true rfl⟩) hS hA hP (fun r_3 H locs hw_3 hP hS => ?_)
    try dsimp only at hw_3
    rcases hw_3 with ⟨rfl, j_4, hj_4, rfl, hw_3⟩ | ⟨rfl, hw_3⟩
    · refine lv_if_ne (tgt := 21) hx hb dX8_door_14 (by decide) (fun _ => ?_) (fun h => absurd h (by decide))
      refine lv_iload_n hx hb dX8_door_21 rfl (lv_at hl 3 rfl) ?_
      refine lv_if_ne (tgt := 39) hx hb dX8_door_22 (by decide) (fun c_5 => ?_) (fun c_5 => ?_)
      · refine lv_iload_n hx hb dX8_door_39 rfl (lv_at hl 3 rfl) ?_
        refine lv_iconst (v := 1) hx hb dX8_door_40 (by decide) ?_
        refine lv_icmp_ne (tgt := 58) hx hb dX8_door_41 (by decide) (fun c_6 => ?_) (fun c_6 => ?_)
        · refine lv_sipush (v := (-1002)) hx hb dX8_door_58 (by decide) ?_
          exact W.iret (v := (-1002)) hx hb hr (fun t ht hW => ⟨⟨(-1002), (), rfl, do_at (s := j_2) (by omega) (show dn j_2 ≤ 24 by omega) (show j_4 < dn j_2 by omega) (doFo c_5 c_6), trivial⟩, hS.F ht⟩) hS.2.2 dX8_door_61
        · refine lv_aload_n hx hb dX8_door_44 rfl (lv_at hl 0 rfl) ?_
          refine va_get (D := D) (ci := 8) (v := .ref (a 3)) (C := RX8) (T := TX8) (N := 44) hx hb hts inX8 hown hK hP 0 rfl rfl 2 (by decide) (hts _ tw_975) (fun _ h9 => h9) rfl dX8_door_45 ?_
          refine lv_bipush (v := 24) hx hb dX8_door_48 (by decide) ?_
          refine lv_iload_n hx hb dX8_door_50 rfl (lv_at hl 1 rfl) ?_
          refine lv_imul hx hb dX8_door_51 ?_
          refine lv_ti (y := (nI (24 * j_2))) (pk_mul 24 j_2) ?_
          refine lv_iload_n hx hb dX8_door_52 rfl (lv_at hl 2 rfl) ?_
          refine lv_iadd hx hb dX8_door_53 ?_
          refine lv_ti (y := (nI (24 * j_2 + j_4))) (nI_add (24 * j_2) j_4) ?_
          refine va_iald hx hb hK hP 4 1 rfl rfl (vp_in_nI (by omega) (by decide)) dX8_door_54 ?_
          refine lv_ti (y := (fprices (24 * j_2 + j_4))) (by rw [nI_clamp (by omega)]) ?_
          refine lv_goto (tgt := 61) hx hb dX8_door_55 (by decide) ?_
          exact W.iret (v := (fprices (24 * j_2 + j_4))) hx hb hr (fun t ht hW => ⟨⟨(fprices (24 * j_2 + j_4)), (), rfl, do_at (s := j_2) (by omega) (show dn j_2 ≤ 24 by omega) (show j_4 < dn j_2 by omega) (doF1 (g := fun i => fprices (24 * j_2 + i)) (by omega) c_6), trivial⟩, hS.F ht⟩) hS.2.2 dX8_door_61
      · refine lv_aload_n hx hb dX8_door_25 rfl (lv_at hl 0 rfl) ?_
        refine va_get (D := D) (ci := 8) (v := .ref (a 2)) (C := RX8) (T := TX8) (N := 44) hx hb hts inX8 hown hK hP 0 rfl rfl 1 (by decide) (hts _ tw_974) (fun _ h9 => h9) rfl dX8_door_26 ?_
        refine lv_bipush (v := 24) hx hb dX8_door_29 (by decide) ?_
        refine lv_iload_n hx hb dX8_door_31 rfl (lv_at hl 1 rfl) ?_
        refine lv_imul hx hb dX8_door_32 ?_
        refine lv_ti (y := (nI (24 * j_2))) (pk_mul 24 j_2) ?_
        refine lv_iload_n hx hb dX8_door_33 rfl (lv_at hl 2 rfl) ?_
        refine lv_iadd hx hb dX8_door_34 ?_
        refine lv_ti (y := (nI (24 * j_2 + j_4))) (nI_add (24 * j_2) j_4) ?_
        refine va_iald hx hb hK hP 3 1 rfl rfl (vp_in_nI (by omega) (by decide)) dX8_door_35 ?_
        refine lv_ti (y := (ffrees (24 * j_2 + j_4))) (by rw [nI_clamp (by omega)]) ?_
        refine lv_goto (tgt := 61) hx hb dX8_door_36 (by decide) ?_
        exact W.iret (v := (ffrees (24 * j_2 + j_4))) hx hb hr (fun t ht hW => ⟨⟨(ffrees (24 * j_2 + j_4)), (), rfl, do_at (s := j_2) (by omega) (show dn j_2 ≤ 24 by omega) (show j_4 < dn j_2 by omega) (doF0 (f := fun i => ffrees (24 * j_2 + i)) (by omega) c_5), trivial⟩, hS.F ht⟩) hS.2.2 dX8_door_61
    · refine lv_if_ne (tgt := 21) hx hb dX8_door_14 (by decide) (fun h => absurd (by decide) h) (fun _ => ?_)
      refine lv_sipush (v := (-1001)) hx hb dX8_door_17 (by decide) ?_
      exact W.iret (v := (-1001)) hx hb hr (fun t ht hW => ⟨⟨(-1001), (), rfl, do_no (fun s h1 h2 i h3 h4 => by have h9 := nI_inj (by omega) (by omega) h2; subst h9; exact hw_3 i h3 h4), trivial⟩, hS.F ht⟩) hS.2.2 dX8_door_20
  · refine lv_if_eq (tgt := 17) hx hb dX8_door_5 (by decide) (fun _ => ?_) (fun h => absurd (by decide) h)
    refine lv_sipush (v := (-1001)) hx hb dX8_door_17 (by decide) ?_
    exact W.iret (v := (-1001)) hx hb hr (fun t ht hW => ⟨⟨(-1001), (), rfl, do_no (fun s h1 h2 i h3 h4 => hw_1 s h1 h2 (by show 0 < dn s; replace h4 : i < dn s := h4; omega)), trivial⟩, hS.F ht⟩) hS.2.2 dX8_door_20


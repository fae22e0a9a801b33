set_option maxHeartbeats 4000000 in
set_option maxRecDepth 100000 in
theorem n_isStreet (l : Launch) (D : va_G) (k : Nat → ClassId) (st : Nat → Nat) (lo : Nat) (a : Nat → Nat) (tx : Nat) (t0 : Nat) (we : Nat) (rd : Nat) (ru : Nat) (rw : Nat) (ca : Nat) (fp : Int32) (wd : Int64) (nu : Int32) (na : Int32) (ts : Int32) (df : Int32) (db : Int32) (sd : Int32) (dn : Nat → Nat) (pz : Int32) (hdn : ∀ j, dn j ≤ 24) : CRi l D k st lo yX8_isStreet cX8_isStreet 2 (some .boolean) ({ frames := 1, cells := 0, slots := 0, locals := 25 }) [.ref (a 0), .int pz] [((a 0), .inr (8, (fX8 a (nI tx) fp (nI t0) wd (nI we) nu na (nI rd) ts (nI ru) (nI rw) (nI ca) df db sd))), (aI k (a 1) 3 (nF dn))] (fun r => (r = 1 ∧ ∃ j : Nat, j < 3 ∧ pz = nI j ∧ 0 < dn j) ∨ (r = 0 ∧ ∀ s, s < 3 → pz = nI s → ¬ 0 < dn s)) := by
  intro sz
  refine Met.ofW (cc := cX8_isStreet) (maxL := 2) (ret := (some .boolean)) (by decide) rfl ?_
  intro p e s m args below meth c s₁ B hml hv
  obtain ⟨rfl, hsz, hlo, hP, hK, hDL, hZ⟩ := hv
  have hx := B.exec
  have hb := B.bytes
  have hr := B.returns
  have hts := WS_ts B.pre
  have hown : s.vm.findClass RX8 = some m.cls := findClass_of_methodNamed B.named
  have hlocks := B.notSynchronized
  subst hsz
  have hA : ∀ q : Nat, s.heap.size ≤ q → (fun q : Nat => s.heap.size ≤ q) q := fun _ h => h
  have hAlo : ∀ q : Nat, (fun q : Nat => s.heap.size ≤ q) q → lo ≤ q := fun q h => Nat.le_trans hlo h
  have hS : va_S (fun q : Nat => s.heap.size ≤ q) s.heap s.heap [] := va_S.rf
  have hl := lv_entry ([.ref (a 0), .int pz]) (n := 2) (Nat.le_of_ble_eq_true rfl)
  rw [lg_entry_eq]
  generalize (lg_sl ([.ref (a 0), .int pz]) ++ List.replicate (2 - (lg_sl ([.ref (a 0), .int pz])).length) Slot.unset).toArray = ls at hl ⊢
  have hl : lv_has ls 2 [(0, .ref (a 0)), (1, .int pz)] := hl
  refine lv_iload_n hx hb dX8_isStreet_0 rfl (lv_at hl 1 rfl) ?_
  refine lv_i2l (v := pz.toInt64) hx hb dX8_isStreet_1 rfl ?_
  refine lv_lconst (v := (0 : Int32).toInt64) hx hb dX8_isStreet_2 (by decide) ?_
  refine lv_ldc2 hx hb hown (hts _ tw_1119) dX8_isStreet_3 ?_
  refine lv_tl (y := ((2 : Int32).toInt64)) (by decide) ?_
  refine ro_i (D := D) (va_runS (As := [.long (pz.toInt64), .long ((0 : Int32).toInt64), .long ((2 : Int32).toInt64)]) (rest := []) ⟨hx, hb, hml, hown, hts⟩ ((k_in l D k st lo pz (0 : Int32) (2 : Int32)) s.heap.size) (va_cwS 3 hts (gS tw_1111 tw_1112 tw_87 tw_1113) rfl rfl rfl (by decide +kernel) ⟨Nat.le_of_ble_eq_true rfl, Nat.le_of_ble_eq_true rfl⟩) (pS hS hAlo hlo hP hK hDL hZ [] (by decide) rfl) rfl rfl hl.1 rfl (lv_room (Nat.le_of_ble_eq_true rfl)) dX8_isStreet_6 ⟨Nat.le_of_ble_eq_true rfl, Nat.le_of_ble_eq_true rfl⟩) hS hA hP (fun r_1 H locs hw_1 hP hS => ?_)
  try dsimp only at hw_1
  rcases hw_1 with ⟨rfl, hw_1⟩ | ⟨rfl, hw_1⟩
  · refine lv_if_eq (tgt := 25) hx hb dX8_isStreet_9 (by decide) (fun h => absurd h (by decide)) (fun _ => ?_)
    obtain ⟨j_9, -, hj_9, rfl⟩ := inB_ofc (a := 0) (b := 2) (by omega) (by omega) hw_1
    have hd_9 := hdn j_9
    refine lv_aload_n hx hb dX8_isStreet_12 rfl (lv_at hl 0 rfl) ?_
    refine va_get (D := D) (ci := 8) (v := .ref (a 1)) (C := RX8) (T := TX8) (N := 44) hx hb hts inX8 hown hK hP 0 rfl rfl 0 (by decide) (hts _ tw_973) (fun _ h9 => h9) rfl dX8_isStreet_13 ?_
    refine lv_iload_n hx hb dX8_isStreet_16 rfl (lv_at hl 1 rfl) ?_
    refine va_iald hx hb hK hP 1 1 rfl rfl (vp_in_nI (by omega) (by decide)) dX8_isStreet_17 ?_
    refine lv_ti (y := (nI (dn j_9))) (by rw [nI_clamp (by omega)]; rfl) ?_
    refine lv_if_le (tgt := 25) hx hb dX8_isStreet_18 (by decide) (fun c_2 => ?_) (fun c_2 => ?_)
    · have c_2 := (nI_leI (a := (dn j_9)) (b := 0) (by omega) (by omega)).mp c_2
      refine lv_iconst (v := 0) hx hb dX8_isStreet_25 (by decide) ?_
      exact W.zret (v := 0) (ty := .boolean) hx hb hr rfl (fun t ht hW => ⟨⟨0, (), rfl, .inr ⟨rfl, fun s h1 h2 h3 => by have h9 := nI_inj (by omega) (by omega) h2; subst h9; omega⟩, trivial⟩, hS.F ht⟩) hS.2.2 dX8_isStreet_26
    · have c_2 : ¬ ((dn j_9) ≤ 0) := fun h => c_2 ((nI_leI (a := (dn j_9)) (b := 0) (by omega) (by omega)).mpr h)
      refine lv_iconst (v := 1) hx hb dX8_isStreet_21 (by decide) ?_
      refine lv_goto (tgt := 26) hx hb dX8_isStreet_22 (by decide) ?_
      exact W.zret (v := 1) (ty := .boolean) hx hb hr rfl (fun t ht hW => ⟨⟨1, (), rfl, .inl ⟨rfl, j_9, by omega, rfl, by omega⟩, trivial⟩, hS.F ht⟩) hS.2.2 dX8_isStreet_26
  · refine lv_if_eq (tgt := 25) hx hb dX8_isStreet_9 (by decide) (fun _ => ?_) (fun h => absurd (by decide) h)
    refine lv_iconst (v := 0) hx hb dX8_isStreet_25 (by decide) ?_
    exact W.zret (v := 0) (ty := .boolean) hx hb hr rfl (fun t ht hW => ⟨⟨0, (), rfl, .inr ⟨rfl, fun s h1 h2 _ => hw_1 (by rw [h2]; exact in02 h1)⟩, trivial⟩, hS.F ht⟩) hS.2.2 dX8_isStreet_26


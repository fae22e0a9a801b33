set_option maxHeartbeats 4000000 in
set_option maxRecDepth 100000 in
theorem n_isDoor (l : Launch) (D : va_G) (k : Nat → ClassId) (st : Nat → Nat) (lo : Nat) (a : Nat → Nat) (tx : Nat) (t0 : Nat) (we : Nat) (rd : Nat) (ru : Nat) (rw : Nat) (ca : Nat) (fp : Int32) (wd : Int64) (nu : Int32) (na : Int32) (ts : Int32) (df : Int32) (db : Int32) (sd : Int32) (dn : Nat → Nat) (sn : Nat) (pz : Int32) (hdn : ∀ j, dn j ≤ 24) (hs : sn < 3) : CRi l D k st lo yX8_isDoor cX8_isDoor 3 (some .boolean) ({ frames := 1, cells := 0, slots := 0, locals := 25 }) [.ref (a 0), .int (nI sn), .int pz] [((a 0), .inr (8, (fX8 a (nI tx) fp (nI t0) wd (nI we) nu na (nI rd) ts (nI ru) (nI rw) (nI ca) df db sd))), (aI k (a 1) 3 (nF dn))] (fun r => (r = 1 ∧ ∃ j : Nat, j < dn sn ∧ pz = nI j ∧ True) ∨ (r = 0 ∧ ∀ j, pz = nI j → ¬ j < dn sn)) := by
  intro sz
  refine Met.ofW (cc := cX8_isDoor) (maxL := 3) (ret := (some .boolean)) (by decide) rfl ?_
  intro p e s m args below meth c s₁ B hml hv
  obtain ⟨rfl, hsz, hlo, hP, hK, hDL, hZ⟩ := hv
  have hx := B.exec
  have hb := B.bytes
  have hr := B.returns
  have hts := WS_ts B.pre
  have hown : s.vm.findClass RX8 = some m.cls := findClass_of_methodNamed B.named
  have hlocks := B.notSynchronized
  subst hsz
  have hA : ∀ q : Nat, s.heap.size ≤ q → (fun q : Nat => s.heap.size ≤ q) q := fun _ h => h
  have hAlo : ∀ q : Nat, (fun q : Nat => s.heap.size ≤ q) q → lo ≤ q := fun q h => Nat.le_trans hlo h
  have hS : va_S (fun q : Nat => s.heap.size ≤ q) s.heap s.heap [] := va_S.rf
  have hl := lv_entry ([.ref (a 0), .int (nI sn), .int pz]) (n := 3) (Nat.le_of_ble_eq_true rfl)
  rw [lg_entry_eq]
  generalize (lg_sl ([.ref (a 0), .int (nI sn), .int pz]) ++ List.replicate (3 - (lg_sl ([.ref (a 0), .int (nI sn), .int pz])).length) Slot.unset).toArray = ls at hl ⊢
  have hl : lv_has ls 3 [(0, .ref (a 0)), (1, .int (nI sn)), (2, .int pz)] := hl
  have hd_9 := hdn sn
  refine lv_iload_n hx hb dX8_isDoor_0 rfl (lv_at hl 2 rfl) ?_
  refine lv_i2l (v := pz.toInt64) hx hb dX8_isDoor_1 rfl ?_
  refine lv_lconst (v := (0 : Int32).toInt64) hx hb dX8_isDoor_2 (by decide) ?_
  refine lv_aload_n hx hb dX8_isDoor_3 rfl (lv_at hl 0 rfl) ?_
  refine va_get (D := D) (ci := 8) (v := .ref (a 1)) (C := RX8) (T := TX8) (N := 44) hx hb hts inX8 hown hK hP 0 rfl rfl 0 (by decide) (hts _ tw_973) (fun _ h9 => h9) rfl dX8_isDoor_4 ?_
  refine lv_iload_n hx hb dX8_isDoor_7 rfl (lv_at hl 1 rfl) ?_
  refine va_iald hx hb hK hP 1 1 rfl rfl (vp_in_nI (by omega) (by decide)) dX8_isDoor_8 ?_
  refine lv_ti (y := (nI (dn sn))) (by rw [nI_clamp (by omega)]; rfl) ?_
  refine lv_iconst (v := 1) hx hb dX8_isDoor_9 (by decide) ?_
  refine lv_isub hx hb dX8_isDoor_10 ?_
  refine lv_topi (fun x_1 ex_1 => ?_)
  refine lv_i2l (v := x_1.toInt64) hx hb dX8_isDoor_11 rfl ?_
  refine ro_i (D := D) (va_runS (As := [.long (pz.toInt64), .long ((0 : Int32).toInt64), .long (x_1.toInt64)]) (rest := []) ⟨hx, hb, hml, hown, hts⟩ ((k_in l D k st lo pz (0 : Int32) x_1) s.heap.size) (va_cwS 3 hts (gS tw_1111 tw_1112 tw_87 tw_1113) rfl rfl rfl (by decide +kernel) ⟨Nat.le_of_ble_eq_true rfl, Nat.le_of_ble_eq_true rfl⟩) (pS hS hAlo hlo hP hK hDL hZ [] (by decide) rfl) rfl rfl hl.1 rfl (lv_room (Nat.le_of_ble_eq_true rfl)) dX8_isDoor_12 ⟨Nat.le_of_ble_eq_true rfl, Nat.le_of_ble_eq_true rfl⟩) hS hA hP (fun r_2 H locs hw_2 hP hS => ?_)
  try dsimp only at hw_2
  rcases hw_2 with ⟨rfl, hw_2⟩ | ⟨rfl, hw_2⟩
  · exact W.zret (v := 1) (ty := .boolean) hx hb hr rfl (fun t ht hW => ⟨⟨1, (), rfl, .inl ⟨rfl, (by rw [ex_1] at hw_2; obtain ⟨j, hj, e⟩ := inB_of1 (by omega) hw_2; exact ⟨j, hj, e, trivial⟩)⟩, trivial⟩, hS.F ht⟩) hS.2.2 dX8_isDoor_15
  · exact W.zret (v := 0) (ty := .boolean) hx hb hr rfl (fun t ht hW => ⟨⟨0, (), rfl, .inr ⟨rfl, fun j e hj => hw_2 (by rw [e, ex_1]; exact in0n hj (by omega))⟩, trivial⟩, hS.F ht⟩) hS.2.2 dX8_isDoor_15


theorem dX8_isSight_0 : decode cX8_isSight 0 = .ok (.iload_n 3, 1) := by decide +kernel
theorem dX8_isSight_1 : decode cX8_isSight 1 = .ok (.i2l, 1) := by decide +kernel
theorem dX8_isSight_2 : decode cX8_isSight 2 = .ok (.lconst 0, 1) := by decide +kernel
theorem dX8_isSight_3 : decode cX8_isSight 3 = .ok (.iconst 1, 1) := by decide +kernel
theorem dX8_isSight_4 : decode cX8_isSight 4 = .ok (.aload_n 0, 1) := by decide +kernel
theorem dX8_isSight_5 : decode cX8_isSight 5 = .ok (.iload_n 1, 1) := by decide +kernel
theorem dX8_isSight_6 : decode cX8_isSight 6 = .ok (.iload_n 2, 1) := by decide +kernel
theorem dX8_isSight_7 : decode cX8_isSight 7 = .ok (.invokevirtual 251, 3) := by decide +kernel
theorem dX8_isSight_10 : decode cX8_isSight 10 = .ok (.ishl, 1) := by decide +kernel
theorem dX8_isSight_11 : decode cX8_isSight 11 = .ok (.iconst 1, 1) := by decide +kernel
theorem dX8_isSight_12 : decode cX8_isSight 12 = .ok (.isub, 1) := by decide +kernel
theorem dX8_isSight_13 : decode cX8_isSight 13 = .ok (.i2l, 1) := by decide +kernel
theorem dX8_isSight_14 : decode cX8_isSight 14 = .ok (.invokestatic 107, 3) := by decide +kernel
theorem dX8_isSight_17 : decode cX8_isSight 17 = .ok (.ireturn, 1) := by decide +kernel
set_option maxHeartbeats 4000000 in
set_option maxRecDepth 100000 in
theorem m_isSight (l : Launch) (D : va_G) (k : Nat → ClassId) (st : Nat → Nat) (lo : Nat) (a : Nat → Nat) (tx : Nat) (t0 : Nat) (we : Nat) (rd : Nat) (ru : Nat) (rw : Nat) (ca : Nat) (fp : Int32) (wd : Int64) (nu : Int32) (na : Int32) (ts : Int32) (df : Int32) (db : Int32) (sd : Int32) (dn : Nat → Nat) (se : Nat → Nat) (tm : Nat → Nat) (gs : Nat → Int32) (sn : Nat) (i : Nat) (pz : Int32) (hdn : ∀ j, dn j ≤ 24) (hse : ∀ j, se j ≤ 2) (hs : sn < 3) (hi : i < dn sn) : CRi l D k st lo yX8_isSight cX8_isSight 4 (some .boolean) ({ frames := 2, cells := 0, slots := 0, locals := 45 }) [.ref (a 0), .int (nI sn), .int (nI i), .int pz] [((a 0), .inr (8, [.ref (a 1), .ref (a 2), .ref (a 3), .ref (a 4), .ref (a 5), .int (nI tx), .int fp, .int (nI t0), .long wd, .int (nI we), .int nu, .int na, .int (nI rd), .ref (a 14), .ref (a 15), .ref (a 16), .int ts, .ref (a 18), .ref (a 19), .ref (a 20), .ref (a 21), .ref (a 22), .ref (a 23), .int (nI ru), .ref (a 25), .ref (a 26), .ref (a 27), .ref (a 28), .ref (a 29), .ref (a 30), .int (nI rw), .ref (a 32), .ref (a 33), .ref (a 34), .int (nI ca), .ref (a 36), .ref (a 37), .int df, .int db, .ref (a 40), .ref (a 41), .int sd, .ref (a 43), .ref (a 44)])), ((a 1), .inl (k 1, 3, .inl (nF dn))), ((a 4), .inl (k 1, 27, .inl (sg se tm gs)))] (fun r => (r = 1 ∧ ∃ j : Nat, j < 8 ∧ pz = nI j ∧ True) ∨ r = 0) := by
  intro sz
  refine Met.ofW (cc := cX8_isSight) (maxL := 4) (ret := (some .boolean)) (by decide) rfl ?_
  intro p e s m args below meth c s₁ B hml hv
  obtain ⟨rfl, hsz, hlo, hP, hK, hDL, hZ⟩ := hv
  have hx := B.exec
  have hb := B.bytes
  have hr := B.returns
  have hts := WS_ts B.pre
  have hown : s.vm.findClass RX8 = some m.cls := findClass_of_methodNamed B.named
  have hlocks := B.notSynchronized
  subst hsz
  have hA : ∀ q : Nat, s.heap.size ≤ q → (fun q : Nat => s.heap.size ≤ q) q := fun _ h => h
  have hAlo : ∀ q : Nat, (fun q : Nat => s.heap.size ≤ q) q → lo ≤ q := fun q h => Nat.le_trans hlo h
  have hS : va_S (fun q : Nat => s.heap.size ≤ q) s.heap s.heap [] := va_S.rf
  have hl := lv_entry ([.ref (a 0), .int (nI sn), .int (nI i), .int pz]) (n := 4) (Nat.le_of_ble_eq_true rfl)
  rw [lg_entry_eq]
  generalize (lg_sl ([.ref (a 0), .int (nI sn), .int (nI i), .int pz]) ++ List.replicate (4 - (lg_sl ([.ref (a 0), .int (nI sn), .int (nI i), .int pz])).length) Slot.unset).toArray = ls at hl ⊢
  have hl : lv_has ls 4 [(0, .ref (a 0)), (1, .int (nI sn)), (2, .int (nI i)), (3, .int pz)] := hl
  have hd_9 := hdn sn
  have hd_8 := hse sn
  refine lv_iload_n hx hb dX8_isSight_0 rfl (lv_at hl 3 rfl) ?_
  refine lv_i2l (v := pz.toInt64) hx hb dX8_isSight_1 rfl ?_
  refine lv_lconst (v := (0 : Int32).toInt64) hx hb dX8_isSight_2 (by decide) ?_
  refine lv_iconst (v := 1) hx hb dX8_isSight_3 (by decide) ?_
  refine lv_aload_n hx hb dX8_isSight_4 rfl (lv_at hl 0 rfl) ?_
  refine lv_iload_n hx hb dX8_isSight_5 rfl (lv_at hl 1 rfl) ?_
  refine lv_iload_n hx hb dX8_isSight_6 rfl (lv_at hl 2 rfl) ?_
  refine ro_i (D := D) (va_runV (As := [.int (nI sn), .int (nI i)]) (rest := [.int 1, .long ((0 : Int32).toInt64), .long (pz.toInt64)]) ⟨hx, hb, hml, hown, hts⟩ ((m_seen l D k st lo a tx t0 we rd ru rw ca fp wd nu na ts df db sd dn se tm gs sn i hdn hse (by omega) (by omega)) s.heap.size) (cwV 2 hts (gV tw_1246 tw_1248 tw_48 tw_87 tw_1249) rfl rfl rfl (by decide +kernel) ⟨Nat.le_of_ble_eq_true rfl, Nat.le_of_ble_eq_true rfl⟩) (pV hS hAlo hlo hP hK hDL hZ [0, 1, 2] (by decide) rfl (ci := 8) (q0 := 0) rfl rfl) rfl rfl hl.1 rfl (lv_room (Nat.le_of_ble_eq_true rfl)) dX8_isSight_7 ⟨Nat.le_of_ble_eq_true rfl, Nat.le_of_ble_eq_true rfl⟩) hS hA hP (fun r_1 H locs hw_1 hP hS => ?_)
  try dsimp only at hw_1
  obtain ⟨sv_2, esv_2⟩ : ∃ z : Nat, z = (if dn sn - i < se sn + 1 then dn sn - i else se sn + 1) := ⟨_, rfl⟩
  rw [← esv_2] at hw_1
  subst hw_1
  have hsv_2 : sv_2 ≤ 3 ∧ sv_2 ≤ dn sn - i ∧ (0 < dn sn - i → 1 ≤ sv_2) := by
    have hse9 := hse sn
    split at esv_2 <;> omega
  obtain ⟨pw_3, epw_3⟩ : ∃ z : Nat, z = 2 ^ sv_2 := ⟨_, rfl⟩
  have hpw_3 : 1 ≤ pw_3 ∧ pw_3 ≤ 8 := by rw [epw_3]; exact pw8 (by omega)
  refine lv_ishl hx hb dX8_isSight_10 ?_
  refine lv_ti (y := (nI pw_3)) (by rw [epw_3]; exact shl1 sv_2 (by omega)) ?_
  refine lv_iconst (v := 1) hx hb dX8_isSight_11 (by decide) ?_
  refine lv_isub hx hb dX8_isSight_12 ?_
  refine lv_topi (fun x_4 ex_4 => ?_)
  refine lv_i2l (v := x_4.toInt64) hx hb dX8_isSight_13 rfl ?_
  refine ro_i (D := D) (va_runS (As := [.long (pz.toInt64), .long ((0 : Int32).toInt64), .long (x_4.toInt64)]) (rest := []) ⟨hx, hb, hml, hown, hts⟩ ((k_in l D k st lo pz (0 : Int32) x_4) H.size) (va_cwS 3 hts (gS tw_1111 tw_1112 tw_87 tw_1113) rfl rfl rfl (by decide +kernel) ⟨Nat.le_of_ble_eq_true rfl, Nat.le_of_ble_eq_true rfl⟩) (pS hS hAlo hlo hP hK hDL hZ [] (by decide) rfl) rfl rfl hl.1 rfl (lv_room (Nat.le_of_ble_eq_true rfl)) dX8_isSight_14 ⟨Nat.le_of_ble_eq_true rfl, Nat.le_of_ble_eq_true rfl⟩) hS hA hP (fun r_5 H locs hw_5 hP hS => ?_)
  try dsimp only at hw_5
  rcases hw_5 with ⟨rfl, hw_5⟩ | ⟨rfl, hw_5⟩
  · exact W.zret (v := 1) (ty := .boolean) hx hb hr rfl (fun t ht hW => ⟨⟨1, (), rfl, .inl ⟨rfl, (by rw [ex_4] at hw_5; obtain ⟨j, hj, e⟩ := inB_of1 (by omega) hw_5; exact ⟨j, by omega, e, trivial⟩)⟩, trivial⟩, hS.F ht⟩) hS.2.2 dX8_isSight_17
  · exact W.zret (v := 0) (ty := .boolean) hx hb hr rfl (fun t ht hW => ⟨⟨0, (), rfl, .inr rfl, trivial⟩, hS.F ht⟩) hS.2.2 dX8_isSight_17


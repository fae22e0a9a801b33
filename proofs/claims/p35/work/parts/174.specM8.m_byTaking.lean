theorem dX8_byTaking_0 : decode cX8_byTaking 0 = .ok (.aload_n 0, 1) := by decide +kernel
theorem dX8_byTaking_1 : decode cX8_byTaking 1 = .ok (.iload_n 1, 1) := by decide +kernel
theorem dX8_byTaking_2 : decode cX8_byTaking 2 = .ok (.aload_n 0, 1) := by decide +kernel
theorem dX8_byTaking_3 : decode cX8_byTaking 3 = .ok (.iload_n 1, 1) := by decide +kernel
theorem dX8_byTaking_4 : decode cX8_byTaking 4 = .ok (.iload_n 2, 1) := by decide +kernel
theorem dX8_byTaking_5 : decode cX8_byTaking 5 = .ok (.iload_n 3, 1) := by decide +kernel
theorem dX8_byTaking_6 : decode cX8_byTaking 6 = .ok (.invokevirtual 223, 3) := by decide +kernel
theorem dX8_byTaking_9 : decode cX8_byTaking 9 = .ok (.aload_n 0, 1) := by decide +kernel
theorem dX8_byTaking_10 : decode cX8_byTaking 10 = .ok (.getfield 7, 3) := by decide +kernel
theorem dX8_byTaking_13 : decode cX8_byTaking 13 = .ok (.iload_n 1, 1) := by decide +kernel
theorem dX8_byTaking_14 : decode cX8_byTaking 14 = .ok (.iaload, 1) := by decide +kernel
theorem dX8_byTaking_15 : decode cX8_byTaking 15 = .ok (.iadd, 1) := by decide +kernel
theorem dX8_byTaking_16 : decode cX8_byTaking 16 = .ok (.iload_n 3, 1) := by decide +kernel
theorem dX8_byTaking_17 : decode cX8_byTaking 17 = .ok (.isub, 1) := by decide +kernel
theorem dX8_byTaking_18 : decode cX8_byTaking 18 = .ok (.invokevirtual 227, 3) := by decide +kernel
theorem dX8_byTaking_21 : decode cX8_byTaking 21 = .ok (.ifCond .le 7, 3) := by decide +kernel
theorem dX8_byTaking_24 : decode cX8_byTaking 24 = .ok (.iconst 1, 1) := by decide +kernel
theorem dX8_byTaking_25 : decode cX8_byTaking 25 = .ok (.goto 4, 3) := by decide +kernel
theorem dX8_byTaking_28 : decode cX8_byTaking 28 = .ok (.iconst 0, 1) := by decide +kernel
theorem dX8_byTaking_29 : decode cX8_byTaking 29 = .ok (.istore 5, 2) := by decide +kernel
theorem dX8_byTaking_31 : decode cX8_byTaking 31 = .ok (.iload 4, 2) := by decide +kernel
theorem dX8_byTaking_33 : decode cX8_byTaking 33 = .ok (.ifCond .ne 13, 3) := by decide +kernel
theorem dX8_byTaking_36 : decode cX8_byTaking 36 = .ok (.aload_n 0, 1) := by decide +kernel
theorem dX8_byTaking_37 : decode cX8_byTaking 37 = .ok (.iload_n 1, 1) := by decide +kernel
theorem dX8_byTaking_38 : decode cX8_byTaking 38 = .ok (.iload_n 2, 1) := by decide +kernel
theorem dX8_byTaking_39 : decode cX8_byTaking 39 = .ok (.iload_n 3, 1) := by decide +kernel
theorem dX8_byTaking_40 : decode cX8_byTaking 40 = .ok (.invokevirtual 237, 3) := by decide +kernel
theorem dX8_byTaking_43 : decode cX8_byTaking 43 = .ok (.goto 21, 3) := by decide +kernel
theorem dX8_byTaking_46 : decode cX8_byTaking 46 = .ok (.iload 4, 2) := by decide +kernel
theorem dX8_byTaking_48 : decode cX8_byTaking 48 = .ok (.iconst 1, 1) := by decide +kernel
theorem dX8_byTaking_49 : decode cX8_byTaking 49 = .ok (.if_icmp .ne 14, 3) := by decide +kernel
theorem dX8_byTaking_52 : decode cX8_byTaking 52 = .ok (.iload 5, 2) := by decide +kernel
theorem dX8_byTaking_54 : decode cX8_byTaking 54 = .ok (.ifCond .eq 9, 3) := by decide +kernel
theorem dX8_byTaking_57 : decode cX8_byTaking 57 = .ok (.ldc_w 285, 3) := by decide +kernel
theorem dX8_byTaking_60 : decode cX8_byTaking 60 = .ok (.goto 4, 3) := by decide +kernel
theorem dX8_byTaking_63 : decode cX8_byTaking 63 = .ok (.iconst 0, 1) := by decide +kernel
theorem dX8_byTaking_64 : decode cX8_byTaking 64 = .ok (.ireturn, 1) := by decide +kernel
set_option maxHeartbeats 4000000 in
set_option maxRecDepth 100000 in
theorem m_byTaking (l : Launch) (D : va_G) (k : Nat → ClassId) (st : Nat → Nat) (lo : Nat) (a : Nat → Nat) (tx : Nat) (t0 : Nat) (we : Nat) (rd : Nat) (ru : Nat) (rw : Nat) (ca : Nat) (fp : Int32) (wd : Int64) (nu : Int32) (na : Int32) (ts : Int32) (df : Int32) (db : Int32) (sd : Int32) (dn : Nat → Nat) (se : Nat → Nat) (tm : Nat → Nat) (gs : Nat → Int32) (fprices : Nat → Int32) (sn : Nat) (i : Nat) (p0 : Int32) (p3 : Int32)  (hs : sn < 3) (hi : i < 24) : CRi l D k st lo yX8_byTaking cX8_byTaking 6 (some .int) ({ frames := 4, cells := 0, slots := 0, locals := 93 }) [.ref (a 0), .int (nI sn), .int p0, .int (nI i), .int p3] [((a 0), .inr (8, [.ref (a 1), .ref (a 2), .ref (a 3), .ref (a 4), .ref (a 5), .int (nI tx), .int fp, .int (nI t0), .long wd, .int (nI we), .int nu, .int na, .int (nI rd), .ref (a 14), .ref (a 15), .ref (a 16), .int ts, .ref (a 18), .ref (a 19), .ref (a 20), .ref (a 21), .ref (a 22), .ref (a 23), .int (nI ru), .ref (a 25), .ref (a 26), .ref (a 27), .ref (a 28), .ref (a 29), .ref (a 30), .int (nI rw), .ref (a 32), .ref (a 33), .ref (a 34), .int (nI ca), .ref (a 36), .ref (a 37), .int df, .int db, .ref (a 40), .ref (a 41), .int sd, .ref (a 43), .ref (a 44)])), ((a 1), .inl (k 1, 3, .inl (nF dn))), ((a 4), .inl (k 1, 27, .inl (sg se tm gs))), ((a 3), .inl (k 1, 72, .inl fprices))] (fun r => True) := by
  intro sz
  refine Met.ofW (cc := cX8_byTaking) (maxL := 6) (ret := (some .int)) (by decide) rfl ?_
  intro p e s m args below meth c s₁ B hml hv
  obtain ⟨rfl, hsz, hlo, hP, hK, hDL, hZ⟩ := hv
  have hx := B.exec
  have hb := B.bytes
  have hr := B.returns
  have hts := WS_ts B.pre
  have hown : s.vm.findClass RX8 = some m.cls := findClass_of_methodNamed B.named
  have hlocks := B.notSynchronized
  subst hsz
  have hA : ∀ q : Nat, s.heap.size ≤ q → (fun q : Nat => s.heap.size ≤ q) q := fun _ h => h
  have hAlo : ∀ q : Nat, (fun q : Nat => s.heap.size ≤ q) q → lo ≤ q := fun q h => Nat.le_trans hlo h
  have hS : va_S (fun q : Nat => s.heap.size ≤ q) s.heap s.heap [] := va_S.rf
  have hl := lv_entry ([.ref (a 0), .int (nI sn), .int p0, .int (nI i), .int p3]) (n := 6) (Nat.le_of_ble_eq_true rfl)
  rw [lg_entry_eq]
  generalize (lg_sl ([.ref (a 0), .int (nI sn), .int p0, .int (nI i), .int p3]) ++ List.replicate (6 - (lg_sl ([.ref (a 0), .int (nI sn), .int p0, .int (nI i), .int p3])).length) Slot.unset).toArray = ls at hl ⊢
  have hl : lv_has ls 6 [(0, .ref (a 0)), (1, .int (nI sn)), (2, .int p0), (3, .int (nI i)), (4, .int p3)] := hl
  refine lv_aload_n hx hb dX8_byTaking_0 rfl (lv_at hl 0 rfl) ?_
  refine lv_iload_n hx hb dX8_byTaking_1 rfl (lv_at hl 1 rfl) ?_
  refine lv_aload_n hx hb dX8_byTaking_2 rfl (lv_at hl 0 rfl) ?_
  refine lv_iload_n hx hb dX8_byTaking_3 rfl (lv_at hl 1 rfl) ?_
  refine lv_iload_n hx hb dX8_byTaking_4 rfl (lv_at hl 2 rfl) ?_
  refine lv_iload_n hx hb dX8_byTaking_5 rfl (lv_at hl 3 rfl) ?_
  refine ro_i (D := D) (va_runV (As := [.int (nI sn), .int p0, .int (nI i)]) (rest := [.int (nI sn), .ref (a 0)]) ⟨hx, hb, hml, hown, hts⟩ ((m_tick l D k st lo a tx t0 we rd ru rw ca fp wd nu na ts df db sd dn se tm gs sn p0 (nI i) (by omega)) s.heap.size) (cwV 3 hts (gV tw_1230 tw_1232 tw_45 tw_87 tw_1233) rfl rfl rfl (by decide +kernel) ⟨Nat.le_of_ble_eq_true rfl, Nat.le_of_ble_eq_true rfl⟩) (pV hS hAlo hlo hP hK hDL hZ [0, 1, 2] (by decide) rfl (ci := 8) (q0 := 0) rfl rfl) rfl rfl hl.1 rfl (lv_room (Nat.le_of_ble_eq_true rfl)) dX8_byTaking_6 ⟨Nat.le_of_ble_eq_true rfl, Nat.le_of_ble_eq_true rfl⟩) hS hA hP (fun r_1 H locs hw_1 hP hS => ?_)
  try dsimp only at hw_1
  refine lv_aload_n hx hb dX8_byTaking_9 rfl (lv_at hl 0 rfl) ?_
  refine va_get (D := D) (ci := 8) (v := .ref (a 1)) (C := RX8) (T := TX8) (N := 44) hx hb hts inX8 hown hK hP 0 rfl rfl 0 (by decide) (hts _ tw_973) (fun _ h9 => h9) rfl dX8_byTaking_10 ?_
  refine lv_iload_n hx hb dX8_byTaking_13 rfl (lv_at hl 1 rfl) ?_
  refine va_iald hx hb hK hP 1 1 rfl rfl (vp_in_nI (by omega) (by decide)) dX8_byTaking_14 ?_
  refine lv_ti (y := (nI (dn sn))) (by rw [nI_clamp (by omega)]; rfl) ?_
  refine lv_iadd hx hb dX8_byTaking_15 ?_
  refine lv_topi (fun x_2 ex_2 => ?_)
  refine lv_iload_n hx hb dX8_byTaking_16 rfl (lv_at hl 3 rfl) ?_
  refine lv_isub hx hb dX8_byTaking_17 ?_
  refine lv_topi (fun x_3 ex_3 => ?_)
  refine ro_i (D := D) (va_runV (As := [.int (nI sn), .int x_3]) (rest := []) ⟨hx, hb, hml, hown, hts⟩ ((m_lateAt l D k st lo a tx t0 we rd ru rw ca fp wd nu na ts df db sd se tm gs sn x_3 (by omega)) H.size) (cwV 2 hts (gV tw_1234 tw_1236 tw_46 tw_87 tw_1237) rfl rfl rfl (by decide +kernel) ⟨Nat.le_of_ble_eq_true rfl, Nat.le_of_ble_eq_true rfl⟩) (pV hS hAlo hlo hP hK hDL hZ [0, 2] (by decide) rfl (ci := 8) (q0 := 0) rfl rfl) rfl rfl hl.1 rfl (lv_room (Nat.le_of_ble_eq_true rfl)) dX8_byTaking_18 ⟨Nat.le_of_ble_eq_true rfl, Nat.le_of_ble_eq_true rfl⟩) hS hA hP (fun r_4 H locs hw_4 hP hS => ?_)
  try dsimp only at hw_4
  refine lv_if_le (tgt := 28) hx hb dX8_byTaking_21 (by decide) (fun c_5 => ?_) (fun c_5 => ?_)
  · refine lv_iconst (v := 0) hx hb dX8_byTaking_28 (by decide) ?_
    refine lv_istore (lv' := [(5, .int 0), (0, .ref (a 0)), (1, .int (nI sn)), (2, .int p0), (3, .int (nI i)), (4, .int p3)]) hx hb dX8_byTaking_29 hl (by decide) rfl (fun ls hl => ?_)
    refine lv_iload hx hb dX8_byTaking_31 (lv_at hl 5 rfl) ?_
    refine lv_if_ne (tgt := 46) hx hb dX8_byTaking_33 (by decide) (fun c_6 => ?_) (fun c_6 => ?_)
    · refine lv_iload hx hb dX8_byTaking_46 (lv_at hl 5 rfl) ?_
      refine lv_iconst (v := 1) hx hb dX8_byTaking_48 (by decide) ?_
      refine lv_icmp_ne (tgt := 63) hx hb dX8_byTaking_49 (by decide) (fun c_7 => ?_) (fun c_7 => ?_)
      · refine lv_iconst (v := 0) hx hb dX8_byTaking_63 (by decide) ?_
        exact W.iret (v := 0) hx hb hr (fun t ht hW => ⟨⟨0, (), rfl, trivial, trivial⟩, hS.F ht⟩) hS.2.2 dX8_byTaking_64
      · refine lv_iload hx hb dX8_byTaking_52 (lv_at hl 0 rfl) ?_
        refine lv_if_eq (tgt := 63) hx hb dX8_byTaking_54 (by decide) (fun _ => ?_) (fun h => absurd (by decide) h)
        refine lv_iconst (v := 0) hx hb dX8_byTaking_63 (by decide) ?_
        exact W.iret (v := 0) hx hb hr (fun t ht hW => ⟨⟨0, (), rfl, trivial, trivial⟩, hS.F ht⟩) hS.2.2 dX8_byTaking_64
    · refine lv_aload_n hx hb dX8_byTaking_36 rfl (lv_at hl 1 rfl) ?_
      refine lv_iload_n hx hb dX8_byTaking_37 rfl (lv_at hl 2 rfl) ?_
      refine lv_iload_n hx hb dX8_byTaking_38 rfl (lv_at hl 3 rfl) ?_
      refine lv_iload_n hx hb dX8_byTaking_39 rfl (lv_at hl 4 rfl) ?_
      refine ro_i (D := D) (va_runV (As := [.int (nI sn), .int p0, .int (nI i)]) (rest := []) ⟨hx, hb, hml, hown, hts⟩ ((m_takingOf l D k st lo a tx t0 we rd ru rw ca fp wd nu na ts df db sd dn se tm gs fprices sn i p0 (by omega) (by omega)) H.size) (cwV 3 hts (gV tw_1222 tw_1224 tw_43 tw_87 tw_1225) rfl rfl rfl (by decide +kernel) ⟨Nat.le_of_ble_eq_true rfl, Nat.le_of_ble_eq_true rfl⟩) (pV hS hAlo hlo hP hK hDL hZ [0, 1, 2, 3] (by decide) rfl (ci := 8) (q0 := 0) rfl rfl) rfl rfl hl.1 rfl (lv_room (Nat.le_of_ble_eq_true rfl)) dX8_byTaking_40 ⟨Nat.le_of_ble_eq_true rfl, Nat.le_of_ble_eq_true rfl⟩) hS hA hP (fun r_8 H locs hw_8 hP hS => ?_)
      try dsimp only at hw_8
      refine lv_goto (tgt := 64) hx hb dX8_byTaking_43 (by decide) ?_
      exact W.iret (v := r_8) hx hb hr (fun t ht hW => ⟨⟨r_8, (), rfl, trivial, trivial⟩, hS.F ht⟩) hS.2.2 dX8_byTaking_64
  · refine lv_iconst (v := 1) hx hb dX8_byTaking_24 (by decide) ?_
    refine lv_goto (tgt := 29) hx hb dX8_byTaking_25 (by decide) ?_
    refine lv_istore (lv' := [(5, .int 1), (0, .ref (a 0)), (1, .int (nI sn)), (2, .int p0), (3, .int (nI i)), (4, .int p3)]) hx hb dX8_byTaking_29 hl (by decide) rfl (fun ls hl => ?_)
    refine lv_iload hx hb dX8_byTaking_31 (lv_at hl 5 rfl) ?_
    refine lv_if_ne (tgt := 46) hx hb dX8_byTaking_33 (by decide) (fun c_9 => ?_) (fun c_9 => ?_)
    · refine lv_iload hx hb dX8_byTaking_46 (lv_at hl 5 rfl) ?_
      refine lv_iconst (v := 1) hx hb dX8_byTaking_48 (by decide) ?_
      refine lv_icmp_ne (tgt := 63) hx hb dX8_byTaking_49 (by decide) (fun c_10 => ?_) (fun c_10 => ?_)
      · refine lv_iconst (v := 0) hx hb dX8_byTaking_63 (by decide) ?_
        exact W.iret (v := 0) hx hb hr (fun t ht hW => ⟨⟨0, (), rfl, trivial, trivial⟩, hS.F ht⟩) hS.2.2 dX8_byTaking_64
      · refine lv_iload hx hb dX8_byTaking_52 (lv_at hl 0 rfl) ?_
        refine lv_if_eq (tgt := 63) hx hb dX8_byTaking_54 (by decide) (fun h => absurd h (by decide)) (fun _ => ?_)
        refine lv_ldcw hx hb hown (hts _ tw_1337) dX8_byTaking_57 ?_
        refine lv_goto (tgt := 64) hx hb dX8_byTaking_60 (by decide) ?_
        exact W.iret (v := 1000000) hx hb hr (fun t ht hW => ⟨⟨1000000, (), rfl, trivial, trivial⟩, hS.F ht⟩) hS.2.2 dX8_byTaking_64
    · refine lv_aload_n hx hb dX8_byTaking_36 rfl (lv_at hl 1 rfl) ?_
      refine lv_iload_n hx hb dX8_byTaking_37 rfl (lv_at hl 2 rfl) ?_
      refine lv_iload_n hx hb dX8_byTaking_38 rfl (lv_at hl 3 rfl) ?_
      refine lv_iload_n hx hb dX8_byTaking_39 rfl (lv_at hl 4 rfl) ?_
      refine ro_i (D := D) (va_runV (As := [.int (nI sn), .int p0, .int (nI i)]) (rest := []) ⟨hx, hb, hml, hown, hts⟩ ((m_takingOf l D k st lo a tx t0 we rd ru rw ca fp wd nu na ts df db sd dn se tm gs fprices sn i p0 (by omega) (by omega)) H.size) (cwV 3 hts (gV tw_1222 tw_1224 tw_43 tw_87 tw_1225) rfl rfl rfl (by decide +kernel) ⟨Nat.le_of_ble_eq_true rfl, Nat.le_of_ble_eq_true rfl⟩) (pV hS hAlo hlo hP hK hDL hZ [0, 1, 2, 3] (by decide) rfl (ci := 8) (q0 := 0) rfl rfl) rfl rfl hl.1 rfl (lv_room (Nat.le_of_ble_eq_true rfl)) dX8_byTaking_40 ⟨Nat.le_of_ble_eq_true rfl, Nat.le_of_ble_eq_true rfl⟩) hS hA hP (fun r_11 H locs hw_11 hP hS => ?_)
      try dsimp only at hw_11
      refine lv_goto (tgt := 64) hx hb dX8_byTaking_43 (by decide) ?_
      exact W.iret (v := r_11) hx hb hr (fun t ht hW => ⟨⟨r_11, (), rfl, trivial, trivial⟩, hS.F ht⟩) hS.2.2 dX8_byTaking_64


theorem dX8_byGarage_0 : decode cX8_byGarage 0 = .ok (.aload_n 0, 1) := by decide +kernel
theorem dX8_byGarage_1 : decode cX8_byGarage 1 = .ok (.iload_n 1, 1) := by decide +kernel
theorem dX8_byGarage_2 : decode cX8_byGarage 2 = .ok (.aload_n 0, 1) := by decide +kernel
theorem dX8_byGarage_3 : decode cX8_byGarage 3 = .ok (.iload_n 1, 1) := by decide +kernel
theorem dX8_byGarage_4 : decode cX8_byGarage 4 = .ok (.iload_n 2, 1) := by decide +kernel
theorem dX8_byGarage_5 : decode cX8_byGarage 5 = .ok (.aload_n 0, 1) := by decide +kernel
theorem dX8_byGarage_6 : decode cX8_byGarage 6 = .ok (.getfield 7, 3) := by decide +kernel
theorem dX8_byGarage_9 : decode cX8_byGarage 9 = .ok (.iload_n 1, 1) := by decide +kernel
theorem dX8_byGarage_10 : decode cX8_byGarage 10 = .ok (.iaload, 1) := by decide +kernel
theorem dX8_byGarage_11 : decode cX8_byGarage 11 = .ok (.invokevirtual 223, 3) := by decide +kernel
theorem dX8_byGarage_14 : decode cX8_byGarage 14 = .ok (.invokevirtual 227, 3) := by decide +kernel
theorem dX8_byGarage_17 : decode cX8_byGarage 17 = .ok (.ifCond .le 7, 3) := by decide +kernel
theorem dX8_byGarage_20 : decode cX8_byGarage 20 = .ok (.iconst 1, 1) := by decide +kernel
theorem dX8_byGarage_21 : decode cX8_byGarage 21 = .ok (.goto 4, 3) := by decide +kernel
theorem dX8_byGarage_24 : decode cX8_byGarage 24 = .ok (.iconst 0, 1) := by decide +kernel
theorem dX8_byGarage_25 : decode cX8_byGarage 25 = .ok (.istore 4, 2) := by decide +kernel
theorem dX8_byGarage_27 : decode cX8_byGarage 27 = .ok (.iload_n 3, 1) := by decide +kernel
theorem dX8_byGarage_28 : decode cX8_byGarage 28 = .ok (.ifCond .ne 12, 3) := by decide +kernel
theorem dX8_byGarage_31 : decode cX8_byGarage 31 = .ok (.aload_n 0, 1) := by decide +kernel
theorem dX8_byGarage_32 : decode cX8_byGarage 32 = .ok (.iload_n 1, 1) := by decide +kernel
theorem dX8_byGarage_33 : decode cX8_byGarage 33 = .ok (.iload_n 2, 1) := by decide +kernel
theorem dX8_byGarage_34 : decode cX8_byGarage 34 = .ok (.invokevirtual 248, 3) := by decide +kernel
theorem dX8_byGarage_37 : decode cX8_byGarage 37 = .ok (.goto 20, 3) := by decide +kernel
theorem dX8_byGarage_40 : decode cX8_byGarage 40 = .ok (.iload_n 3, 1) := by decide +kernel
theorem dX8_byGarage_41 : decode cX8_byGarage 41 = .ok (.iconst 2, 1) := by decide +kernel
theorem dX8_byGarage_42 : decode cX8_byGarage 42 = .ok (.if_icmp .eq 8, 3) := by decide +kernel
theorem dX8_byGarage_45 : decode cX8_byGarage 45 = .ok (.iload 4, 2) := by decide +kernel
theorem dX8_byGarage_47 : decode cX8_byGarage 47 = .ok (.ifCond .eq 9, 3) := by decide +kernel
theorem dX8_byGarage_50 : decode cX8_byGarage 50 = .ok (.ldc_w 285, 3) := by decide +kernel
theorem dX8_byGarage_53 : decode cX8_byGarage 53 = .ok (.goto 4, 3) := by decide +kernel
theorem dX8_byGarage_56 : decode cX8_byGarage 56 = .ok (.iconst 0, 1) := by decide +kernel
theorem dX8_byGarage_57 : decode cX8_byGarage 57 = .ok (.ireturn, 1) := by decide +kernel
set_option maxHeartbeats 4000000 in
set_option maxRecDepth 100000 in
theorem m_byGarage (l : Launch) (D : va_G) (k : Nat → ClassId) (st : Nat → Nat) (lo : Nat) (a : Nat → Nat) (tx : Nat) (t0 : Nat) (we : Nat) (rd : Nat) (ru : Nat) (rw : Nat) (ca : Nat) (fp : Int32) (wd : Int64) (nu : Int32) (na : Int32) (ts : Int32) (df : Int32) (db : Int32) (sd : Int32) (dn : Nat → Nat) (se : Nat → Nat) (tm : Nat → Nat) (gs : Nat → Int32) (sn : Nat) (p0 : Int32) (p3 : Int32)  (hs : sn < 3) : CRi l D k st lo yX8_byGarage cX8_byGarage 5 (some .int) ({ frames := 3, cells := 0, slots := 0, locals := 67 }) [.ref (a 0), .int (nI sn), .int p0, .int p3] [((a 0), .inr (8, [.ref (a 1), .ref (a 2), .ref (a 3), .ref (a 4), .ref (a 5), .int (nI tx), .int fp, .int (nI t0), .long wd, .int (nI we), .int nu, .int na, .int (nI rd), .ref (a 14), .ref (a 15), .ref (a 16), .int ts, .ref (a 18), .ref (a 19), .ref (a 20), .ref (a 21), .ref (a 22), .ref (a 23), .int (nI ru), .ref (a 25), .ref (a 26), .ref (a 27), .ref (a 28), .ref (a 29), .ref (a 30), .int (nI rw), .ref (a 32), .ref (a 33), .ref (a 34), .int (nI ca), .ref (a 36), .ref (a 37), .int df, .int db, .ref (a 40), .ref (a 41), .int sd, .ref (a 43), .ref (a 44)])), ((a 1), .inl (k 1, 3, .inl (nF dn))), ((a 4), .inl (k 1, 27, .inl (sg se tm gs)))] (fun r => True) := by
  intro sz
  refine Met.ofW (cc := cX8_byGarage) (maxL := 5) (ret := (some .int)) (by decide) rfl ?_
  intro p e s m args below meth c s₁ B hml hv
  obtain ⟨rfl, hsz, hlo, hP, hK, hDL, hZ⟩ := hv
  have hx := B.exec
  have hb := B.bytes
  have hr := B.returns
  have hts := WS_ts B.pre
  have hown : s.vm.findClass RX8 = some m.cls := findClass_of_methodNamed B.named
  have hlocks := B.notSynchronized
  subst hsz
  have hA : ∀ q : Nat, s.heap.size ≤ q → (fun q : Nat => s.heap.size ≤ q) q := fun _ h => h
  have hAlo : ∀ q : Nat, (fun q : Nat => s.heap.size ≤ q) q → lo ≤ q := fun q h => Nat.le_trans hlo h
  have hS : va_S (fun q : Nat => s.heap.size ≤ q) s.heap s.heap [] := va_S.rf
  have hl := lv_entry ([.ref (a 0), .int (nI sn), .int p0, .int p3]) (n := 5) (Nat.le_of_ble_eq_true rfl)
  rw [lg_entry_eq]
  generalize (lg_sl ([.ref (a 0), .int (nI sn), .int p0, .int p3]) ++ List.replicate (5 - (lg_sl ([.ref (a 0), .int (nI sn), .int p0, .int p3])).length) Slot.unset).toArray = ls at hl ⊢
  have hl : lv_has ls 5 [(0, .ref (a 0)), (1, .int (nI sn)), (2, .int p0), (3, .int p3)] := hl
  refine lv_aload_n hx hb dX8_byGarage_0 rfl (lv_at hl 0 rfl) ?_
  refine lv_iload_n hx hb dX8_byGarage_1 rfl (lv_at hl 1 rfl) ?_
  refine lv_aload_n hx hb dX8_byGarage_2 rfl (lv_at hl 0 rfl) ?_
  refine lv_iload_n hx hb dX8_byGarage_3 rfl (lv_at hl 1 rfl) ?_
  refine lv_iload_n hx hb dX8_byGarage_4 rfl (lv_at hl 2 rfl) ?_
  refine lv_aload_n hx hb dX8_byGarage_5 rfl (lv_at hl 0 rfl) ?_
  refine va_get (D := D) (ci := 8) (v := .ref (a 1)) (C := RX8) (T := TX8) (N := 44) hx hb hts inX8 hown hK hP 0 rfl rfl 0 (by decide) (hts _ tw_973) (fun _ h9 => h9) rfl dX8_byGarage_6 ?_
  refine lv_iload_n hx hb dX8_byGarage_9 rfl (lv_at hl 1 rfl) ?_
  refine va_iald hx hb hK hP 1 1 rfl rfl (vp_in_nI (by omega) (by decide)) dX8_byGarage_10 ?_
  refine lv_ti (y := (nI (dn sn))) (by rw [nI_clamp (by omega)]; rfl) ?_
  refine ro_i (D := D) (va_runV (As := [.int (nI sn), .int p0, .int (nI (dn sn))]) (rest := [.int (nI sn), .ref (a 0)]) ⟨hx, hb, hml, hown, hts⟩ ((m_tick l D k st lo a tx t0 we rd ru rw ca fp wd nu na ts df db sd dn se tm gs sn p0 (nI (dn sn)) (by omega)) s.heap.size) (cwV 3 hts (gV tw_1230 tw_1232 tw_45 tw_87 tw_1233) rfl rfl rfl (by decide +kernel) ⟨Nat.le_of_ble_eq_true rfl, Nat.le_of_ble_eq_true rfl⟩) (pV hS hAlo hlo hP hK hDL hZ [0, 1, 2] (by decide) rfl (ci := 8) (q0 := 0) rfl rfl) rfl rfl hl.1 rfl (lv_room (Nat.le_of_ble_eq_true rfl)) dX8_byGarage_11 ⟨Nat.le_of_ble_eq_true rfl, Nat.le_of_ble_eq_true rfl⟩) hS hA hP (fun r_1 H locs hw_1 hP hS => ?_)
  try dsimp only at hw_1
  refine ro_i (D := D) (va_runV (As := [.int (nI sn), .int r_1]) (rest := []) ⟨hx, hb, hml, hown, hts⟩ ((m_lateAt l D k st lo a tx t0 we rd ru rw ca fp wd nu na ts df db sd se tm gs sn r_1 (by omega)) H.size) (cwV 2 hts (gV tw_1234 tw_1236 tw_46 tw_87 tw_1237) rfl rfl rfl (by decide +kernel) ⟨Nat.le_of_ble_eq_true rfl, Nat.le_of_ble_eq_true rfl⟩) (pV hS hAlo hlo hP hK hDL hZ [0, 2] (by decide) rfl (ci := 8) (q0 := 0) rfl rfl) rfl rfl hl.1 rfl (lv_room (Nat.le_of_ble_eq_true rfl)) dX8_byGarage_14 ⟨Nat.le_of_ble_eq_true rfl, Nat.le_of_ble_eq_true rfl⟩) hS hA hP (fun r_2 H locs hw_2 hP hS => ?_)
  try dsimp only at hw_2
  refine lv_if_le (tgt := 24) hx hb dX8_byGarage_17 (by decide) (fun c_3 => ?_) (fun c_3 => ?_)
  · refine lv_iconst (v := 0) hx hb dX8_byGarage_24 (by decide) ?_
    refine lv_istore (lv' := [(4, .int 0), (0, .ref (a 0)), (1, .int (nI sn)), (2, .int p0), (3, .int p3)]) hx hb dX8_byGarage_25 hl (by decide) rfl (fun ls hl => ?_)
    refine lv_iload_n hx hb dX8_byGarage_27 rfl (lv_at hl 4 rfl) ?_
    refine lv_if_ne (tgt := 40) hx hb dX8_byGarage_28 (by decide) (fun c_4 => ?_) (fun c_4 => ?_)
    · refine lv_iload_n hx hb dX8_byGarage_40 rfl (lv_at hl 4 rfl) ?_
      refine lv_iconst (v := 2) hx hb dX8_byGarage_41 (by decide) ?_
      refine lv_icmp_eq (tgt := 50) hx hb dX8_byGarage_42 (by decide) (fun c_5 => ?_) (fun c_5 => ?_)
      · refine lv_ldcw hx hb hown (hts _ tw_1337) dX8_byGarage_50 ?_
        refine lv_goto (tgt := 57) hx hb dX8_byGarage_53 (by decide) ?_
        exact W.iret (v := 1000000) hx hb hr (fun t ht hW => ⟨⟨1000000, (), rfl, trivial, trivial⟩, hS.F ht⟩) hS.2.2 dX8_byGarage_57
      · refine lv_iload hx hb dX8_byGarage_45 (lv_at hl 0 rfl) ?_
        refine lv_if_eq (tgt := 56) hx hb dX8_byGarage_47 (by decide) (fun _ => ?_) (fun h => absurd (by decide) h)
        refine lv_iconst (v := 0) hx hb dX8_byGarage_56 (by decide) ?_
        exact W.iret (v := 0) hx hb hr (fun t ht hW => ⟨⟨0, (), rfl, trivial, trivial⟩, hS.F ht⟩) hS.2.2 dX8_byGarage_57
    · refine lv_aload_n hx hb dX8_byGarage_31 rfl (lv_at hl 1 rfl) ?_
      refine lv_iload_n hx hb dX8_byGarage_32 rfl (lv_at hl 2 rfl) ?_
      refine lv_iload_n hx hb dX8_byGarage_33 rfl (lv_at hl 3 rfl) ?_
      refine ro_i (D := D) (va_runV (As := [.int (nI sn), .int p0]) (rest := []) ⟨hx, hb, hml, hown, hts⟩ ((m_garageOf l D k st lo a tx t0 we rd ru rw ca fp wd nu na ts df db sd dn se tm gs sn p0 (by omega)) H.size) (cwV 2 hts (gV tw_1258 tw_1260 tw_51 tw_87 tw_1261) rfl rfl rfl (by decide +kernel) ⟨Nat.le_of_ble_eq_true rfl, Nat.le_of_ble_eq_true rfl⟩) (pV hS hAlo hlo hP hK hDL hZ [0, 1, 2] (by decide) rfl (ci := 8) (q0 := 0) rfl rfl) rfl rfl hl.1 rfl (lv_room (Nat.le_of_ble_eq_true rfl)) dX8_byGarage_34 ⟨Nat.le_of_ble_eq_true rfl, Nat.le_of_ble_eq_true rfl⟩) hS hA hP (fun r_6 H locs hw_6 hP hS => ?_)
      try dsimp only at hw_6
      refine lv_goto (tgt := 57) hx hb dX8_byGarage_37 (by decide) ?_
      exact W.iret (v := r_6) hx hb hr (fun t ht hW => ⟨⟨r_6, (), rfl, trivial, trivial⟩, hS.F ht⟩) hS.2.2 dX8_byGarage_57
  · refine lv_iconst (v := 1) hx hb dX8_byGarage_20 (by decide) ?_
    refine lv_goto (tgt := 25) hx hb dX8_byGarage_21 (by decide) ?_
    refine lv_istore (lv' := [(4, .int 1), (0, .ref (a 0)), (1, .int (nI sn)), (2, .int p0), (3, .int p3)]) hx hb dX8_byGarage_25 hl (by decide) rfl (fun ls hl => ?_)
    refine lv_iload_n hx hb dX8_byGarage_27 rfl (lv_at hl 4 rfl) ?_
    refine lv_if_ne (tgt := 40) hx hb dX8_byGarage_28 (by decide) (fun c_7 => ?_) (fun c_7 => ?_)
    · refine lv_iload_n hx hb dX8_byGarage_40 rfl (lv_at hl 4 rfl) ?_
      refine lv_iconst (v := 2) hx hb dX8_byGarage_41 (by decide) ?_
      refine lv_icmp_eq (tgt := 50) hx hb dX8_byGarage_42 (by decide) (fun c_8 => ?_) (fun c_8 => ?_)
      · refine lv_ldcw hx hb hown (hts _ tw_1337) dX8_byGarage_50 ?_
        refine lv_goto (tgt := 57) hx hb dX8_byGarage_53 (by decide) ?_
        exact W.iret (v := 1000000) hx hb hr (fun t ht hW => ⟨⟨1000000, (), rfl, trivial, trivial⟩, hS.F ht⟩) hS.2.2 dX8_byGarage_57
      · refine lv_iload hx hb dX8_byGarage_45 (lv_at hl 0 rfl) ?_
        refine lv_if_eq (tgt := 56) hx hb dX8_byGarage_47 (by decide) (fun h => absurd h (by decide)) (fun _ => ?_)
        refine lv_ldcw hx hb hown (hts _ tw_1337) dX8_byGarage_50 ?_
        refine lv_goto (tgt := 57) hx hb dX8_byGarage_53 (by decide) ?_
        exact W.iret (v := 1000000) hx hb hr (fun t ht hW => ⟨⟨1000000, (), rfl, trivial, trivial⟩, hS.F ht⟩) hS.2.2 dX8_byGarage_57
    · refine lv_aload_n hx hb dX8_byGarage_31 rfl (lv_at hl 1 rfl) ?_
      refine lv_iload_n hx hb dX8_byGarage_32 rfl (lv_at hl 2 rfl) ?_
      refine lv_iload_n hx hb dX8_byGarage_33 rfl (lv_at hl 3 rfl) ?_
      refine ro_i (D := D) (va_runV (As := [.int (nI sn), .int p0]) (rest := []) ⟨hx, hb, hml, hown, hts⟩ ((m_garageOf l D k st lo a tx t0 we rd ru rw ca fp wd nu na ts df db sd dn se tm gs sn p0 (by omega)) H.size) (cwV 2 hts (gV tw_1258 tw_1260 tw_51 tw_87 tw_1261) rfl rfl rfl (by decide +kernel) ⟨Nat.le_of_ble_eq_true rfl, Nat.le_of_ble_eq_true rfl⟩) (pV hS hAlo hlo hP hK hDL hZ [0, 1, 2] (by decide) rfl (ci := 8) (q0 := 0) rfl rfl) rfl rfl hl.1 rfl (lv_room (Nat.le_of_ble_eq_true rfl)) dX8_byGarage_34 ⟨Nat.le_of_ble_eq_true rfl, Nat.le_of_ble_eq_true rfl⟩) hS hA hP (fun r_9 H locs hw_9 hP hS => ?_)
      try dsimp only at hw_9
      refine lv_goto (tgt := 57) hx hb dX8_byGarage_37 (by decide) ?_
      exact W.iret (v := r_9) hx hb hr (fun t ht hW => ⟨⟨r_9, (), rfl, trivial, trivial⟩, hS.F ht⟩) hS.2.2 dX8_byGarage_57


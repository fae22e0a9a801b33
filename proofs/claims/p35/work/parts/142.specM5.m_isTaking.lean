theorem dX8_isTaking_0 : decode cX8_isTaking 0 = .ok (.iload 4, 2) := by decide +kernel
theorem dX8_isTaking_2 : decode cX8_isTaking 2 = .ok (.iconst 1, 1) := by decide +kernel
theorem dX8_isTaking_3 : decode cX8_isTaking 3 = .ok (.iand, 1) := by decide +kernel
theorem dX8_isTaking_4 : decode cX8_isTaking 4 = .ok (.iconst 1, 1) := by decide +kernel
theorem dX8_isTaking_5 : decode cX8_isTaking 5 = .ok (.if_icmp .ne 29, 3) := by decide +kernel
theorem dX8_isTaking_8 : decode cX8_isTaking 8 = .ok (.aload_n 0, 1) := by decide +kernel
theorem dX8_isTaking_9 : decode cX8_isTaking 9 = .ok (.iload_n 1, 1) := by decide +kernel
theorem dX8_isTaking_10 : decode cX8_isTaking 10 = .ok (.iload_n 2, 1) := by decide +kernel
theorem dX8_isTaking_11 : decode cX8_isTaking 11 = .ok (.iload_n 3, 1) := by decide +kernel
theorem dX8_isTaking_12 : decode cX8_isTaking 12 = .ok (.invokevirtual 237, 3) := by decide +kernel
theorem dX8_isTaking_15 : decode cX8_isTaking 15 = .ok (.aload_n 0, 1) := by decide +kernel
theorem dX8_isTaking_16 : decode cX8_isTaking 16 = .ok (.getfield 38, 3) := by decide +kernel
theorem dX8_isTaking_19 : decode cX8_isTaking 19 = .ok (.iload_n 2, 1) := by decide +kernel
theorem dX8_isTaking_20 : decode cX8_isTaking 20 = .ok (.iload_n 3, 1) := by decide +kernel
theorem dX8_isTaking_21 : decode cX8_isTaking 21 = .ok (.iload 4, 2) := by decide +kernel
theorem dX8_isTaking_23 : decode cX8_isTaking 23 = .ok (.invokestatic 242, 3) := by decide +kernel
theorem dX8_isTaking_26 : decode cX8_isTaking 26 = .ok (.iaload, 1) := by decide +kernel
theorem dX8_isTaking_27 : decode cX8_isTaking 27 = .ok (.if_icmp .gt 7, 3) := by decide +kernel
theorem dX8_isTaking_30 : decode cX8_isTaking 30 = .ok (.iconst 1, 1) := by decide +kernel
theorem dX8_isTaking_31 : decode cX8_isTaking 31 = .ok (.goto 4, 3) := by decide +kernel
theorem dX8_isTaking_34 : decode cX8_isTaking 34 = .ok (.iconst 0, 1) := by decide +kernel
theorem dX8_isTaking_35 : decode cX8_isTaking 35 = .ok (.ireturn, 1) := by decide +kernel
set_option maxHeartbeats 4000000 in
set_option maxRecDepth 100000 in
theorem m_isTaking (l : Launch) (D : va_G) (k : Nat → ClassId) (st : Nat → Nat) (lo : Nat) (a : Nat → Nat) (tx : Nat) (t0 : Nat) (we : Nat) (rd : Nat) (ru : Nat) (rw : Nat) (ca : Nat) (fp : Int32) (wd : Int64) (nu : Int32) (na : Int32) (ts : Int32) (df : Int32) (db : Int32) (sd : Int32) (dn : Nat → Nat) (se : Nat → Nat) (tm : Nat → Nat) (gs : Nat → Int32) (fprices : Nat → Int32) (fons : Nat → Int32) (sn : Nat) (rn : Nat) (i : Nat) (g : Nat)  (hs : sn < 3) (hrn : rn ≤ 3) (hi : i < 24) (hg : g < 8) : CRi l D k st lo yX8_isTaking cX8_isTaking 5 (some .boolean) ({ frames := 4, cells := 0, slots := 0, locals := 93 }) [.ref (a 0), .int (nI sn), .int (nI rn), .int (nI i), .int (nI g)] [((a 0), .inr (8, [.ref (a 1), .ref (a 2), .ref (a 3), .ref (a 4), .ref (a 5), .int (nI tx), .int fp, .int (nI t0), .long wd, .int (nI we), .int nu, .int na, .int (nI rd), .ref (a 14), .ref (a 15), .ref (a 16), .int ts, .ref (a 18), .ref (a 19), .ref (a 20), .ref (a 21), .ref (a 22), .ref (a 23), .int (nI ru), .ref (a 25), .ref (a 26), .ref (a 27), .ref (a 28), .ref (a 29), .ref (a 30), .int (nI rw), .ref (a 32), .ref (a 33), .ref (a 34), .int (nI ca), .ref (a 36), .ref (a 37), .int df, .int db, .ref (a 40), .ref (a 41), .int sd, .ref (a 43), .ref (a 44)])), ((a 1), .inl (k 1, 3, .inl (nF dn))), ((a 4), .inl (k 1, 27, .inl (sg se tm gs))), ((a 3), .inl (k 1, 72, .inl fprices)), ((a 18), .inl (k 1, 768, .inl fons))] (fun r => r = 1 ∨ r = 0) := by
  intro sz
  refine Met.ofW (cc := cX8_isTaking) (maxL := 5) (ret := (some .boolean)) (by decide) rfl ?_
  intro p e s m args below meth c s₁ B hml hv
  obtain ⟨rfl, hsz, hlo, hP, hK, hDL, hZ⟩ := hv
  have hx := B.exec
  have hb := B.bytes
  have hr := B.returns
  have hts := WS_ts B.pre
  have hown : s.vm.findClass RX8 = some m.cls := findClass_of_methodNamed B.named
  have hlocks := B.notSynchronized
  subst hsz
  have hA : ∀ q : Nat, s.heap.size ≤ q → (fun q : Nat => s.heap.size ≤ q) q := fun _ h => h
  have hAlo : ∀ q : Nat, (fun q : Nat => s.heap.size ≤ q) q → lo ≤ q := fun q h => Nat.le_trans hlo h
  have hS : va_S (fun q : Nat => s.heap.size ≤ q) s.heap s.heap [] := va_S.rf
  have hl := lv_entry ([.ref (a 0), .int (nI sn), .int (nI rn), .int (nI i), .int (nI g)]) (n := 5) (Nat.le_of_ble_eq_true rfl)
  rw [lg_entry_eq]
  generalize (lg_sl ([.ref (a 0), .int (nI sn), .int (nI rn), .int (nI i), .int (nI g)]) ++ List.replicate (5 - (lg_sl ([.ref (a 0), .int (nI sn), .int (nI rn), .int (nI i), .int (nI g)])).length) Slot.unset).toArray = ls at hl ⊢
  have hl : lv_has ls 5 [(0, .ref (a 0)), (1, .int (nI sn)), (2, .int (nI rn)), (3, .int (nI i)), (4, .int (nI g))] := hl
  refine lv_iload hx hb dX8_isTaking_0 (lv_at hl 4 rfl) ?_
  refine lv_iconst (v := 1) hx hb dX8_isTaking_2 (by decide) ?_
  refine lv_iand hx hb dX8_isTaking_3 ?_
  refine lv_topi (fun x_1 ex_1 => ?_)
  refine lv_iconst (v := 1) hx hb dX8_isTaking_4 (by decide) ?_
  refine lv_icmp_ne (tgt := 34) hx hb dX8_isTaking_5 (by decide) (fun c_2 => ?_) (fun c_2 => ?_)
  · refine lv_iconst (v := 0) hx hb dX8_isTaking_34 (by decide) ?_
    exact W.zret (v := 0) (ty := .boolean) hx hb hr rfl (fun t ht hW => ⟨⟨0, (), rfl, .inr rfl, trivial⟩, hS.F ht⟩) hS.2.2 dX8_isTaking_35
  · refine lv_aload_n hx hb dX8_isTaking_8 rfl (lv_at hl 0 rfl) ?_
    refine lv_iload_n hx hb dX8_isTaking_9 rfl (lv_at hl 1 rfl) ?_
    refine lv_iload_n hx hb dX8_isTaking_10 rfl (lv_at hl 2 rfl) ?_
    refine lv_iload_n hx hb dX8_isTaking_11 rfl (lv_at hl 3 rfl) ?_
    refine ro_i (D := D) (va_runV (As := [.int (nI sn), .int (nI rn), .int (nI i)]) (rest := []) ⟨hx, hb, hml, hown, hts⟩ ((m_takingOf l D k st lo a tx t0 we rd ru rw ca fp wd nu na ts df db sd dn se tm gs fprices sn i (nI rn) (by omega) (by omega)) s.heap.size) (cwV 3 hts (gV tw_1222 tw_1224 tw_43 tw_87 tw_1225) rfl rfl rfl (by decide +kernel) ⟨Nat.le_of_ble_eq_true rfl, Nat.le_of_ble_eq_true rfl⟩) (pV hS hAlo hlo hP hK hDL hZ [0, 1, 2, 3] (by decide) rfl (ci := 8) (q0 := 0) rfl rfl) rfl rfl hl.1 rfl (lv_room (Nat.le_of_ble_eq_true rfl)) dX8_isTaking_12 ⟨Nat.le_of_ble_eq_true rfl, Nat.le_of_ble_eq_true rfl⟩) hS hA hP (fun r_3 H locs hw_3 hP hS => ?_)
    try dsimp only at hw_3
    refine lv_aload_n hx hb dX8_isTaking_15 rfl (lv_at hl 0 rfl) ?_
    refine va_get (D := D) (ci := 8) (v := .ref (a 18)) (C := RX8) (T := TX8) (N := 44) hx hb hts inX8 hown hK hP 0 rfl rfl 17 (by decide) (hts _ tw_990) (fun _ h9 => h9) rfl dX8_isTaking_16 ?_
    refine lv_iload_n hx hb dX8_isTaking_19 rfl (lv_at hl 2 rfl) ?_
    refine lv_iload_n hx hb dX8_isTaking_20 rfl (lv_at hl 3 rfl) ?_
    refine lv_iload hx hb dX8_isTaking_21 (lv_at hl 4 rfl) ?_
    refine ro_i (D := D) (va_runS (As := [.int (nI rn), .int (nI i), .int (nI g)]) (rest := [.ref (a 18), .int r_3]) ⟨hx, hb, hml, hown, hts⟩ ((m_at l D k st lo rn i g) H.size) (va_cwS 3 hts (gS tw_1266 tw_1267 tw_87 tw_1268) rfl rfl rfl (by decide +kernel) ⟨Nat.le_of_ble_eq_true rfl, Nat.le_of_ble_eq_true rfl⟩) (pS hS hAlo hlo hP hK hDL hZ [] (by decide) rfl) rfl rfl hl.1 rfl (lv_room (Nat.le_of_ble_eq_true rfl)) dX8_isTaking_23 ⟨Nat.le_of_ble_eq_true rfl, Nat.le_of_ble_eq_true rfl⟩) hS hA hP (fun r_4 H locs hw_4 hP hS => ?_)
    try dsimp only at hw_4
    subst hw_4
    refine va_iald hx hb hK hP 4 1 rfl rfl (vp_in_nI (by omega) (by decide)) dX8_isTaking_26 ?_
    refine lv_ti (y := (fons (192 * rn + 8 * i + g))) (by rw [nI_clamp (by omega)]) ?_
    refine lv_icmp_gt (tgt := 34) hx hb dX8_isTaking_27 (by decide) (fun c_5 => ?_) (fun c_5 => ?_)
    · refine lv_iconst (v := 0) hx hb dX8_isTaking_34 (by decide) ?_
      exact W.zret (v := 0) (ty := .boolean) hx hb hr rfl (fun t ht hW => ⟨⟨0, (), rfl, .inr rfl, trivial⟩, hS.F ht⟩) hS.2.2 dX8_isTaking_35
    · refine lv_iconst (v := 1) hx hb dX8_isTaking_30 (by decide) ?_
      refine lv_goto (tgt := 35) hx hb dX8_isTaking_31 (by decide) ?_
      exact W.zret (v := 1) (ty := .boolean) hx hb hr rfl (fun t ht hW => ⟨⟨1, (), rfl, .inl rfl, trivial⟩, hS.F ht⟩) hS.2.2 dX8_isTaking_35


theorem dX8_costAt_0 : decode cX8_costAt 0 = .ok (.iload_n 3, 1) := by decide +kernel
theorem dX8_costAt_1 : decode cX8_costAt 1 = .ok (.ifCond .ge 28, 3) := by decide +kernel
theorem dX8_costAt_4 : decode cX8_costAt 4 = .ok (.aload_n 0, 1) := by decide +kernel
theorem dX8_costAt_5 : decode cX8_costAt 5 = .ok (.iload_n 1, 1) := by decide +kernel
theorem dX8_costAt_6 : decode cX8_costAt 6 = .ok (.iconst 0, 1) := by decide +kernel
theorem dX8_costAt_7 : decode cX8_costAt 7 = .ok (.invokevirtual 248, 3) := by decide +kernel
theorem dX8_costAt_10 : decode cX8_costAt 10 = .ok (.aload_n 0, 1) := by decide +kernel
theorem dX8_costAt_11 : decode cX8_costAt 11 = .ok (.iload_n 1, 1) := by decide +kernel
theorem dX8_costAt_12 : decode cX8_costAt 12 = .ok (.iconst 2, 1) := by decide +kernel
theorem dX8_costAt_13 : decode cX8_costAt 13 = .ok (.invokevirtual 212, 3) := by decide +kernel
theorem dX8_costAt_16 : decode cX8_costAt 16 = .ok (.sipush 1000, 3) := by decide +kernel
theorem dX8_costAt_19 : decode cX8_costAt 19 = .ok (.imul, 1) := by decide +kernel
theorem dX8_costAt_20 : decode cX8_costAt 20 = .ok (.aload_n 0, 1) := by decide +kernel
theorem dX8_costAt_21 : decode cX8_costAt 21 = .ok (.getfield 7, 3) := by decide +kernel
theorem dX8_costAt_24 : decode cX8_costAt 24 = .ok (.iload_n 1, 1) := by decide +kernel
theorem dX8_costAt_25 : decode cX8_costAt 25 = .ok (.iaload, 1) := by decide +kernel
theorem dX8_costAt_26 : decode cX8_costAt 26 = .ok (.imul, 1) := by decide +kernel
theorem dX8_costAt_27 : decode cX8_costAt 27 = .ok (.iadd, 1) := by decide +kernel
theorem dX8_costAt_28 : decode cX8_costAt 28 = .ok (.ireturn, 1) := by decide +kernel
theorem dX8_costAt_29 : decode cX8_costAt 29 = .ok (.iload_n 3, 1) := by decide +kernel
theorem dX8_costAt_30 : decode cX8_costAt 30 = .ok (.aload_n 0, 1) := by decide +kernel
theorem dX8_costAt_31 : decode cX8_costAt 31 = .ok (.getfield 321, 3) := by decide +kernel
theorem dX8_costAt_34 : decode cX8_costAt 34 = .ok (.if_icmp .lt 14, 3) := by decide +kernel
theorem dX8_costAt_37 : decode cX8_costAt 37 = .ok (.aload_n 0, 1) := by decide +kernel
theorem dX8_costAt_38 : decode cX8_costAt 38 = .ok (.getfield 324, 3) := by decide +kernel
theorem dX8_costAt_41 : decode cX8_costAt 41 = .ok (.sipush 1000, 3) := by decide +kernel
theorem dX8_costAt_44 : decode cX8_costAt 44 = .ok (.imul, 1) := by decide +kernel
theorem dX8_costAt_45 : decode cX8_costAt 45 = .ok (.goto 4, 3) := by decide +kernel
theorem dX8_costAt_48 : decode cX8_costAt 48 = .ok (.iconst 0, 1) := by decide +kernel
theorem dX8_costAt_49 : decode cX8_costAt 49 = .ok (.istore 4, 2) := by decide +kernel
theorem dX8_costAt_51 : decode cX8_costAt 51 = .ok (.aload_n 0, 1) := by decide +kernel
theorem dX8_costAt_52 : decode cX8_costAt 52 = .ok (.iload_n 1, 1) := by decide +kernel
theorem dX8_costAt_53 : decode cX8_costAt 53 = .ok (.iconst 0, 1) := by decide +kernel
theorem dX8_costAt_54 : decode cX8_costAt 54 = .ok (.iload_n 3, 1) := by decide +kernel
theorem dX8_costAt_55 : decode cX8_costAt 55 = .ok (.aload_n 0, 1) := by decide +kernel
theorem dX8_costAt_56 : decode cX8_costAt 56 = .ok (.getfield 84, 3) := by decide +kernel
theorem dX8_costAt_59 : decode cX8_costAt 59 = .ok (.iload_n 2, 1) := by decide +kernel
theorem dX8_costAt_60 : decode cX8_costAt 60 = .ok (.iaload, 1) := by decide +kernel
theorem dX8_costAt_61 : decode cX8_costAt 61 = .ok (.invokevirtual 230, 3) := by decide +kernel
theorem dX8_costAt_64 : decode cX8_costAt 64 = .ok (.iload 4, 2) := by decide +kernel
theorem dX8_costAt_66 : decode cX8_costAt 66 = .ok (.iadd, 1) := by decide +kernel
theorem dX8_costAt_67 : decode cX8_costAt 67 = .ok (.aload_n 0, 1) := by decide +kernel
theorem dX8_costAt_68 : decode cX8_costAt 68 = .ok (.iload_n 1, 1) := by decide +kernel
theorem dX8_costAt_69 : decode cX8_costAt 69 = .ok (.iconst 2, 1) := by decide +kernel
theorem dX8_costAt_70 : decode cX8_costAt 70 = .ok (.invokevirtual 212, 3) := by decide +kernel
theorem dX8_costAt_73 : decode cX8_costAt 73 = .ok (.sipush 1000, 3) := by decide +kernel
theorem dX8_costAt_76 : decode cX8_costAt 76 = .ok (.imul, 1) := by decide +kernel
theorem dX8_costAt_77 : decode cX8_costAt 77 = .ok (.iload_n 3, 1) := by decide +kernel
theorem dX8_costAt_78 : decode cX8_costAt 78 = .ok (.imul, 1) := by decide +kernel
theorem dX8_costAt_79 : decode cX8_costAt 79 = .ok (.iadd, 1) := by decide +kernel
theorem dX8_costAt_80 : decode cX8_costAt 80 = .ok (.ireturn, 1) := by decide +kernel
set_option maxHeartbeats 4000000 in
set_option maxRecDepth 100000 in
theorem m_costAt (l : Launch) (D : va_G) (k : Nat → ClassId) (st : Nat → Nat) (lo : Nat) (a : Nat → Nat) (tx : Nat) (t0 : Nat) (we : Nat) (rd : Nat) (ru : Nat) (rw : Nat) (ca : Nat) (fp : Int32) (wd : Int64) (nu : Int32) (na : Int32) (ts : Int32) (df : Int32) (db : Int32) (sd : Int32) (dn : Nat → Nat) (se : Nat → Nat) (tm : Nat → Nat) (gs : Nat → Int32) (fprices : Nat → Int32) (fwalks : Nat → Int32) (sn : Nat) (cn : Nat) (pz : Int32)  (hs : sn < 3) (hcn : cn < 4) (hpz : pz < 0 ∨ ∃ d : Nat, d < 24 ∧ pz = nI d) : CRi l D k st lo yX8_costAt cX8_costAt 5 (some .int) ({ frames := 3, cells := 0, slots := 0, locals := 70 }) [.ref (a 0), .int (nI sn), .int (nI cn), .int pz] [((a 0), .inr (8, [.ref (a 1), .ref (a 2), .ref (a 3), .ref (a 4), .ref (a 5), .int (nI tx), .int fp, .int (nI t0), .long wd, .int (nI we), .int nu, .int na, .int (nI rd), .ref (a 14), .ref (a 15), .ref (a 16), .int ts, .ref (a 18), .ref (a 19), .ref (a 20), .ref (a 21), .ref (a 22), .ref (a 23), .int (nI ru), .ref (a 25), .ref (a 26), .ref (a 27), .ref (a 28), .ref (a 29), .ref (a 30), .int (nI rw), .ref (a 32), .ref (a 33), .ref (a 34), .int (nI ca), .ref (a 36), .ref (a 37), .int df, .int db, .ref (a 40), .ref (a 41), .int sd, .ref (a 43), .ref (a 44)])), ((a 1), .inl (k 1, 3, .inl (nF dn))), ((a 4), .inl (k 1, 27, .inl (sg se tm gs))), ((a 3), .inl (k 1, 72, .inl fprices)), ((a 36), .inl (k 1, 4, .inl fwalks))] (fun r => True) := by
  intro sz
  refine Met.ofW (cc := cX8_costAt) (maxL := 5) (ret := (some .int)) (by decide) rfl ?_
  intro p e s m args below meth c s₁ B hml hv
  obtain ⟨rfl, hsz, hlo, hP, hK, hDL, hZ⟩ := hv
  have hx := B.exec
  have hb := B.bytes
  have hr := B.returns
  have hts := WS_ts B.pre
  have hown : s.vm.findClass RX8 = some m.cls := findClass_of_methodNamed B.named
  have hlocks := B.notSynchronized
  subst hsz
  have hA : ∀ q : Nat, s.heap.size ≤ q → (fun q : Nat => s.heap.size ≤ q) q := fun _ h => h
  have hAlo : ∀ q : Nat, (fun q : Nat => s.heap.size ≤ q) q → lo ≤ q := fun q h => Nat.le_trans hlo h
  have hS : va_S (fun q : Nat => s.heap.size ≤ q) s.heap s.heap [] := va_S.rf
  have hl := lv_entry ([.ref (a 0), .int (nI sn), .int (nI cn), .int pz]) (n := 5) (Nat.le_of_ble_eq_true rfl)
  rw [lg_entry_eq]
  generalize (lg_sl ([.ref (a 0), .int (nI sn), .int (nI cn), .int pz]) ++ List.replicate (5 - (lg_sl ([.ref (a 0), .int (nI sn), .int (nI cn), .int pz])).length) Slot.unset).toArray = ls at hl ⊢
  have hl : lv_has ls 5 [(0, .ref (a 0)), (1, .int (nI sn)), (2, .int (nI cn)), (3, .int pz)] := hl
  refine lv_iload_n hx hb dX8_costAt_0 rfl (lv_at hl 3 rfl) ?_
  refine lv_if_ge (tgt := 29) hx hb dX8_costAt_1 (by decide) (fun c_1 => ?_) (fun c_1 => ?_)
  · obtain ⟨d_9, hd_9, rfl⟩ := hpz.resolve_left (fun h => absurd c_1 (Int32.not_le.mpr h))
    refine lv_iload_n hx hb dX8_costAt_29 rfl (lv_at hl 3 rfl) ?_
    refine lv_aload_n hx hb dX8_costAt_30 rfl (lv_at hl 0 rfl) ?_
    refine va_get (D := D) (ci := 8) (v := .int df) (C := RX8) (T := TX8) (N := 44) hx hb hts inX8 hown hK hP 0 rfl rfl 37 (by decide) (hts _ tw_1010) (fun _ h9 => h9) rfl dX8_costAt_31 ?_
    refine lv_icmp_lt (tgt := 48) hx hb dX8_costAt_34 (by decide) (fun c_2 => ?_) (fun c_2 => ?_)
    · refine lv_iconst (v := 0) hx hb dX8_costAt_48 (by decide) ?_
      refine lv_istore (lv' := [(4, .int 0), (0, .ref (a 0)), (1, .int (nI sn)), (2, .int (nI cn)), (3, .int (nI d_9))]) hx hb dX8_costAt_49 hl (by decide) rfl (fun ls hl => ?_)
      refine lv_aload_n hx hb dX8_costAt_51 rfl (lv_at hl 1 rfl) ?_
      refine lv_iload_n hx hb dX8_costAt_52 rfl (lv_at hl 2 rfl) ?_
      refine lv_iconst (v := 0) hx hb dX8_costAt_53 (by decide) ?_
      refine lv_iload_n hx hb dX8_costAt_54 rfl (lv_at hl 4 rfl) ?_
      refine lv_aload_n hx hb dX8_costAt_55 rfl (lv_at hl 1 rfl) ?_
      refine va_get (D := D) (ci := 8) (v := .ref (a 36)) (C := RX8) (T := TX8) (N := 44) hx hb hts inX8 hown hK hP 0 rfl rfl 35 (by decide) (hts _ tw_1008) (fun _ h9 => h9) rfl dX8_costAt_56 ?_
      refine lv_iload_n hx hb dX8_costAt_59 rfl (lv_at hl 3 rfl) ?_
      refine va_iald hx hb hK hP 4 1 rfl rfl (vp_in_nI (by omega) (by decide)) dX8_costAt_60 ?_
      refine lv_ti (y := (fwalks cn)) (by rw [nI_clamp (by omega)]) ?_
      refine ro_i (D := D) (va_runV (As := [.int (nI sn), .int 0, .int (nI d_9), .int (fwalks cn)]) (rest := []) ⟨hx, hb, hml, hown, hts⟩ ((m_takingBy l D k st lo a tx t0 we rd ru rw ca fp wd nu na ts df db sd dn se tm gs fprices sn d_9 0 (fwalks cn) (by omega) (by omega)) s.heap.size) (cwV 4 hts (gV tw_1226 tw_1228 tw_44 tw_87 tw_1229) rfl rfl rfl (by decide +kernel) ⟨Nat.le_of_ble_eq_true rfl, Nat.le_of_ble_eq_true rfl⟩) (pV hS hAlo hlo hP hK hDL hZ [0, 1, 2, 3] (by decide) rfl (ci := 8) (q0 := 0) rfl rfl) rfl rfl hl.1 rfl (lv_room (Nat.le_of_ble_eq_true rfl)) dX8_costAt_61 ⟨Nat.le_of_ble_eq_true rfl, Nat.le_of_ble_eq_true rfl⟩) hS hA hP (fun r_3 H locs hw_3 hP hS => ?_)
      try dsimp only at hw_3
      refine lv_iload hx hb dX8_costAt_64 (lv_at hl 0 rfl) ?_
      refine lv_iadd hx hb dX8_costAt_66 ?_
      refine lv_topi (fun x_4 ex_4 => ?_)
      refine lv_aload_n hx hb dX8_costAt_67 rfl (lv_at hl 1 rfl) ?_
      refine lv_iload_n hx hb dX8_costAt_68 rfl (lv_at hl 2 rfl) ?_
      refine lv_iconst (v := 2) hx hb dX8_costAt_69 (by decide) ?_
      refine ro_i (D := D) (va_runV (As := [.int (nI sn), .int 2]) (rest := [.int x_4]) ⟨hx, hb, hml, hown, hts⟩ ((m_of l D k st lo a tx t0 we rd ru rw ca fp wd nu na ts df db sd se tm gs sn 2 (by omega) (by omega)) H.size) (cwV 2 hts (gV tw_1194 tw_1196 tw_39 tw_87 tw_1197) rfl rfl rfl (by decide +kernel) ⟨Nat.le_of_ble_eq_true rfl, Nat.le_of_ble_eq_true rfl⟩) (pV hS hAlo hlo hP hK hDL hZ [0, 2] (by decide) rfl (ci := 8) (q0 := 0) rfl rfl) rfl rfl hl.1 rfl (lv_room (Nat.le_of_ble_eq_true rfl)) dX8_costAt_70 ⟨Nat.le_of_ble_eq_true rfl, Nat.le_of_ble_eq_true rfl⟩) hS hA hP (fun r_5 H locs hw_5 hP hS => ?_)
      try dsimp only at hw_5
      refine lv_sipush (v := 1000) hx hb dX8_costAt_73 (by decide) ?_
      refine lv_imul hx hb dX8_costAt_76 ?_
      refine lv_topi (fun x_6 ex_6 => ?_)
      refine lv_iload_n hx hb dX8_costAt_77 rfl (lv_at hl 4 rfl) ?_
      refine lv_imul hx hb dX8_costAt_78 ?_
      refine lv_topi (fun x_7 ex_7 => ?_)
      refine lv_iadd hx hb dX8_costAt_79 ?_
      refine lv_topi (fun x_8 ex_8 => ?_)
      exact W.iret (v := x_8) hx hb hr (fun t ht hW => ⟨⟨x_8, (), rfl, trivial, trivial⟩, hS.F ht⟩) hS.2.2 dX8_costAt_80
    · refine lv_aload_n hx hb dX8_costAt_37 rfl (lv_at hl 0 rfl) ?_
      refine va_get (D := D) (ci := 8) (v := .int db) (C := RX8) (T := TX8) (N := 44) hx hb hts inX8 hown hK hP 0 rfl rfl 38 (by decide) (hts _ tw_1011) (fun _ h9 => h9) rfl dX8_costAt_38 ?_
      refine lv_sipush (v := 1000) hx hb dX8_costAt_41 (by decide) ?_
      refine lv_imul hx hb dX8_costAt_44 ?_
      refine lv_topi (fun x_9 ex_9 => ?_)
      refine lv_goto (tgt := 49) hx hb dX8_costAt_45 (by decide) ?_
      refine lv_istore (lv' := [(4, .int x_9), (0, .ref (a 0)), (1, .int (nI sn)), (2, .int (nI cn)), (3, .int (nI d_9))]) hx hb dX8_costAt_49 hl (by decide) rfl (fun ls hl => ?_)
      refine lv_aload_n hx hb dX8_costAt_51 rfl (lv_at hl 1 rfl) ?_
      refine lv_iload_n hx hb dX8_costAt_52 rfl (lv_at hl 2 rfl) ?_
      refine lv_iconst (v := 0) hx hb dX8_costAt_53 (by decide) ?_
      refine lv_iload_n hx hb dX8_costAt_54 rfl (lv_at hl 4 rfl) ?_
      refine lv_aload_n hx hb dX8_costAt_55 rfl (lv_at hl 1 rfl) ?_
      refine va_get (D := D) (ci := 8) (v := .ref (a 36)) (C := RX8) (T := TX8) (N := 44) hx hb hts inX8 hown hK hP 0 rfl rfl 35 (by decide) (hts _ tw_1008) (fun _ h9 => h9) rfl dX8_costAt_56 ?_
      refine lv_iload_n hx hb dX8_costAt_59 rfl (lv_at hl 3 rfl) ?_
      refine va_iald hx hb hK hP 4 1 rfl rfl (vp_in_nI (by omega) (by decide)) dX8_costAt_60 ?_
      refine lv_ti (y := (fwalks cn)) (by rw [nI_clamp (by omega)]) ?_
      refine ro_i (D := D) (va_runV (As := [.int (nI sn), .int 0, .int (nI d_9), .int (fwalks cn)]) (rest := []) ⟨hx, hb, hml, hown, hts⟩ ((m_takingBy l D k st lo a tx t0 we rd ru rw ca fp wd nu na ts df db sd dn se tm gs fprices sn d_9 0 (fwalks cn) (by omega) (by omega)) s.heap.size) (cwV 4 hts (gV tw_1226 tw_1228 tw_44 tw_87 tw_1229) rfl rfl rfl (by decide +kernel) ⟨Nat.le_of_ble_eq_true rfl, Nat.le_of_ble_eq_true rfl⟩) (pV hS hAlo hlo hP hK hDL hZ [0, 1, 2, 3] (by decide) rfl (ci := 8) (q0 := 0) rfl rfl) rfl rfl hl.1 rfl (lv_room (Nat.le_of_ble_eq_true rfl)) dX8_costAt_61 ⟨Nat.le_of_ble_eq_true rfl, Nat.le_of_ble_eq_true rfl⟩) hS hA hP (fun r_10 H locs hw_10 hP hS => ?_)
      try dsimp only at hw_10
      refine lv_iload hx hb dX8_costAt_64 (lv_at hl 0 rfl) ?_
      refine lv_iadd hx hb dX8_costAt_66 ?_
      refine lv_topi (fun x_11 ex_11 => ?_)
      refine lv_aload_n hx hb dX8_costAt_67 rfl (lv_at hl 1 rfl) ?_
      refine lv_iload_n hx hb dX8_costAt_68 rfl (lv_at hl 2 rfl) ?_
      refine lv_iconst (v := 2) hx hb dX8_costAt_69 (by decide) ?_
      refine ro_i (D := D) (va_runV (As := [.int (nI sn), .int 2]) (rest := [.int x_11]) ⟨hx, hb, hml, hown, hts⟩ ((m_of l D k st lo a tx t0 we rd ru rw ca fp wd nu na ts df db sd se tm gs sn 2 (by omega) (by omega)) H.size) (cwV 2 hts (gV tw_1194 tw_1196 tw_39 tw_87 tw_1197) rfl rfl rfl (by decide +kernel) ⟨Nat.le_of_ble_eq_true rfl, Nat.le_of_ble_eq_true rfl⟩) (pV hS hAlo hlo hP hK hDL hZ [0, 2] (by decide) rfl (ci := 8) (q0 := 0) rfl rfl) rfl rfl hl.1 rfl (lv_room (Nat.le_of_ble_eq_true rfl)) dX8_costAt_70 ⟨Nat.le_of_ble_eq_true rfl, Nat.le_of_ble_eq_true rfl⟩) hS hA hP (fun r_12 H locs hw_12 hP hS => ?_)
      try dsimp only at hw_12
      refine lv_sipush (v := 1000) hx hb dX8_costAt_73 (by decide) ?_
      refine lv_imul hx hb dX8_costAt_76 ?_
      refine lv_topi (fun x_13 ex_13 => ?_)
      refine lv_iload_n hx hb dX8_costAt_77 rfl (lv_at hl 4 rfl) ?_
      refine lv_imul hx hb dX8_costAt_78 ?_
      refine lv_topi (fun x_14 ex_14 => ?_)
      refine lv_iadd hx hb dX8_costAt_79 ?_
      refine lv_topi (fun x_15 ex_15 => ?_)
      exact W.iret (v := x_15) hx hb hr (fun t ht hW => ⟨⟨x_15, (), rfl, trivial, trivial⟩, hS.F ht⟩) hS.2.2 dX8_costAt_80
  · refine lv_aload_n hx hb dX8_costAt_4 rfl (lv_at hl 0 rfl) ?_
    refine lv_iload_n hx hb dX8_costAt_5 rfl (lv_at hl 1 rfl) ?_
    refine lv_iconst (v := 0) hx hb dX8_costAt_6 (by decide) ?_
    refine ro_i (D := D) (va_runV (As := [.int (nI sn), .int 0]) (rest := []) ⟨hx, hb, hml, hown, hts⟩ ((m_garageOf l D k st lo a tx t0 we rd ru rw ca fp wd nu na ts df db sd dn se tm gs sn 0 (by omega)) s.heap.size) (cwV 2 hts (gV tw_1258 tw_1260 tw_51 tw_87 tw_1261) rfl rfl rfl (by decide +kernel) ⟨Nat.le_of_ble_eq_true rfl, Nat.le_of_ble_eq_true rfl⟩) (pV hS hAlo hlo hP hK hDL hZ [0, 1, 2] (by decide) rfl (ci := 8) (q0 := 0) rfl rfl) rfl rfl hl.1 rfl (lv_room (Nat.le_of_ble_eq_true rfl)) dX8_costAt_7 ⟨Nat.le_of_ble_eq_true rfl, Nat.le_of_ble_eq_true rfl⟩) hS hA hP (fun r_16 H locs hw_16 hP hS => ?_)
    try dsimp only at hw_16
    refine lv_aload_n hx hb dX8_costAt_10 rfl (lv_at hl 0 rfl) ?_
    refine lv_iload_n hx hb dX8_costAt_11 rfl (lv_at hl 1 rfl) ?_
    refine lv_iconst (v := 2) hx hb dX8_costAt_12 (by decide) ?_
    refine ro_i (D := D) (va_runV (As := [.int (nI sn), .int 2]) (rest := [.int r_16]) ⟨hx, hb, hml, hown, hts⟩ ((m_of l D k st lo a tx t0 we rd ru rw ca fp wd nu na ts df db sd se tm gs sn 2 (by omega) (by omega)) H.size) (cwV 2 hts (gV tw_1194 tw_1196 tw_39 tw_87 tw_1197) rfl rfl rfl (by decide +kernel) ⟨Nat.le_of_ble_eq_true rfl, Nat.le_of_ble_eq_true rfl⟩) (pV hS hAlo hlo hP hK hDL hZ [0, 2] (by decide) rfl (ci := 8) (q0 := 0) rfl rfl) rfl rfl hl.1 rfl (lv_room (Nat.le_of_ble_eq_true rfl)) dX8_costAt_13 ⟨Nat.le_of_ble_eq_true rfl, Nat.le_of_ble_eq_true rfl⟩) hS hA hP (fun r_17 H locs hw_17 hP hS => ?_)
    try dsimp only at hw_17
    refine lv_sipush (v := 1000) hx hb dX8_costAt_16 (by decide) ?_
    refine lv_imul hx hb dX8_costAt_19 ?_
    refine lv_topi (fun x_18 ex_18 => ?_)
    refine lv_aload_n hx hb dX8_costAt_20 rfl (lv_at hl 0 rfl) ?_
    refine va_get (D := D) (ci := 8) (v := .ref (a 1)) (C := RX8) (T := TX8) (N := 44) hx hb hts inX8 hown hK hP 0 rfl rfl 0 (by decide) (hts _ tw_973) (fun _ h9 => h9) rfl dX8_costAt_21 ?_
    refine lv_iload_n hx hb dX8_costAt_24 rfl (lv_at hl 1 rfl) ?_
    refine va_iald hx hb hK hP 1 1 rfl rfl (vp_in_nI (by omega) (by decide)) dX8_costAt_25 ?_
    refine lv_ti (y := (nI (dn sn))) (by rw [nI_clamp (by omega)]; rfl) ?_
    refine lv_imul hx hb dX8_costAt_26 ?_
    refine lv_topi (fun x_19 ex_19 => ?_)
    refine lv_iadd hx hb dX8_costAt_27 ?_
    refine lv_topi (fun x_20 ex_20 => ?_)
    exact W.iret (v := x_20) hx hb hr (fun t ht hW => ⟨⟨x_20, (), rfl, trivial, trivial⟩, hS.F ht⟩) hS.2.2 dX8_costAt_28


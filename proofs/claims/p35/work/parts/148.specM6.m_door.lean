theorem dX8_door_0 : decode cX8_door 0 = .ok (.aload_n 0, 1) := by decide +kernel
theorem dX8_door_1 : decode cX8_door 1 = .ok (.iload_n 1, 1) := by decide +kernel
theorem dX8_door_2 : decode cX8_door 2 = .ok (.invokevirtual 206, 3) := by decide +kernel
theorem dX8_door_5 : decode cX8_door 5 = .ok (.ifCond .eq 12, 3) := by decide +kernel
theorem dX8_door_8 : decode cX8_door 8 = .ok (.aload_n 0, 1) := by decide +kernel
theorem dX8_door_9 : decode cX8_door 9 = .ok (.iload_n 1, 1) := by decide +kernel
theorem dX8_door_10 : decode cX8_door 10 = .ok (.iload_n 2, 1) := by decide +kernel
theorem dX8_door_11 : decode cX8_door 11 = .ok (.invokevirtual 215, 3) := by decide +kernel
theorem dX8_door_14 : decode cX8_door 14 = .ok (.ifCond .ne 7, 3) := by decide +kernel
theorem dX8_door_17 : decode cX8_door 17 = .ok (.sipush (-1001), 3) := by decide +kernel
theorem dX8_door_20 : decode cX8_door 20 = .ok (.ireturn, 1) := by decide +kernel
theorem dX8_door_21 : decode cX8_door 21 = .ok (.iload_n 3, 1) := by decide +kernel
theorem dX8_door_22 : decode cX8_door 22 = .ok (.ifCond .ne 17, 3) := by decide +kernel
theorem dX8_door_25 : decode cX8_door 25 = .ok (.aload_n 0, 1) := by decide +kernel
theorem dX8_door_26 : decode cX8_door 26 = .ok (.getfield 13, 3) := by decide +kernel
theorem dX8_door_29 : decode cX8_door 29 = .ok (.bipush 24, 2) := by decide +kernel
theorem dX8_door_31 : decode cX8_door 31 = .ok (.iload_n 1, 1) := by decide +kernel
theorem dX8_door_32 : decode cX8_door 32 = .ok (.imul, 1) := by decide +kernel
theorem dX8_door_33 : decode cX8_door 33 = .ok (.iload_n 2, 1) := by decide +kernel
theorem dX8_door_34 : decode cX8_door 34 = .ok (.iadd, 1) := by decide +kernel
theorem dX8_door_35 : decode cX8_door 35 = .ok (.iaload, 1) := by decide +kernel
theorem dX8_door_36 : decode cX8_door 36 = .ok (.goto 25, 3) := by decide +kernel
theorem dX8_door_39 : decode cX8_door 39 = .ok (.iload_n 3, 1) := by decide +kernel
theorem dX8_door_40 : decode cX8_door 40 = .ok (.iconst 1, 1) := by decide +kernel
theorem dX8_door_41 : decode cX8_door 41 = .ok (.if_icmp .ne 17, 3) := by decide +kernel
theorem dX8_door_44 : decode cX8_door 44 = .ok (.aload_n 0, 1) := by decide +kernel
theorem dX8_door_45 : decode cX8_door 45 = .ok (.getfield 16, 3) := by decide +kernel
theorem dX8_door_48 : decode cX8_door 48 = .ok (.bipush 24, 2) := by decide +kernel
theorem dX8_door_50 : decode cX8_door 50 = .ok (.iload_n 1, 1) := by decide +kernel
theorem dX8_door_51 : decode cX8_door 51 = .ok (.imul, 1) := by decide +kernel
theorem dX8_door_52 : decode cX8_door 52 = .ok (.iload_n 2, 1) := by decide +kernel
theorem dX8_door_53 : decode cX8_door 53 = .ok (.iadd, 1) := by decide +kernel
theorem dX8_door_54 : decode cX8_door 54 = .ok (.iaload, 1) := by decide +kernel
theorem dX8_door_55 : decode cX8_door 55 = .ok (.goto 6, 3) := by decide +kernel
theorem dX8_door_58 : decode cX8_door 58 = .ok (.sipush (-1002), 3) := by decide +kernel
theorem dX8_door_61 : decode cX8_door 61 = .ok (.ireturn, 1) := by decide +kernel
set_option maxHeartbeats 4000000 in
set_option maxRecDepth 100000 in
theorem m_door (l : Launch) (D : va_G) (k : Nat → ClassId) (st : Nat → Nat) (lo : Nat) (a : Nat → Nat) (tx : Nat) (t0 : Nat) (we : Nat) (rd : Nat) (ru : Nat) (rw : Nat) (ca : Nat) (fp : Int32) (wd : Int64) (nu : Int32) (na : Int32) (ts : Int32) (df : Int32) (db : Int32) (sd : Int32) (dn : Nat → Nat) (se : Nat → Nat) (tm : Nat → Nat) (gs : Nat → Int32) (ffrees : Nat → Int32) (fprices : Nat → Int32) (p0 : Int32) (p1 : Int32) (p2 : Int32) (hdn : ∀ j, dn j ≤ 24) (hse : ∀ j, se j ≤ 2) (htm : ∀ j, tm j ≤ 3) : CRi l D k st lo yX8_door cX8_door 4 (some .int) ({ frames := 2, cells := 0, slots := 0, locals := 47 }) [.ref (a 0), .int p0, .int p1, .int p2] [((a 0), .inr (8, [.ref (a 1), .ref (a 2), .ref (a 3), .ref (a 4), .ref (a 5), .int (nI tx), .int fp, .int (nI t0), .long wd, .int (nI we), .int nu, .int na, .int (nI rd), .ref (a 14), .ref (a 15), .ref (a 16), .int ts, .ref (a 18), .ref (a 19), .ref (a 20), .ref (a 21), .ref (a 22), .ref (a 23), .int (nI ru), .ref (a 25), .ref (a 26), .ref (a 27), .ref (a 28), .ref (a 29), .ref (a 30), .int (nI rw), .ref (a 32), .ref (a 33), .ref (a 34), .int (nI ca), .ref (a 36), .ref (a 37), .int df, .int db, .ref (a 40), .ref (a 41), .int sd, .ref (a 43), .ref (a 44)])), ((a 1), .inl (k 1, 3, .inl (nF dn))), ((a 4), .inl (k 1, 27, .inl (sg se tm gs))), ((a 2), .inl (k 1, 72, .inl ffrees)), ((a 3), .inl (k 1, 72, .inl fprices))] (fun r => True) := by
  intro sz
  refine Met.ofW (cc := cX8_door) (maxL := 4) (ret := (some .int)) (by decide) rfl ?_
  intro p e s m args below meth c s₁ B hml hv
  obtain ⟨rfl, hsz, hlo, hP, hK, hDL, hZ⟩ := hv
  have hx := B.exec
  have hb := B.bytes
  have hr := B.returns
  have hts := WS_ts B.pre
  have hown : s.vm.findClass RX8 = some m.cls := findClass_of_methodNamed B.named
  have hlocks := B.notSynchronized
  subst hsz
  have hA : ∀ q : Nat, s.heap.size ≤ q → (fun q : Nat => s.heap.size ≤ q) q := fun _ h => h
  have hAlo : ∀ q : Nat, (fun q : Nat => s.heap.size ≤ q) q → lo ≤ q := fun q h => Nat.le_trans hlo h
  have hS : va_S (fun q : Nat => s.heap.size ≤ q) s.heap s.heap [] := va_S.rf
  have hl := lv_entry ([.ref (a 0), .int p0, .int p1, .int p2]) (n := 4) (Nat.le_of_ble_eq_true rfl)
  rw [lg_entry_eq]
  generalize (lg_sl ([.ref (a 0), .int p0, .int p1, .int p2]) ++ List.replicate (4 - (lg_sl ([.ref (a 0), .int p0, .int p1, .int p2])).length) Slot.unset).toArray = ls at hl ⊢
  have hl : lv_has ls 4 [(0, .ref (a 0)), (1, .int p0), (2, .int p1), (3, .int p2)] := hl
  refine lv_aload_n hx hb dX8_door_0 rfl (lv_at hl 0 rfl) ?_
  refine lv_iload_n hx hb dX8_door_1 rfl (lv_at hl 1 rfl) ?_
  refine ro_i (D := D) (va_runV (As := [.int p0]) (rest := []) ⟨hx, hb, hml, hown, hts⟩ ((m_isStreet l D k st lo a tx t0 we rd ru rw ca fp wd nu na ts df db sd dn p0 hdn) s.heap.size) (cwV 1 hts (gV tw_1189 tw_1191 tw_38 tw_87 tw_1192) rfl rfl rfl (by decide +kernel) ⟨Nat.le_of_ble_eq_true rfl, Nat.le_of_ble_eq_true rfl⟩) (pV hS hAlo hlo hP hK hDL hZ [0, 1] (by decide) rfl (ci := 8) (q0 := 0) rfl rfl) rfl rfl hl.1 rfl (lv_room (Nat.le_of_ble_eq_true rfl)) dX8_door_2 ⟨Nat.le_of_ble_eq_true rfl, Nat.le_of_ble_eq_true rfl⟩) hS hA hP (fun r_1 H locs hw_1 hP hS => ?_)
  try dsimp only at hw_1
  rcases hw_1 with ⟨rfl, j_2, hj_2, rfl, hw_1⟩ | rfl
  · have hdj_2 := hdn j_2
    have htj_2 := htm j_2
    refine lv_if_eq (tgt := 17) hx hb dX8_door_5 (by decide) (fun h => absurd h (by decide)) (fun _ => ?_)
    refine lv_aload_n hx hb dX8_door_8 rfl (lv_at hl 0 rfl) ?_
    refine lv_iload_n hx hb dX8_door_9 rfl (lv_at hl 1 rfl) ?_
    refine lv_iload_n hx hb dX8_door_10 rfl (lv_at hl 2 rfl) ?_
    refine ro_i (D := D) (va_runV (As := [.int (nI j_2), .int p1]) (rest := []) ⟨hx, hb, hml, hown, hts⟩ ((m_isDoor l D k st lo a tx t0 we rd ru rw ca fp wd nu na ts df db sd dn j_2 p1 hdn (by omega)) H.size) (cwV 2 hts (gV tw_1202 tw_1204 tw_40 tw_87 tw_1205) rfl rfl rfl (by decide +kernel) ⟨Nat.le_of_ble_eq_true rfl, Nat.le_of_ble_eq_true rfl⟩) (pV hS hAlo hlo hP hK hDL hZ [0, 1] (by decide) rfl (ci := 8) (q0 := 0) rfl rfl) rfl rfl hl.1 rfl (lv_room (Nat.le_of_ble_eq_true rfl)) dX8_door_11 ⟨Nat.le_of_ble_eq_true rfl, Nat.le_of_ble_eq_true rfl⟩) hS hA hP (fun r_3 H locs hw_3 hP hS => ?_)
    try dsimp only at hw_3
    rcases hw_3 with ⟨rfl, j_4, hj_4, rfl, hw_3⟩ | rfl
    · refine lv_if_ne (tgt := 21) hx hb dX8_door_14 (by decide) (fun _ => ?_) (fun h => absurd h (by decide))
      refine lv_iload_n hx hb dX8_door_21 rfl (lv_at hl 3 rfl) ?_
      refine lv_if_ne (tgt := 39) hx hb dX8_door_22 (by decide) (fun c_5 => ?_) (fun c_5 => ?_)
      · refine lv_iload_n hx hb dX8_door_39 rfl (lv_at hl 3 rfl) ?_
        refine lv_iconst (v := 1) hx hb dX8_door_40 (by decide) ?_
        refine lv_icmp_ne (tgt := 58) hx hb dX8_door_41 (by decide) (fun c_6 => ?_) (fun c_6 => ?_)
        · refine lv_sipush (v := (-1002)) hx hb dX8_door_58 (by decide) ?_
          exact W.iret (v := (-1002)) hx hb hr (fun t ht hW => ⟨⟨(-1002), (), rfl, trivial, trivial⟩, hS.F ht⟩) hS.2.2 dX8_door_61
        · refine lv_aload_n hx hb dX8_door_44 rfl (lv_at hl 0 rfl) ?_
          refine va_get (D := D) (ci := 8) (v := .ref (a 3)) (C := RX8) (T := TX8) (N := 44) hx hb hts inX8 hown hK hP 0 rfl rfl 2 (by decide) (hts _ tw_975) (fun _ h9 => h9) rfl dX8_door_45 ?_
          refine lv_bipush (v := 24) hx hb dX8_door_48 (by decide) ?_
          refine lv_iload_n hx hb dX8_door_50 rfl (lv_at hl 1 rfl) ?_
          refine lv_imul hx hb dX8_door_51 ?_
          refine lv_ti (y := (nI (24 * j_2))) (pk_mul 24 j_2) ?_
          refine lv_iload_n hx hb dX8_door_52 rfl (lv_at hl 2 rfl) ?_
          refine lv_iadd hx hb dX8_door_53 ?_
          refine lv_ti (y := (nI (24 * j_2 + j_4))) (nI_add (24 * j_2) j_4) ?_
          refine va_iald hx hb hK hP 4 1 rfl rfl (vp_in_nI (by omega) (by decide)) dX8_door_54 ?_
          refine lv_ti (y := (fprices (24 * j_2 + j_4))) (by rw [nI_clamp (by omega)]) ?_
          refine lv_goto (tgt := 61) hx hb dX8_door_55 (by decide) ?_
          exact W.iret (v := (fprices (24 * j_2 + j_4))) hx hb hr (fun t ht hW => ⟨⟨(fprices (24 * j_2 + j_4)), (), rfl, trivial, trivial⟩, hS.F ht⟩) hS.2.2 dX8_door_61
      · refine lv_aload_n hx hb dX8_door_25 rfl (lv_at hl 0 rfl) ?_
        refine va_get (D := D) (ci := 8) (v := .ref (a 2)) (C := RX8) (T := TX8) (N := 44) hx hb hts inX8 hown hK hP 0 rfl rfl 1 (by decide) (hts _ tw_974) (fun _ h9 => h9) rfl dX8_door_26 ?_
        refine lv_bipush (v := 24) hx hb dX8_door_29 (by decide) ?_
        refine lv_iload_n hx hb dX8_door_31 rfl (lv_at hl 1 rfl) ?_
        refine lv_imul hx hb dX8_door_32 ?_
        refine lv_ti (y := (nI (24 * j_2))) (pk_mul 24 j_2) ?_
        refine lv_iload_n hx hb dX8_door_33 rfl (lv_at hl 2 rfl) ?_
        refine lv_iadd hx hb dX8_door_34 ?_
        refine lv_ti (y := (nI (24 * j_2 + j_4))) (nI_add (24 * j_2) j_4) ?_
        refine va_iald hx hb hK hP 3 1 rfl rfl (vp_in_nI (by omega) (by decide)) dX8_door_35 ?_
        refine lv_ti (y := (ffrees (24 * j_2 + j_4))) (by rw [nI_clamp (by omega)]) ?_
        refine lv_goto (tgt := 61) hx hb dX8_door_36 (by decide) ?_
        exact W.iret (v := (ffrees (24 * j_2 + j_4))) hx hb hr (fun t ht hW => ⟨⟨(ffrees (24 * j_2 + j_4)), (), rfl, trivial, trivial⟩, hS.F ht⟩) hS.2.2 dX8_door_61
    · refine lv_if_ne (tgt := 21) hx hb dX8_door_14 (by decide) (fun h => absurd (by decide) h) (fun _ => ?_)
      refine lv_sipush (v := (-1001)) hx hb dX8_door_17 (by decide) ?_
      exact W.iret (v := (-1001)) hx hb hr (fun t ht hW => ⟨⟨(-1001), (), rfl, trivial, trivial⟩, hS.F ht⟩) hS.2.2 dX8_door_20
  · refine lv_if_eq (tgt := 17) hx hb dX8_door_5 (by decide) (fun _ => ?_) (fun h => absurd (by decide) h)
    refine lv_sipush (v := (-1001)) hx hb dX8_door_17 (by decide) ?_
    exact W.iret (v := (-1001)) hx hb hr (fun t ht hW => ⟨⟨(-1001), (), rfl, trivial, trivial⟩, hS.F ht⟩) hS.2.2 dX8_door_20


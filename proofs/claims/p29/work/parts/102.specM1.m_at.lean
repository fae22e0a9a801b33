theorem dX8_at_0 : decode cX8_at 0 = .ok (.sipush 192, 3) := by decide +kernel
theorem dX8_at_3 : decode cX8_at 3 = .ok (.iload_n 0, 1) := by decide +kernel
theorem dX8_at_4 : decode cX8_at 4 = .ok (.imul, 1) := by decide +kernel
theorem dX8_at_5 : decode cX8_at 5 = .ok (.bipush 8, 2) := by decide +kernel
theorem dX8_at_7 : decode cX8_at 7 = .ok (.iload_n 1, 1) := by decide +kernel
theorem dX8_at_8 : decode cX8_at 8 = .ok (.imul, 1) := by decide +kernel
theorem dX8_at_9 : decode cX8_at 9 = .ok (.iadd, 1) := by decide +kernel
theorem dX8_at_10 : decode cX8_at 10 = .ok (.iload_n 2, 1) := by decide +kernel
theorem dX8_at_11 : decode cX8_at 11 = .ok (.iadd, 1) := by decide +kernel
theorem dX8_at_12 : decode cX8_at 12 = .ok (.ireturn, 1) := by decide +kernel
set_option maxHeartbeats 4000000 in
set_option maxRecDepth 100000 in
theorem m_at (l : Launch) (D : va_G) (k : Nat → ClassId) (st : Nat → Nat) (lo : Nat) (r : Nat) (i : Nat) (g : Nat)  : CRi l D k st lo yX8_at cX8_at 3 (some .int) ({ frames := 0, cells := 0, slots := 0, locals := 0 }) [.int (nI r), .int (nI i), .int (nI g)] [] (fun x => x = nI (192 * r + 8 * i + g)) := by
  intro sz
  refine Met.ofW (cc := cX8_at) (maxL := 3) (ret := (some .int)) (by decide) rfl ?_
  intro p e s m args below meth c s₁ B hml hv
  obtain ⟨rfl, hsz, hlo, hP, hK, hDL, hZ⟩ := hv
  have hx := B.exec
  have hb := B.bytes
  have hr := B.returns
  have hts := WS_ts B.pre
  have hown : s.vm.findClass RX8 = some m.cls := findClass_of_methodNamed B.named
  have hlocks := B.notSynchronized
  subst hsz
  have hA : ∀ q : Nat, s.heap.size ≤ q → (fun q : Nat => s.heap.size ≤ q) q := fun _ h => h
  have hAlo : ∀ q : Nat, (fun q : Nat => s.heap.size ≤ q) q → lo ≤ q := fun q h => Nat.le_trans hlo h
  have hS : va_S (fun q : Nat => s.heap.size ≤ q) s.heap s.heap [] := va_S.rf
  have hl := lv_entry ([.int (nI r), .int (nI i), .int (nI g)]) (n := 3) (Nat.le_of_ble_eq_true rfl)
  rw [lg_entry_eq]
  generalize (lg_sl ([.int (nI r), .int (nI i), .int (nI g)]) ++ List.replicate (3 - (lg_sl ([.int (nI r), .int (nI i), .int (nI g)])).length) Slot.unset).toArray = ls at hl ⊢
  have hl : lv_has ls 3 [(0, .int (nI r)), (1, .int (nI i)), (2, .int (nI g))] := hl
  refine lv_sipush (v := 192) hx hb dX8_at_0 (by decide) ?_
  refine lv_iload_n hx hb dX8_at_3 rfl (lv_at hl 0 rfl) ?_
  refine lv_imul hx hb dX8_at_4 ?_
  refine lv_ti (y := (nI (192 * r))) (pk_mul 192 r) ?_
  refine lv_bipush (v := 8) hx hb dX8_at_5 (by decide) ?_
  refine lv_iload_n hx hb dX8_at_7 rfl (lv_at hl 1 rfl) ?_
  refine lv_imul hx hb dX8_at_8 ?_
  refine lv_ti (y := (nI (8 * i))) (pk_mul 8 i) ?_
  refine lv_iadd hx hb dX8_at_9 ?_
  refine lv_ti (y := (nI (192 * r + 8 * i))) (nI_add (192 * r) (8 * i)) ?_
  refine lv_iload_n hx hb dX8_at_10 rfl (lv_at hl 2 rfl) ?_
  refine lv_iadd hx hb dX8_at_11 ?_
  refine lv_ti (y := (nI (192 * r + 8 * i + g))) (nI_add (192 * r + 8 * i) g) ?_
  exact W.iret (v := (nI (192 * r + 8 * i + g))) hx hb hr (fun t ht hW => ⟨⟨(nI (192 * r + 8 * i + g)), (), rfl, rfl, trivial⟩, hS.F ht⟩) hS.2.2 dX8_at_12

theorem f_m_mixed_rows : True := trivial
theorem dX8_mixed_0 : decode cX8_mixed 0 = .ok (.iload_n 0, 1) := by decide +kernel
theorem dX8_mixed_1 : decode cX8_mixed 1 = .ok (.i2l, 1) := by decide +kernel
theorem dX8_mixed_2 : decode cX8_mixed 2 = .ok (.iload_n 1, 1) := by decide +kernel
theorem dX8_mixed_3 : decode cX8_mixed 3 = .ok (.i2l, 1) := by decide +kernel
theorem dX8_mixed_4 : decode cX8_mixed 4 = .ok (.lmul, 1) := by decide +kernel
theorem dX8_mixed_5 : decode cX8_mixed 5 = .ok (.ldc2_w 240, 3) := by decide +kernel
theorem dX8_mixed_8 : decode cX8_mixed 8 = .ok (.iload_n 0, 1) := by decide +kernel
theorem dX8_mixed_9 : decode cX8_mixed 9 = .ok (.i2l, 1) := by decide +kernel
theorem dX8_mixed_10 : decode cX8_mixed 10 = .ok (.lsub, 1) := by decide +kernel
theorem dX8_mixed_11 : decode cX8_mixed 11 = .ok (.iload_n 2, 1) := by decide +kernel
theorem dX8_mixed_12 : decode cX8_mixed 12 = .ok (.i2l, 1) := by decide +kernel
theorem dX8_mixed_13 : decode cX8_mixed 13 = .ok (.lmul, 1) := by decide +kernel
theorem dX8_mixed_14 : decode cX8_mixed 14 = .ok (.ladd, 1) := by decide +kernel
theorem dX8_mixed_15 : decode cX8_mixed 15 = .ok (.ldc2_w 240, 3) := by decide +kernel
theorem dX8_mixed_18 : decode cX8_mixed 18 = .ok (.ldiv, 1) := by decide +kernel
theorem dX8_mixed_19 : decode cX8_mixed 19 = .ok (.l2i, 1) := by decide +kernel
theorem dX8_mixed_20 : decode cX8_mixed 20 = .ok (.ireturn, 1) := by decide +kernel
theorem dX8_of_0 : decode cX8_of 0 = .ok (.aload_n 0, 1) := by decide +kernel
theorem dX8_of_1 : decode cX8_of 1 = .ok (.getfield 19, 3) := by decide +kernel
theorem dX8_of_4 : decode cX8_of 4 = .ok (.bipush 9, 2) := by decide +kernel
theorem dX8_of_6 : decode cX8_of 6 = .ok (.iload_n 1, 1) := by decide +kernel
theorem dX8_of_7 : decode cX8_of 7 = .ok (.imul, 1) := by decide +kernel
theorem dX8_of_8 : decode cX8_of 8 = .ok (.iload_n 2, 1) := by decide +kernel
theorem dX8_of_9 : decode cX8_of 9 = .ok (.iadd, 1) := by decide +kernel
theorem dX8_of_10 : decode cX8_of 10 = .ok (.iaload, 1) := by decide +kernel
theorem dX8_of_11 : decode cX8_of 11 = .ok (.ireturn, 1) := by decide +kernel
set_option maxHeartbeats 4000000 in
set_option maxRecDepth 100000 in
theorem m_of (l : Launch) (D : va_G) (k : Nat → ClassId) (st : Nat → Nat) (lo : Nat) (a : Nat → Nat) (tx : Nat) (t0 : Nat) (we : Nat) (rd : Nat) (ru : Nat) (rw : Nat) (ca : Nat) (fp : Int32) (wd : Int64) (nu : Int32) (na : Int32) (ts : Int32) (df : Int32) (db : Int32) (sd : Int32) (se : Nat → Nat) (tm : Nat → Nat) (gs : Nat → Int32) (sn : Nat) (w : Nat)  (hs : sn < 3) (hw9 : w < 9) : CRi l D k st lo yX8_of cX8_of 3 (some .int) ({ frames := 0, cells := 0, slots := 0, locals := 0 }) [.ref (a 0), .int (nI sn), .int (nI w)] [((a 0), .inr (8, (fX8 a (nI tx) fp (nI t0) wd (nI we) nu na (nI rd) ts (nI ru) (nI rw) (nI ca) df db sd))), (aI k (a 4) 27 (sg se tm gs))] (fun r => r = sg se tm gs (9 * sn + w)) := by
  intro sz
  refine Met.ofW (cc := cX8_of) (maxL := 3) (ret := (some .int)) (by decide) rfl ?_
  intro p e s m args below meth c s₁ B hml hv
  obtain ⟨rfl, hsz, hlo, hP, hK, hDL, hZ⟩ := hv
  have hx := B.exec
  have hb := B.bytes
  have hr := B.returns
  have hts := WS_ts B.pre
  have hown : s.vm.findClass RX8 = some m.cls := findClass_of_methodNamed B.named
  have hlocks := B.notSynchronized
  subst hsz
  have hA : ∀ q : Nat, s.heap.size ≤ q → (fun q : Nat => s.heap.size ≤ q) q := fun _ h => h
  have hAlo : ∀ q : Nat, (fun q : Nat => s.heap.size ≤ q) q → lo ≤ q := fun q h => Nat.le_trans hlo h
  have hS : va_S (fun q : Nat => s.heap.size ≤ q) s.heap s.heap [] := va_S.rf
  have hl := lv_entry ([.ref (a 0), .int (nI sn), .int (nI w)]) (n := 3) (Nat.le_of_ble_eq_true rfl)
  rw [lg_entry_eq]
  generalize (lg_sl ([.ref (a 0), .int (nI sn), .int (nI w)]) ++ List.replicate (3 - (lg_sl ([.ref (a 0), .int (nI sn), .int (nI w)])).length) Slot.unset).toArray = ls at hl ⊢
  have hl : lv_has ls 3 [(0, .ref (a 0)), (1, .int (nI sn)), (2, .int (nI w))] := hl
  refine lv_aload_n hx hb dX8_of_0 rfl (lv_at hl 0 rfl) ?_
  refine va_get (D := D) (ci := 8) (v := .ref (a 4)) (C := RX8) (T := TX8) (N := 44) hx hb hts inX8 hown hK hP 0 rfl rfl 3 (by decide) (hts _ tw_976) (fun _ h9 => h9) rfl dX8_of_1 ?_
  refine lv_bipush (v := 9) hx hb dX8_of_4 (by decide) ?_
  refine lv_iload_n hx hb dX8_of_6 rfl (lv_at hl 1 rfl) ?_
  refine lv_imul hx hb dX8_of_7 ?_
  refine lv_ti (y := (nI (9 * sn))) (pk_mul 9 sn) ?_
  refine lv_iload_n hx hb dX8_of_8 rfl (lv_at hl 2 rfl) ?_
  refine lv_iadd hx hb dX8_of_9 ?_
  refine lv_ti (y := (nI (9 * sn + w))) (nI_add (9 * sn) w) ?_
  refine va_iald hx hb hK hP 1 1 rfl rfl (vp_in_nI (by omega) (by decide)) dX8_of_10 ?_
  refine lv_ti (y := ((sg se tm gs) (9 * sn + w))) (by rw [nI_clamp (by omega)]) ?_
  exact W.iret (v := ((sg se tm gs) (9 * sn + w))) hx hb hr (fun t ht hW => ⟨⟨((sg se tm gs) (9 * sn + w)), (), rfl, rfl, trivial⟩, hS.F ht⟩) hS.2.2 dX8_of_11

theorem dX8_isStreet_0 : decode cX8_isStreet 0 = .ok (.iload_n 1, 1) := by decide +kernel
theorem dX8_isStreet_1 : decode cX8_isStreet 1 = .ok (.i2l, 1) := by decide +kernel
theorem dX8_isStreet_2 : decode cX8_isStreet 2 = .ok (.lconst 0, 1) := by decide +kernel
theorem dX8_isStreet_3 : decode cX8_isStreet 3 = .ok (.ldc2_w 105, 3) := by decide +kernel
theorem dX8_isStreet_6 : decode cX8_isStreet 6 = .ok (.invokestatic 107, 3) := by decide +kernel
theorem dX8_isStreet_9 : decode cX8_isStreet 9 = .ok (.ifCond .eq 16, 3) := by decide +kernel
theorem dX8_isStreet_12 : decode cX8_isStreet 12 = .ok (.aload_n 0, 1) := by decide +kernel
theorem dX8_isStreet_13 : decode cX8_isStreet 13 = .ok (.getfield 7, 3) := by decide +kernel
theorem dX8_isStreet_16 : decode cX8_isStreet 16 = .ok (.iload_n 1, 1) := by decide +kernel
theorem dX8_isStreet_17 : decode cX8_isStreet 17 = .ok (.iaload, 1) := by decide +kernel
theorem dX8_isStreet_18 : decode cX8_isStreet 18 = .ok (.ifCond .le 7, 3) := by decide +kernel
theorem dX8_isStreet_21 : decode cX8_isStreet 21 = .ok (.iconst 1, 1) := by decide +kernel
theorem dX8_isStreet_22 : decode cX8_isStreet 22 = .ok (.goto 4, 3) := by decide +kernel
theorem dX8_isStreet_25 : decode cX8_isStreet 25 = .ok (.iconst 0, 1) := by decide +kernel
theorem dX8_isStreet_26 : decode cX8_isStreet 26 = .ok (.ireturn, 1) := by decide +kernel
set_option maxHeartbeats 4000000 in
set_option maxRecDepth 100000 in
theorem m_isStreet (l : Launch) (D : va_G) (k : Nat → ClassId) (st : Nat → Nat) (lo : Nat) (a : Nat → Nat) (tx : Nat) (t0 : Nat) (we : Nat) (rd : Nat) (ru : Nat) (rw : Nat) (ca : Nat) (fp : Int32) (wd : Int64) (nu : Int32) (na : Int32) (ts : Int32) (df : Int32) (db : Int32) (sd : Int32) (dn : Nat → Nat) (pz : Int32) (hdn : ∀ j, dn j ≤ 24) : CRi l D k st lo yX8_isStreet cX8_isStreet 2 (some .boolean) ({ frames := 1, cells := 0, slots := 0, locals := 25 }) [.ref (a 0), .int pz] [((a 0), .inr (8, (fX8 a (nI tx) fp (nI t0) wd (nI we) nu na (nI rd) ts (nI ru) (nI rw) (nI ca) df db sd))), (aI k (a 1) 3 (nF dn))] (fun r => (r = 1 ∧ ∃ j : Nat, j < 3 ∧ pz = nI j ∧ 0 < dn j) ∨ r = 0) := by
  intro sz
  refine Met.ofW (cc := cX8_isStreet) (maxL := 2) (ret := (some .boolean)) (by decide) rfl ?_
  intro p e s m args below meth c s₁ B hml hv
  obtain ⟨rfl, hsz, hlo, hP, hK, hDL, hZ⟩ := hv
  have hx := B.exec
  have hb := B.bytes
  have hr := B.returns
  have hts := WS_ts B.pre
  have hown : s.vm.findClass RX8 = some m.cls := findClass_of_methodNamed B.named
  have hlocks := B.notSynchronized
  subst hsz
  have hA : ∀ q : Nat, s.heap.size ≤ q → (fun q : Nat => s.heap.size ≤ q) q := fun _ h => h
  have hAlo : ∀ q : Nat, (fun q : Nat => s.heap.size ≤ q) q → lo ≤ q := fun q h => Nat.le_trans hlo h
  have hS : va_S (fun q : Nat => s.heap.size ≤ q) s.heap s.heap [] := va_S.rf
  have hl := lv_entry ([.ref (a 0), .int pz]) (n := 2) (Nat.le_of_ble_eq_true rfl)
  rw [lg_entry_eq]
  generalize (lg_sl ([.ref (a 0), .int pz]) ++ List.replicate (2 - (lg_sl ([.ref (a 0), .int pz])).length) Slot.unset).toArray = ls at hl ⊢
  have hl : lv_has ls 2 [(0, .ref (a 0)), (1, .int pz)] := hl
  refine lv_iload_n hx hb dX8_isStreet_0 rfl (lv_at hl 1 rfl) ?_
  refine lv_i2l (v := pz.toInt64) hx hb dX8_isStreet_1 rfl ?_
  refine lv_lconst (v := (0 : Int32).toInt64) hx hb dX8_isStreet_2 (by decide) ?_
  refine lv_ldc2 hx hb hown (hts _ tw_1119) dX8_isStreet_3 ?_
  refine lv_tl (y := ((2 : Int32).toInt64)) (by decide) ?_
  refine ro_i (D := D) (va_runS (As := [.long (pz.toInt64), .long ((0 : Int32).toInt64), .long ((2 : Int32).toInt64)]) (rest := []) ⟨hx, hb, hml, hown, hts⟩ ((k_in l D k st lo pz (0 : Int32) (2 : Int32)) s.heap.size) (va_cwS 3 hts (gS tw_1111 tw_1112 tw_87 tw_1113) rfl rfl rfl (by decide +kernel) ⟨Nat.le_of_ble_eq_true rfl, Nat.le_of_ble_eq_true rfl⟩) (pS hS hAlo hlo hP hK hDL hZ [] (by decide) rfl) rfl rfl hl.1 rfl (lv_room (Nat.le_of_ble_eq_true rfl)) dX8_isStreet_6 ⟨Nat.le_of_ble_eq_true rfl, Nat.le_of_ble_eq_true rfl⟩) hS hA hP (fun r_1 H locs hw_1 hP hS => ?_)
  try dsimp only at hw_1
  rcases hw_1 with ⟨rfl, hw_1⟩ | ⟨rfl, hw_1⟩
  · refine lv_if_eq (tgt := 25) hx hb dX8_isStreet_9 (by decide) (fun h => absurd h (by decide)) (fun _ => ?_)
    obtain ⟨j_9, -, hj_9, rfl⟩ := inB_ofc (a := 0) (b := 2) (by omega) (by omega) hw_1
    have hd_9 := hdn j_9
    refine lv_aload_n hx hb dX8_isStreet_12 rfl (lv_at hl 0 rfl) ?_
    refine va_get (D := D) (ci := 8) (v := .ref (a 1)) (C := RX8) (T := TX8) (N := 44) hx hb hts inX8 hown hK hP 0 rfl rfl 0 (by decide) (hts _ tw_973) (fun _ h9 => h9) rfl dX8_isStreet_13 ?_
    refine lv_iload_n hx hb dX8_isStreet_16 rfl (lv_at hl 1 rfl) ?_
    refine va_iald hx hb hK hP 1 1 rfl rfl (vp_in_nI (by omega) (by decide)) dX8_isStreet_17 ?_
    refine lv_ti (y := (nI (dn j_9))) (by rw [nI_clamp (by omega)]; rfl) ?_
    refine lv_if_le (tgt := 25) hx hb dX8_isStreet_18 (by decide) (fun c_2 => ?_) (fun c_2 => ?_)
    · have c_2 := (nI_leI (a := (dn j_9)) (b := 0) (by omega) (by omega)).mp c_2
      refine lv_iconst (v := 0) hx hb dX8_isStreet_25 (by decide) ?_
      exact W.zret (v := 0) (ty := .boolean) hx hb hr rfl (fun t ht hW => ⟨⟨0, (), rfl, .inr rfl, trivial⟩, hS.F ht⟩) hS.2.2 dX8_isStreet_26
    · have c_2 : ¬ ((dn j_9) ≤ 0) := fun h => c_2 ((nI_leI (a := (dn j_9)) (b := 0) (by omega) (by omega)).mpr h)
      refine lv_iconst (v := 1) hx hb dX8_isStreet_21 (by decide) ?_
      refine lv_goto (tgt := 26) hx hb dX8_isStreet_22 (by decide) ?_
      exact W.zret (v := 1) (ty := .boolean) hx hb hr rfl (fun t ht hW => ⟨⟨1, (), rfl, .inl ⟨rfl, j_9, by omega, rfl, by omega⟩, trivial⟩, hS.F ht⟩) hS.2.2 dX8_isStreet_26
  · refine lv_if_eq (tgt := 25) hx hb dX8_isStreet_9 (by decide) (fun _ => ?_) (fun h => absurd (by decide) h)
    refine lv_iconst (v := 0) hx hb dX8_isStreet_25 (by decide) ?_
    exact W.zret (v := 0) (ty := .boolean) hx hb hr rfl (fun t ht hW => ⟨⟨0, (), rfl, .inr rfl, trivial⟩, hS.F ht⟩) hS.2.2 dX8_isStreet_26

theorem f_m_isDoor_rows : True := trivial
theorem dX8_isDoor_0 : decode cX8_isDoor 0 = .ok (.iload_n 2, 1) := by decide +kernel
theorem dX8_isDoor_1 : decode cX8_isDoor 1 = .ok (.i2l, 1) := by decide +kernel
theorem dX8_isDoor_2 : decode cX8_isDoor 2 = .ok (.lconst 0, 1) := by decide +kernel
theorem dX8_isDoor_3 : decode cX8_isDoor 3 = .ok (.aload_n 0, 1) := by decide +kernel
theorem dX8_isDoor_4 : decode cX8_isDoor 4 = .ok (.getfield 7, 3) := by decide +kernel
theorem dX8_isDoor_7 : decode cX8_isDoor 7 = .ok (.iload_n 1, 1) := by decide +kernel
theorem dX8_isDoor_8 : decode cX8_isDoor 8 = .ok (.iaload, 1) := by decide +kernel
theorem dX8_isDoor_9 : decode cX8_isDoor 9 = .ok (.iconst 1, 1) := by decide +kernel
theorem dX8_isDoor_10 : decode cX8_isDoor 10 = .ok (.isub, 1) := by decide +kernel
theorem dX8_isDoor_11 : decode cX8_isDoor 11 = .ok (.i2l, 1) := by decide +kernel
theorem dX8_isDoor_12 : decode cX8_isDoor 12 = .ok (.invokestatic 107, 3) := by decide +kernel
theorem dX8_isDoor_15 : decode cX8_isDoor 15 = .ok (.ireturn, 1) := by decide +kernel
theorem f_m_isRound_rows : True := trivial
theorem dX8_isRound_0 : decode cX8_isRound 0 = .ok (.iload_n 2, 1) := by decide +kernel
theorem dX8_isRound_1 : decode cX8_isRound 1 = .ok (.i2l, 1) := by decide +kernel
theorem dX8_isRound_2 : decode cX8_isRound 2 = .ok (.lconst 0, 1) := by decide +kernel
theorem dX8_isRound_3 : decode cX8_isRound 3 = .ok (.aload_n 0, 1) := by decide +kernel
theorem dX8_isRound_4 : decode cX8_isRound 4 = .ok (.iload_n 1, 1) := by decide +kernel
theorem dX8_isRound_5 : decode cX8_isRound 5 = .ok (.bipush 7, 2) := by decide +kernel
theorem dX8_isRound_7 : decode cX8_isRound 7 = .ok (.invokevirtual 212, 3) := by decide +kernel
theorem dX8_isRound_10 : decode cX8_isRound 10 = .ok (.i2l, 1) := by decide +kernel
theorem dX8_isRound_11 : decode cX8_isRound 11 = .ok (.invokestatic 107, 3) := by decide +kernel
theorem dX8_isRound_14 : decode cX8_isRound 14 = .ok (.ireturn, 1) := by decide +kernel
theorem f_m_seen_rows : True := trivial
theorem dX8_seen_0 : decode cX8_seen 0 = .ok (.aload_n 0, 1) := by decide +kernel
theorem dX8_seen_1 : decode cX8_seen 1 = .ok (.getfield 7, 3) := by decide +kernel
theorem dX8_seen_4 : decode cX8_seen 4 = .ok (.iload_n 1, 1) := by decide +kernel
theorem dX8_seen_5 : decode cX8_seen 5 = .ok (.iaload, 1) := by decide +kernel
theorem dX8_seen_6 : decode cX8_seen 6 = .ok (.iload_n 2, 1) := by decide +kernel
theorem dX8_seen_7 : decode cX8_seen 7 = .ok (.isub, 1) := by decide +kernel
theorem dX8_seen_8 : decode cX8_seen 8 = .ok (.istore_n 3, 1) := by decide +kernel
theorem dX8_seen_9 : decode cX8_seen 9 = .ok (.iload_n 3, 1) := by decide +kernel
theorem dX8_seen_10 : decode cX8_seen 10 = .ok (.aload_n 0, 1) := by decide +kernel
theorem dX8_seen_11 : decode cX8_seen 11 = .ok (.iload_n 1, 1) := by decide +kernel
theorem dX8_seen_12 : decode cX8_seen 12 = .ok (.iconst 5, 1) := by decide +kernel
theorem dX8_seen_13 : decode cX8_seen 13 = .ok (.invokevirtual 212, 3) := by decide +kernel
theorem dX8_seen_16 : decode cX8_seen 16 = .ok (.iconst 1, 1) := by decide +kernel
theorem dX8_seen_17 : decode cX8_seen 17 = .ok (.iadd, 1) := by decide +kernel
theorem dX8_seen_18 : decode cX8_seen 18 = .ok (.if_icmp .ge 7, 3) := by decide +kernel
theorem dX8_seen_21 : decode cX8_seen 21 = .ok (.iload_n 3, 1) := by decide +kernel
theorem dX8_seen_22 : decode cX8_seen 22 = .ok (.goto 11, 3) := by decide +kernel
theorem dX8_seen_25 : decode cX8_seen 25 = .ok (.aload_n 0, 1) := by decide +kernel
theorem dX8_seen_26 : decode cX8_seen 26 = .ok (.iload_n 1, 1) := by decide +kernel
theorem dX8_seen_27 : decode cX8_seen 27 = .ok (.iconst 5, 1) := by decide +kernel
theorem dX8_seen_28 : decode cX8_seen 28 = .ok (.invokevirtual 212, 3) := by decide +kernel
theorem dX8_seen_31 : decode cX8_seen 31 = .ok (.iconst 1, 1) := by decide +kernel
theorem dX8_seen_32 : decode cX8_seen 32 = .ok (.iadd, 1) := by decide +kernel
theorem dX8_seen_33 : decode cX8_seen 33 = .ok (.ireturn, 1) := by decide +kernel
theorem f_m_chanceOf_rows : True := trivial
theorem dX8_chanceOf_0 : decode cX8_chanceOf 0 = .ok (.aload_n 0, 1) := by decide +kernel
theorem dX8_chanceOf_1 : decode cX8_chanceOf 1 = .ok (.getfield 13, 3) := by decide +kernel
theorem dX8_chanceOf_4 : decode cX8_chanceOf 4 = .ok (.bipush 24, 2) := by decide +kernel
theorem dX8_chanceOf_6 : decode cX8_chanceOf 6 = .ok (.iload_n 1, 1) := by decide +kernel
theorem dX8_chanceOf_7 : decode cX8_chanceOf 7 = .ok (.imul, 1) := by decide +kernel
theorem dX8_chanceOf_8 : decode cX8_chanceOf 8 = .ok (.iload_n 2, 1) := by decide +kernel
theorem dX8_chanceOf_9 : decode cX8_chanceOf 9 = .ok (.iadd, 1) := by decide +kernel
theorem dX8_chanceOf_10 : decode cX8_chanceOf 10 = .ok (.iaload, 1) := by decide +kernel
theorem dX8_chanceOf_11 : decode cX8_chanceOf 11 = .ok (.istore 4, 2) := by decide +kernel
theorem dX8_chanceOf_13 : decode cX8_chanceOf 13 = .ok (.iload_n 2, 1) := by decide +kernel
theorem dX8_chanceOf_14 : decode cX8_chanceOf 14 = .ok (.ifCond .ne 8, 3) := by decide +kernel
theorem dX8_chanceOf_17 : decode cX8_chanceOf 17 = .ok (.iload 4, 2) := by decide +kernel
theorem dX8_chanceOf_19 : decode cX8_chanceOf 19 = .ok (.goto 28, 3) := by decide +kernel
theorem dX8_chanceOf_22 : decode cX8_chanceOf 22 = .ok (.iload_n 3, 1) := by decide +kernel
theorem dX8_chanceOf_23 : decode cX8_chanceOf 23 = .ok (.ifCond .eq 15, 3) := by decide +kernel
theorem dX8_chanceOf_26 : decode cX8_chanceOf 26 = .ok (.iload 4, 2) := by decide +kernel
theorem dX8_chanceOf_28 : decode cX8_chanceOf 28 = .ok (.aload_n 0, 1) := by decide +kernel
theorem dX8_chanceOf_29 : decode cX8_chanceOf 29 = .ok (.iload_n 1, 1) := by decide +kernel
theorem dX8_chanceOf_30 : decode cX8_chanceOf 30 = .ok (.iconst 0, 1) := by decide +kernel
theorem dX8_chanceOf_31 : decode cX8_chanceOf 31 = .ok (.invokevirtual 212, 3) := by decide +kernel
theorem dX8_chanceOf_34 : decode cX8_chanceOf 34 = .ok (.iadd, 1) := by decide +kernel
theorem dX8_chanceOf_35 : decode cX8_chanceOf 35 = .ok (.goto 12, 3) := by decide +kernel
theorem dX8_chanceOf_38 : decode cX8_chanceOf 38 = .ok (.iload 4, 2) := by decide +kernel
theorem dX8_chanceOf_40 : decode cX8_chanceOf 40 = .ok (.aload_n 0, 1) := by decide +kernel
theorem dX8_chanceOf_41 : decode cX8_chanceOf 41 = .ok (.iload_n 1, 1) := by decide +kernel
theorem dX8_chanceOf_42 : decode cX8_chanceOf 42 = .ok (.iconst 0, 1) := by decide +kernel
theorem dX8_chanceOf_43 : decode cX8_chanceOf 43 = .ok (.invokevirtual 212, 3) := by decide +kernel
theorem dX8_chanceOf_46 : decode cX8_chanceOf 46 = .ok (.isub, 1) := by decide +kernel
theorem dX8_chanceOf_47 : decode cX8_chanceOf 47 = .ok (.istore 5, 2) := by decide +kernel
theorem dX8_chanceOf_49 : decode cX8_chanceOf 49 = .ok (.iload 5, 2) := by decide +kernel
theorem dX8_chanceOf_51 : decode cX8_chanceOf 51 = .ok (.ifCond .ge 7, 3) := by decide +kernel
theorem dX8_chanceOf_54 : decode cX8_chanceOf 54 = .ok (.iconst 0, 1) := by decide +kernel
theorem dX8_chanceOf_55 : decode cX8_chanceOf 55 = .ok (.goto 17, 3) := by decide +kernel
theorem dX8_chanceOf_58 : decode cX8_chanceOf 58 = .ok (.iload 5, 2) := by decide +kernel
theorem dX8_chanceOf_60 : decode cX8_chanceOf 60 = .ok (.bipush 100, 2) := by decide +kernel
theorem dX8_chanceOf_62 : decode cX8_chanceOf 62 = .ok (.if_icmp .le 8, 3) := by decide +kernel
theorem dX8_chanceOf_65 : decode cX8_chanceOf 65 = .ok (.bipush 100, 2) := by decide +kernel
theorem dX8_chanceOf_67 : decode cX8_chanceOf 67 = .ok (.goto 5, 3) := by decide +kernel
theorem dX8_chanceOf_70 : decode cX8_chanceOf 70 = .ok (.iload 5, 2) := by decide +kernel
theorem dX8_chanceOf_72 : decode cX8_chanceOf 72 = .ok (.ireturn, 1) := by decide +kernel
theorem dX8_tick_0 : decode cX8_tick 0 = .ok (.iload_n 2, 1) := by decide +kernel
theorem dX8_tick_1 : decode cX8_tick 1 = .ok (.aload_n 0, 1) := by decide +kernel
theorem dX8_tick_2 : decode cX8_tick 2 = .ok (.getfield 7, 3) := by decide +kernel
theorem dX8_tick_5 : decode cX8_tick 5 = .ok (.iload_n 1, 1) := by decide +kernel
theorem dX8_tick_6 : decode cX8_tick 6 = .ok (.iaload, 1) := by decide +kernel
theorem dX8_tick_7 : decode cX8_tick 7 = .ok (.aload_n 0, 1) := by decide +kernel
theorem dX8_tick_8 : decode cX8_tick 8 = .ok (.iload_n 1, 1) := by decide +kernel
theorem dX8_tick_9 : decode cX8_tick 9 = .ok (.bipush 6, 2) := by decide +kernel
theorem dX8_tick_11 : decode cX8_tick 11 = .ok (.invokevirtual 212, 3) := by decide +kernel
theorem dX8_tick_14 : decode cX8_tick 14 = .ok (.iadd, 1) := by decide +kernel
theorem dX8_tick_15 : decode cX8_tick 15 = .ok (.imul, 1) := by decide +kernel
theorem dX8_tick_16 : decode cX8_tick 16 = .ok (.iload_n 3, 1) := by decide +kernel
theorem dX8_tick_17 : decode cX8_tick 17 = .ok (.iadd, 1) := by decide +kernel
theorem dX8_tick_18 : decode cX8_tick 18 = .ok (.ireturn, 1) := by decide +kernel
set_option maxHeartbeats 4000000 in
set_option maxRecDepth 100000 in
theorem m_tick (l : Launch) (D : va_G) (k : Nat → ClassId) (st : Nat → Nat) (lo : Nat) (a : Nat → Nat) (tx : Nat) (t0 : Nat) (we : Nat) (rd : Nat) (ru : Nat) (rw : Nat) (ca : Nat) (fp : Int32) (wd : Int64) (nu : Int32) (na : Int32) (ts : Int32) (df : Int32) (db : Int32) (sd : Int32) (dn : Nat → Nat) (se : Nat → Nat) (tm : Nat → Nat) (gs : Nat → Int32) (sn : Nat) (p0 : Int32) (p1 : Int32)  (hs : sn < 3) : CRi l D k st lo yX8_tick cX8_tick 4 (some .int) ({ frames := 1, cells := 0, slots := 0, locals := 22 }) [.ref (a 0), .int (nI sn), .int p0, .int p1] [((a 0), .inr (8, (fX8 a (nI tx) fp (nI t0) wd (nI we) nu na (nI rd) ts (nI ru) (nI rw) (nI ca) df db sd))), (aI k (a 1) 3 (nF dn)), (aI k (a 4) 27 (sg se tm gs))] (fun r => True) := by
  intro sz
  refine Met.ofW (cc := cX8_tick) (maxL := 4) (ret := (some .int)) (by decide) rfl ?_
  intro p e s m args below meth c s₁ B hml hv
  obtain ⟨rfl, hsz, hlo, hP, hK, hDL, hZ⟩ := hv
  have hx := B.exec
  have hb := B.bytes
  have hr := B.returns
  have hts := WS_ts B.pre
  have hown : s.vm.findClass RX8 = some m.cls := findClass_of_methodNamed B.named
  have hlocks := B.notSynchronized
  subst hsz
  have hA : ∀ q : Nat, s.heap.size ≤ q → (fun q : Nat => s.heap.size ≤ q) q := fun _ h => h
  have hAlo : ∀ q : Nat, (fun q : Nat => s.heap.size ≤ q) q → lo ≤ q := fun q h => Nat.le_trans hlo h
  have hS : va_S (fun q : Nat => s.heap.size ≤ q) s.heap s.heap [] := va_S.rf
  have hl := lv_entry ([.ref (a 0), .int (nI sn), .int p0, .int p1]) (n := 4) (Nat.le_of_ble_eq_true rfl)
  rw [lg_entry_eq]
  generalize (lg_sl ([.ref (a 0), .int (nI sn), .int p0, .int p1]) ++ List.replicate (4 - (lg_sl ([.ref (a 0), .int (nI sn), .int p0, .int p1])).length) Slot.unset).toArray = ls at hl ⊢
  have hl : lv_has ls 4 [(0, .ref (a 0)), (1, .int (nI sn)), (2, .int p0), (3, .int p1)] := hl
  refine lv_iload_n hx hb dX8_tick_0 rfl (lv_at hl 2 rfl) ?_
  refine lv_aload_n hx hb dX8_tick_1 rfl (lv_at hl 0 rfl) ?_
  refine va_get (D := D) (ci := 8) (v := .ref (a 1)) (C := RX8) (T := TX8) (N := 44) hx hb hts inX8 hown hK hP 0 rfl rfl 0 (by decide) (hts _ tw_973) (fun _ h9 => h9) rfl dX8_tick_2 ?_
  refine lv_iload_n hx hb dX8_tick_5 rfl (lv_at hl 1 rfl) ?_
  refine va_iald hx hb hK hP 1 1 rfl rfl (vp_in_nI (by omega) (by decide)) dX8_tick_6 ?_
  refine lv_ti (y := (nI (dn sn))) (by rw [nI_clamp (by omega)]; rfl) ?_
  refine lv_aload_n hx hb dX8_tick_7 rfl (lv_at hl 0 rfl) ?_
  refine lv_iload_n hx hb dX8_tick_8 rfl (lv_at hl 1 rfl) ?_
  refine lv_bipush (v := 6) hx hb dX8_tick_9 (by decide) ?_
  refine ro_i (D := D) (va_runV (As := [.int (nI sn), .int 6]) (rest := [.int (nI (dn sn)), .int p0]) ⟨hx, hb, hml, hown, hts⟩ ((m_of l D k st lo a tx t0 we rd ru rw ca fp wd nu na ts df db sd se tm gs sn 6 (by first | assumption | omega) (by first | assumption | omega)) s.heap.size) (cwV 2 hts (gV tw_1194 tw_1196 tw_39 tw_87 tw_1197) rfl rfl rfl (by decide +kernel) ⟨Nat.le_of_ble_eq_true rfl, Nat.le_of_ble_eq_true rfl⟩) (pV hS hAlo hlo hP hK hDL hZ [0, 2] (by decide) rfl (ci := 8) (q := (RX8, TX8, 44)) (q0 := 0) rfl rfl) rfl rfl hl.1 rfl (lv_room (Nat.le_of_ble_eq_true rfl)) dX8_tick_11 ⟨Nat.le_of_ble_eq_true rfl, Nat.le_of_ble_eq_true rfl⟩) hS hA hP (fun r_1 H locs hw_1 hP hS => ?_)
  try dsimp only at hw_1
  refine lv_iadd hx hb dX8_tick_14 ?_
  refine lv_topi (fun x_2 ex_2 => ?_)
  refine lv_imul hx hb dX8_tick_15 ?_
  refine lv_topi (fun x_3 ex_3 => ?_)
  refine lv_iload_n hx hb dX8_tick_16 rfl (lv_at hl 3 rfl) ?_
  refine lv_iadd hx hb dX8_tick_17 ?_
  refine lv_topi (fun x_4 ex_4 => ?_)
  exact W.iret (v := x_4) hx hb hr (fun t ht hW => ⟨⟨x_4, (), rfl, trivial, trivial⟩, hS.F ht⟩) hS.2.2 dX8_tick_18

theorem dX8_lateAt_0 : decode cX8_lateAt 0 = .ok (.iload_n 2, 1) := by decide +kernel
theorem dX8_lateAt_1 : decode cX8_lateAt 1 = .ok (.aload_n 0, 1) := by decide +kernel
theorem dX8_lateAt_2 : decode cX8_lateAt 2 = .ok (.iload_n 1, 1) := by decide +kernel
theorem dX8_lateAt_3 : decode cX8_lateAt 3 = .ok (.iconst 4, 1) := by decide +kernel
theorem dX8_lateAt_4 : decode cX8_lateAt 4 = .ok (.invokevirtual 212, 3) := by decide +kernel
theorem dX8_lateAt_7 : decode cX8_lateAt 7 = .ok (.isub, 1) := by decide +kernel
theorem dX8_lateAt_8 : decode cX8_lateAt 8 = .ok (.istore_n 3, 1) := by decide +kernel
theorem dX8_lateAt_9 : decode cX8_lateAt 9 = .ok (.iload_n 3, 1) := by decide +kernel
theorem dX8_lateAt_10 : decode cX8_lateAt 10 = .ok (.ifCond .ge 7, 3) := by decide +kernel
theorem dX8_lateAt_13 : decode cX8_lateAt 13 = .ok (.iconst 0, 1) := by decide +kernel
theorem dX8_lateAt_14 : decode cX8_lateAt 14 = .ok (.goto 4, 3) := by decide +kernel
theorem dX8_lateAt_17 : decode cX8_lateAt 17 = .ok (.iload_n 3, 1) := by decide +kernel
theorem dX8_lateAt_18 : decode cX8_lateAt 18 = .ok (.ireturn, 1) := by decide +kernel
set_option maxHeartbeats 4000000 in
set_option maxRecDepth 100000 in
theorem m_lateAt (l : Launch) (D : va_G) (k : Nat → ClassId) (st : Nat → Nat) (lo : Nat) (a : Nat → Nat) (tx : Nat) (t0 : Nat) (we : Nat) (rd : Nat) (ru : Nat) (rw : Nat) (ca : Nat) (fp : Int32) (wd : Int64) (nu : Int32) (na : Int32) (ts : Int32) (df : Int32) (db : Int32) (sd : Int32) (se : Nat → Nat) (tm : Nat → Nat) (gs : Nat → Int32) (sn : Nat) (p0 : Int32)  (hs : sn < 3) : CRi l D k st lo yX8_lateAt cX8_lateAt 4 (some .int) ({ frames := 1, cells := 0, slots := 0, locals := 22 }) [.ref (a 0), .int (nI sn), .int p0] [((a 0), .inr (8, (fX8 a (nI tx) fp (nI t0) wd (nI we) nu na (nI rd) ts (nI ru) (nI rw) (nI ca) df db sd))), (aI k (a 4) 27 (sg se tm gs))] (fun r => True) := by
  intro sz
  refine Met.ofW (cc := cX8_lateAt) (maxL := 4) (ret := (some .int)) (by decide) rfl ?_
  intro p e s m args below meth c s₁ B hml hv
  obtain ⟨rfl, hsz, hlo, hP, hK, hDL, hZ⟩ := hv
  have hx := B.exec
  have hb := B.bytes
  have hr := B.returns
  have hts := WS_ts B.pre
  have hown : s.vm.findClass RX8 = some m.cls := findClass_of_methodNamed B.named
  have hlocks := B.notSynchronized
  subst hsz
  have hA : ∀ q : Nat, s.heap.size ≤ q → (fun q : Nat => s.heap.size ≤ q) q := fun _ h => h
  have hAlo : ∀ q : Nat, (fun q : Nat => s.heap.size ≤ q) q → lo ≤ q := fun q h => Nat.le_trans hlo h
  have hS : va_S (fun q : Nat => s.heap.size ≤ q) s.heap s.heap [] := va_S.rf
  have hl := lv_entry ([.ref (a 0), .int (nI sn), .int p0]) (n := 4) (Nat.le_of_ble_eq_true rfl)
  rw [lg_entry_eq]
  generalize (lg_sl ([.ref (a 0), .int (nI sn), .int p0]) ++ List.replicate (4 - (lg_sl ([.ref (a 0), .int (nI sn), .int p0])).length) Slot.unset).toArray = ls at hl ⊢
  have hl : lv_has ls 4 [(0, .ref (a 0)), (1, .int (nI sn)), (2, .int p0)] := hl
  refine lv_iload_n hx hb dX8_lateAt_0 rfl (lv_at hl 2 rfl) ?_
  refine lv_aload_n hx hb dX8_lateAt_1 rfl (lv_at hl 0 rfl) ?_
  refine lv_iload_n hx hb dX8_lateAt_2 rfl (lv_at hl 1 rfl) ?_
  refine lv_iconst (v := 4) hx hb dX8_lateAt_3 (by decide) ?_
  refine ro_i (D := D) (va_runV (As := [.int (nI sn), .int 4]) (rest := [.int p0]) ⟨hx, hb, hml, hown, hts⟩ ((m_of l D k st lo a tx t0 we rd ru rw ca fp wd nu na ts df db sd se tm gs sn 4 (by first | assumption | omega) (by first | assumption | omega)) s.heap.size) (cwV 2 hts (gV tw_1194 tw_1196 tw_39 tw_87 tw_1197) rfl rfl rfl (by decide +kernel) ⟨Nat.le_of_ble_eq_true rfl, Nat.le_of_ble_eq_true rfl⟩) (pV hS hAlo hlo hP hK hDL hZ [0, 1] (by decide) rfl (ci := 8) (q := (RX8, TX8, 44)) (q0 := 0) rfl rfl) rfl rfl hl.1 rfl (lv_room (Nat.le_of_ble_eq_true rfl)) dX8_lateAt_4 ⟨Nat.le_of_ble_eq_true rfl, Nat.le_of_ble_eq_true rfl⟩) hS hA hP (fun r_1 H locs hw_1 hP hS => ?_)
  try dsimp only at hw_1
  refine lv_isub hx hb dX8_lateAt_7 ?_
  refine lv_topi (fun x_2 ex_2 => ?_)
  refine lv_istore_n (lv' := [(3, .int x_2), (0, .ref (a 0)), (1, .int (nI sn)), (2, .int p0)]) hx hb dX8_lateAt_8 rfl hl (by decide) rfl (fun ls hl => ?_)
  refine lv_iload_n hx hb dX8_lateAt_9 rfl (lv_at hl 0 rfl) ?_
  refine lv_if_ge (tgt := 17) hx hb dX8_lateAt_10 (by decide) (fun c_3 => ?_) (fun c_3 => ?_)
  · refine lv_iload_n hx hb dX8_lateAt_17 rfl (lv_at hl 0 rfl) ?_
    exact W.iret (v := x_2) hx hb hr (fun t ht hW => ⟨⟨x_2, (), rfl, trivial, trivial⟩, hS.F ht⟩) hS.2.2 dX8_lateAt_18
  · refine lv_iconst (v := 0) hx hb dX8_lateAt_13 (by decide) ?_
    refine lv_goto (tgt := 18) hx hb dX8_lateAt_14 (by decide) ?_
    exact W.iret (v := 0) hx hb hr (fun t ht hW => ⟨⟨0, (), rfl, trivial, trivial⟩, hS.F ht⟩) hS.2.2 dX8_lateAt_18

theorem dX8_takingBy_0 : decode cX8_takingBy 0 = .ok (.aload_n 0, 1) := by decide +kernel
theorem dX8_takingBy_1 : decode cX8_takingBy 1 = .ok (.getfield 7, 3) := by decide +kernel
theorem dX8_takingBy_4 : decode cX8_takingBy 4 = .ok (.iload_n 1, 1) := by decide +kernel
theorem dX8_takingBy_5 : decode cX8_takingBy 5 = .ok (.iaload, 1) := by decide +kernel
theorem dX8_takingBy_6 : decode cX8_takingBy 6 = .ok (.istore 5, 2) := by decide +kernel
theorem dX8_takingBy_8 : decode cX8_takingBy 8 = .ok (.aload_n 0, 1) := by decide +kernel
theorem dX8_takingBy_9 : decode cX8_takingBy 9 = .ok (.getfield 16, 3) := by decide +kernel
theorem dX8_takingBy_12 : decode cX8_takingBy 12 = .ok (.bipush 24, 2) := by decide +kernel
theorem dX8_takingBy_14 : decode cX8_takingBy 14 = .ok (.iload_n 1, 1) := by decide +kernel
theorem dX8_takingBy_15 : decode cX8_takingBy 15 = .ok (.imul, 1) := by decide +kernel
theorem dX8_takingBy_16 : decode cX8_takingBy 16 = .ok (.iload_n 3, 1) := by decide +kernel
theorem dX8_takingBy_17 : decode cX8_takingBy 17 = .ok (.iadd, 1) := by decide +kernel
theorem dX8_takingBy_18 : decode cX8_takingBy 18 = .ok (.iaload, 1) := by decide +kernel
theorem dX8_takingBy_19 : decode cX8_takingBy 19 = .ok (.iload 4, 2) := by decide +kernel
theorem dX8_takingBy_21 : decode cX8_takingBy 21 = .ok (.iload 5, 2) := by decide +kernel
theorem dX8_takingBy_23 : decode cX8_takingBy 23 = .ok (.iload_n 3, 1) := by decide +kernel
theorem dX8_takingBy_24 : decode cX8_takingBy 24 = .ok (.isub, 1) := by decide +kernel
theorem dX8_takingBy_25 : decode cX8_takingBy 25 = .ok (.imul, 1) := by decide +kernel
theorem dX8_takingBy_26 : decode cX8_takingBy 26 = .ok (.iadd, 1) := by decide +kernel
theorem dX8_takingBy_27 : decode cX8_takingBy 27 = .ok (.aload_n 0, 1) := by decide +kernel
theorem dX8_takingBy_28 : decode cX8_takingBy 28 = .ok (.iload_n 1, 1) := by decide +kernel
theorem dX8_takingBy_29 : decode cX8_takingBy 29 = .ok (.iconst 3, 1) := by decide +kernel
theorem dX8_takingBy_30 : decode cX8_takingBy 30 = .ok (.invokevirtual 212, 3) := by decide +kernel
theorem dX8_takingBy_33 : decode cX8_takingBy 33 = .ok (.aload_n 0, 1) := by decide +kernel
theorem dX8_takingBy_34 : decode cX8_takingBy 34 = .ok (.iload_n 1, 1) := by decide +kernel
theorem dX8_takingBy_35 : decode cX8_takingBy 35 = .ok (.aload_n 0, 1) := by decide +kernel
theorem dX8_takingBy_36 : decode cX8_takingBy 36 = .ok (.iload_n 1, 1) := by decide +kernel
theorem dX8_takingBy_37 : decode cX8_takingBy 37 = .ok (.iload_n 2, 1) := by decide +kernel
theorem dX8_takingBy_38 : decode cX8_takingBy 38 = .ok (.iload_n 3, 1) := by decide +kernel
theorem dX8_takingBy_39 : decode cX8_takingBy 39 = .ok (.invokevirtual 223, 3) := by decide +kernel
theorem dX8_takingBy_42 : decode cX8_takingBy 42 = .ok (.iload 5, 2) := by decide +kernel
theorem dX8_takingBy_44 : decode cX8_takingBy 44 = .ok (.iadd, 1) := by decide +kernel
theorem dX8_takingBy_45 : decode cX8_takingBy 45 = .ok (.iload_n 3, 1) := by decide +kernel
theorem dX8_takingBy_46 : decode cX8_takingBy 46 = .ok (.isub, 1) := by decide +kernel
theorem dX8_takingBy_47 : decode cX8_takingBy 47 = .ok (.invokevirtual 227, 3) := by decide +kernel
theorem dX8_takingBy_50 : decode cX8_takingBy 50 = .ok (.imul, 1) := by decide +kernel
theorem dX8_takingBy_51 : decode cX8_takingBy 51 = .ok (.iadd, 1) := by decide +kernel
theorem dX8_takingBy_52 : decode cX8_takingBy 52 = .ok (.sipush 1000, 3) := by decide +kernel
theorem dX8_takingBy_55 : decode cX8_takingBy 55 = .ok (.imul, 1) := by decide +kernel
theorem dX8_takingBy_56 : decode cX8_takingBy 56 = .ok (.ireturn, 1) := by decide +kernel
set_option maxHeartbeats 4000000 in
set_option maxRecDepth 100000 in
theorem m_takingBy (l : Launch) (D : va_G) (k : Nat → ClassId) (st : Nat → Nat) (lo : Nat) (a : Nat → Nat) (tx : Nat) (t0 : Nat) (we : Nat) (rd : Nat) (ru : Nat) (rw : Nat) (ca : Nat) (fp : Int32) (wd : Int64) (nu : Int32) (na : Int32) (ts : Int32) (df : Int32) (db : Int32) (sd : Int32) (dn : Nat → Nat) (se : Nat → Nat) (tm : Nat → Nat) (gs : Nat → Int32) (fprices : Nat → Int32) (sn : Nat) (i : Nat) (p0 : Int32) (p2 : Int32)  (hs : sn < 3) (hi : i < 24) : CRi l D k st lo yX8_takingBy cX8_takingBy 6 (some .int) ({ frames := 2, cells := 0, slots := 0, locals := 45 }) [.ref (a 0), .int (nI sn), .int p0, .int (nI i), .int p2] [((a 0), .inr (8, (fX8 a (nI tx) fp (nI t0) wd (nI we) nu na (nI rd) ts (nI ru) (nI rw) (nI ca) df db sd))), (aI k (a 1) 3 (nF dn)), (aI k (a 4) 27 (sg se tm gs)), (aI k (a 3) 72 fprices)] (fun r => True) := by
  intro sz
  refine Met.ofW (cc := cX8_takingBy) (maxL := 6) (ret := (some .int)) (by decide) rfl ?_
  intro p e s m args below meth c s₁ B hml hv
  obtain ⟨rfl, hsz, hlo, hP, hK, hDL, hZ⟩ := hv
  have hx := B.exec
  have hb := B.bytes
  have hr := B.returns
  have hts := WS_ts B.pre
  have hown : s.vm.findClass RX8 = some m.cls := findClass_of_methodNamed B.named
  have hlocks := B.notSynchronized
  subst hsz
  have hA : ∀ q : Nat, s.heap.size ≤ q → (fun q : Nat => s.heap.size ≤ q) q := fun _ h => h
  have hAlo : ∀ q : Nat, (fun q : Nat => s.heap.size ≤ q) q → lo ≤ q := fun q h => Nat.le_trans hlo h
  have hS : va_S (fun q : Nat => s.heap.size ≤ q) s.heap s.heap [] := va_S.rf
  have hl := lv_entry ([.ref (a 0), .int (nI sn), .int p0, .int (nI i), .int p2]) (n := 6) (Nat.le_of_ble_eq_true rfl)
  rw [lg_entry_eq]
  generalize (lg_sl ([.ref (a 0), .int (nI sn), .int p0, .int (nI i), .int p2]) ++ List.replicate (6 - (lg_sl ([.ref (a 0), .int (nI sn), .int p0, .int (nI i), .int p2])).length) Slot.unset).toArray = ls at hl ⊢
  have hl : lv_has ls 6 [(0, .ref (a 0)), (1, .int (nI sn)), (2, .int p0), (3, .int (nI i)), (4, .int p2)] := hl
  refine lv_aload_n hx hb dX8_takingBy_0 rfl (lv_at hl 0 rfl) ?_
  refine va_get (D := D) (ci := 8) (v := .ref (a 1)) (C := RX8) (T := TX8) (N := 44) hx hb hts inX8 hown hK hP 0 rfl rfl 0 (by decide) (hts _ tw_973) (fun _ h9 => h9) rfl dX8_takingBy_1 ?_
  refine lv_iload_n hx hb dX8_takingBy_4 rfl (lv_at hl 1 rfl) ?_
  refine va_iald hx hb hK hP 1 1 rfl rfl (vp_in_nI (by omega) (by decide)) dX8_takingBy_5 ?_
  refine lv_ti (y := (nI (dn sn))) (by rw [nI_clamp (by omega)]; rfl) ?_
  refine lv_istore (lv' := [(5, .int (nI (dn sn))), (0, .ref (a 0)), (1, .int (nI sn)), (2, .int p0), (3, .int (nI i)), (4, .int p2)]) hx hb dX8_takingBy_6 hl (by decide) rfl (fun ls hl => ?_)
  refine lv_aload_n hx hb dX8_takingBy_8 rfl (lv_at hl 1 rfl) ?_
  refine va_get (D := D) (ci := 8) (v := .ref (a 3)) (C := RX8) (T := TX8) (N := 44) hx hb hts inX8 hown hK hP 0 rfl rfl 2 (by decide) (hts _ tw_975) (fun _ h9 => h9) rfl dX8_takingBy_9 ?_
  refine lv_bipush (v := 24) hx hb dX8_takingBy_12 (by decide) ?_
  refine lv_iload_n hx hb dX8_takingBy_14 rfl (lv_at hl 2 rfl) ?_
  refine lv_imul hx hb dX8_takingBy_15 ?_
  refine lv_ti (y := (nI (24 * sn))) (pk_mul 24 sn) ?_
  refine lv_iload_n hx hb dX8_takingBy_16 rfl (lv_at hl 4 rfl) ?_
  refine lv_iadd hx hb dX8_takingBy_17 ?_
  refine lv_ti (y := (nI (24 * sn + i))) (nI_add (24 * sn) i) ?_
  refine va_iald hx hb hK hP 3 1 rfl rfl (vp_in_nI (by omega) (by decide)) dX8_takingBy_18 ?_
  refine lv_ti (y := (fprices (24 * sn + i))) (by rw [nI_clamp (by omega)]) ?_
  refine lv_iload hx hb dX8_takingBy_19 (lv_at hl 5 rfl) ?_
  refine lv_iload hx hb dX8_takingBy_21 (lv_at hl 0 rfl) ?_
  refine lv_iload_n hx hb dX8_takingBy_23 rfl (lv_at hl 4 rfl) ?_
  refine lv_isub hx hb dX8_takingBy_24 ?_
  refine lv_topi (fun x_1 ex_1 => ?_)
  refine lv_imul hx hb dX8_takingBy_25 ?_
  refine lv_topi (fun x_2 ex_2 => ?_)
  refine lv_iadd hx hb dX8_takingBy_26 ?_
  refine lv_topi (fun x_3 ex_3 => ?_)
  refine lv_aload_n hx hb dX8_takingBy_27 rfl (lv_at hl 1 rfl) ?_
  refine lv_iload_n hx hb dX8_takingBy_28 rfl (lv_at hl 2 rfl) ?_
  refine lv_iconst (v := 3) hx hb dX8_takingBy_29 (by decide) ?_
  refine ro_i (D := D) (va_runV (As := [.int (nI sn), .int 3]) (rest := [.int x_3]) ⟨hx, hb, hml, hown, hts⟩ ((m_of l D k st lo a tx t0 we rd ru rw ca fp wd nu na ts df db sd se tm gs sn 3 (by first | assumption | omega) (by first | assumption | omega)) s.heap.size) (cwV 2 hts (gV tw_1194 tw_1196 tw_39 tw_87 tw_1197) rfl rfl rfl (by decide +kernel) ⟨Nat.le_of_ble_eq_true rfl, Nat.le_of_ble_eq_true rfl⟩) (pV hS hAlo hlo hP hK hDL hZ [0, 2] (by decide) rfl (ci := 8) (q := (RX8, TX8, 44)) (q0 := 0) rfl rfl) rfl rfl hl.1 rfl (lv_room (Nat.le_of_ble_eq_true rfl)) dX8_takingBy_30 ⟨Nat.le_of_ble_eq_true rfl, Nat.le_of_ble_eq_true rfl⟩) hS hA hP (fun r_4 H locs hw_4 hP hS => ?_)
  try dsimp only at hw_4
  refine lv_aload_n hx hb dX8_takingBy_33 rfl (lv_at hl 1 rfl) ?_
  refine lv_iload_n hx hb dX8_takingBy_34 rfl (lv_at hl 2 rfl) ?_
  refine lv_aload_n hx hb dX8_takingBy_35 rfl (lv_at hl 1 rfl) ?_
  refine lv_iload_n hx hb dX8_takingBy_36 rfl (lv_at hl 2 rfl) ?_
  refine lv_iload_n hx hb dX8_takingBy_37 rfl (lv_at hl 3 rfl) ?_
  refine lv_iload_n hx hb dX8_takingBy_38 rfl (lv_at hl 4 rfl) ?_
  refine ro_i (D := D) (va_runV (As := [.int (nI sn), .int p0, .int (nI i)]) (rest := [.int (nI sn), .ref (a 0), .int r_4, .int x_3]) ⟨hx, hb, hml, hown, hts⟩ ((m_tick l D k st lo a tx t0 we rd ru rw ca fp wd nu na ts df db sd dn se tm gs sn p0 (nI i) (by first | assumption | omega)) H.size) (cwV 3 hts (gV tw_1230 tw_1232 tw_45 tw_87 tw_1233) rfl rfl rfl (by decide +kernel) ⟨Nat.le_of_ble_eq_true rfl, Nat.le_of_ble_eq_true rfl⟩) (pV hS hAlo hlo hP hK hDL hZ [0, 1, 2] (by decide) rfl (ci := 8) (q := (RX8, TX8, 44)) (q0 := 0) rfl rfl) rfl rfl hl.1 rfl (lv_room (Nat.le_of_ble_eq_true rfl)) dX8_takingBy_39 ⟨Nat.le_of_ble_eq_true rfl, Nat.le_of_ble_eq_true rfl⟩) hS hA hP (fun r_5 H locs hw_5 hP hS => ?_)
  try dsimp only at hw_5
  refine lv_iload hx hb dX8_takingBy_42 (lv_at hl 0 rfl) ?_
  refine lv_iadd hx hb dX8_takingBy_44 ?_
  refine lv_topi (fun x_6 ex_6 => ?_)
  refine lv_iload_n hx hb dX8_takingBy_45 rfl (lv_at hl 4 rfl) ?_
  refine lv_isub hx hb dX8_takingBy_46 ?_
  refine lv_topi (fun x_7 ex_7 => ?_)
  refine ro_i (D := D) (va_runV (As := [.int (nI sn), .int x_7]) (rest := [.int r_4, .int x_3]) ⟨hx, hb, hml, hown, hts⟩ ((m_lateAt l D k st lo a tx t0 we rd ru rw ca fp wd nu na ts df db sd se tm gs sn x_7 (by first | assumption | omega)) H.size) (cwV 2 hts (gV tw_1234 tw_1236 tw_46 tw_87 tw_1237) rfl rfl rfl (by decide +kernel) ⟨Nat.le_of_ble_eq_true rfl, Nat.le_of_ble_eq_true rfl⟩) (pV hS hAlo hlo hP hK hDL hZ [0, 2] (by decide) rfl (ci := 8) (q := (RX8, TX8, 44)) (q0 := 0) rfl rfl) rfl rfl hl.1 rfl (lv_room (Nat.le_of_ble_eq_true rfl)) dX8_takingBy_47 ⟨Nat.le_of_ble_eq_true rfl, Nat.le_of_ble_eq_true rfl⟩) hS hA hP (fun r_8 H locs hw_8 hP hS => ?_)
  try dsimp only at hw_8
  refine lv_imul hx hb dX8_takingBy_50 ?_
  refine lv_topi (fun x_9 ex_9 => ?_)
  refine lv_iadd hx hb dX8_takingBy_51 ?_
  refine lv_topi (fun x_10 ex_10 => ?_)
  refine lv_sipush (v := 1000) hx hb dX8_takingBy_52 (by decide) ?_
  refine lv_imul hx hb dX8_takingBy_55 ?_
  refine lv_topi (fun x_11 ex_11 => ?_)
  exact W.iret (v := x_11) hx hb hr (fun t ht hW => ⟨⟨x_11, (), rfl, trivial, trivial⟩, hS.F ht⟩) hS.2.2 dX8_takingBy_56

theorem f_m_takingOf_rows : True := trivial
theorem dX8_takingOf_0 : decode cX8_takingOf 0 = .ok (.aload_n 0, 1) := by decide +kernel
theorem dX8_takingOf_1 : decode cX8_takingOf 1 = .ok (.iload_n 1, 1) := by decide +kernel
theorem dX8_takingOf_2 : decode cX8_takingOf 2 = .ok (.iload_n 2, 1) := by decide +kernel
theorem dX8_takingOf_3 : decode cX8_takingOf 3 = .ok (.iload_n 3, 1) := by decide +kernel
theorem dX8_takingOf_4 : decode cX8_takingOf 4 = .ok (.aload_n 0, 1) := by decide +kernel
theorem dX8_takingOf_5 : decode cX8_takingOf 5 = .ok (.iload_n 1, 1) := by decide +kernel
theorem dX8_takingOf_6 : decode cX8_takingOf 6 = .ok (.iconst 1, 1) := by decide +kernel
theorem dX8_takingOf_7 : decode cX8_takingOf 7 = .ok (.invokevirtual 212, 3) := by decide +kernel
theorem dX8_takingOf_10 : decode cX8_takingOf 10 = .ok (.invokevirtual 230, 3) := by decide +kernel
theorem dX8_takingOf_13 : decode cX8_takingOf 13 = .ok (.ireturn, 1) := by decide +kernel
theorem dX8_garageOf_0 : decode cX8_garageOf 0 = .ok (.aload_n 0, 1) := by decide +kernel
theorem dX8_garageOf_1 : decode cX8_garageOf 1 = .ok (.iload_n 1, 1) := by decide +kernel
theorem dX8_garageOf_2 : decode cX8_garageOf 2 = .ok (.bipush 8, 2) := by decide +kernel
theorem dX8_garageOf_4 : decode cX8_garageOf 4 = .ok (.invokevirtual 212, 3) := by decide +kernel
theorem dX8_garageOf_7 : decode cX8_garageOf 7 = .ok (.aload_n 0, 1) := by decide +kernel
theorem dX8_garageOf_8 : decode cX8_garageOf 8 = .ok (.iload_n 1, 1) := by decide +kernel
theorem dX8_garageOf_9 : decode cX8_garageOf 9 = .ok (.iconst 3, 1) := by decide +kernel
theorem dX8_garageOf_10 : decode cX8_garageOf 10 = .ok (.invokevirtual 212, 3) := by decide +kernel
theorem dX8_garageOf_13 : decode cX8_garageOf 13 = .ok (.aload_n 0, 1) := by decide +kernel
theorem dX8_garageOf_14 : decode cX8_garageOf 14 = .ok (.iload_n 1, 1) := by decide +kernel
theorem dX8_garageOf_15 : decode cX8_garageOf 15 = .ok (.aload_n 0, 1) := by decide +kernel
theorem dX8_garageOf_16 : decode cX8_garageOf 16 = .ok (.iload_n 1, 1) := by decide +kernel
theorem dX8_garageOf_17 : decode cX8_garageOf 17 = .ok (.iload_n 2, 1) := by decide +kernel
theorem dX8_garageOf_18 : decode cX8_garageOf 18 = .ok (.aload_n 0, 1) := by decide +kernel
theorem dX8_garageOf_19 : decode cX8_garageOf 19 = .ok (.getfield 7, 3) := by decide +kernel
theorem dX8_garageOf_22 : decode cX8_garageOf 22 = .ok (.iload_n 1, 1) := by decide +kernel
theorem dX8_garageOf_23 : decode cX8_garageOf 23 = .ok (.iaload, 1) := by decide +kernel
theorem dX8_garageOf_24 : decode cX8_garageOf 24 = .ok (.invokevirtual 223, 3) := by decide +kernel
theorem dX8_garageOf_27 : decode cX8_garageOf 27 = .ok (.invokevirtual 227, 3) := by decide +kernel
theorem dX8_garageOf_30 : decode cX8_garageOf 30 = .ok (.imul, 1) := by decide +kernel
theorem dX8_garageOf_31 : decode cX8_garageOf 31 = .ok (.iadd, 1) := by decide +kernel
theorem dX8_garageOf_32 : decode cX8_garageOf 32 = .ok (.sipush 1000, 3) := by decide +kernel
theorem dX8_garageOf_35 : decode cX8_garageOf 35 = .ok (.imul, 1) := by decide +kernel
theorem dX8_garageOf_36 : decode cX8_garageOf 36 = .ok (.ireturn, 1) := by decide +kernel
set_option maxHeartbeats 4000000 in
set_option maxRecDepth 100000 in
theorem m_garageOf (l : Launch) (D : va_G) (k : Nat → ClassId) (st : Nat → Nat) (lo : Nat) (a : Nat → Nat) (tx : Nat) (t0 : Nat) (we : Nat) (rd : Nat) (ru : Nat) (rw : Nat) (ca : Nat) (fp : Int32) (wd : Int64) (nu : Int32) (na : Int32) (ts : Int32) (df : Int32) (db : Int32) (sd : Int32) (dn : Nat → Nat) (se : Nat → Nat) (tm : Nat → Nat) (gs : Nat → Int32) (sn : Nat) (p0 : Int32)  (hs : sn < 3) : CRi l D k st lo yX8_garageOf cX8_garageOf 3 (some .int) ({ frames := 2, cells := 0, slots := 0, locals := 45 }) [.ref (a 0), .int (nI sn), .int p0] [((a 0), .inr (8, (fX8 a (nI tx) fp (nI t0) wd (nI we) nu na (nI rd) ts (nI ru) (nI rw) (nI ca) df db sd))), (aI k (a 1) 3 (nF dn)), (aI k (a 4) 27 (sg se tm gs))] (fun r => True) := by
  intro sz
  refine Met.ofW (cc := cX8_garageOf) (maxL := 3) (ret := (some .int)) (by decide) rfl ?_
  intro p e s m args below meth c s₁ B hml hv
  obtain ⟨rfl, hsz, hlo, hP, hK, hDL, hZ⟩ := hv
  have hx := B.exec
  have hb := B.bytes
  have hr := B.returns
  have hts := WS_ts B.pre
  have hown : s.vm.findClass RX8 = some m.cls := findClass_of_methodNamed B.named
  have hlocks := B.notSynchronized
  subst hsz
  have hA : ∀ q : Nat, s.heap.size ≤ q → (fun q : Nat => s.heap.size ≤ q) q := fun _ h => h
  have hAlo : ∀ q : Nat, (fun q : Nat => s.heap.size ≤ q) q → lo ≤ q := fun q h => Nat.le_trans hlo h
  have hS : va_S (fun q : Nat => s.heap.size ≤ q) s.heap s.heap [] := va_S.rf
  have hl := lv_entry ([.ref (a 0), .int (nI sn), .int p0]) (n := 3) (Nat.le_of_ble_eq_true rfl)
  rw [lg_entry_eq]
  generalize (lg_sl ([.ref (a 0), .int (nI sn), .int p0]) ++ List.replicate (3 - (lg_sl ([.ref (a 0), .int (nI sn), .int p0])).length) Slot.unset).toArray = ls at hl ⊢
  have hl : lv_has ls 3 [(0, .ref (a 0)), (1, .int (nI sn)), (2, .int p0)] := hl
  refine lv_aload_n hx hb dX8_garageOf_0 rfl (lv_at hl 0 rfl) ?_
  refine lv_iload_n hx hb dX8_garageOf_1 rfl (lv_at hl 1 rfl) ?_
  refine lv_bipush (v := 8) hx hb dX8_garageOf_2 (by decide) ?_
  refine ro_i (D := D) (va_runV (As := [.int (nI sn), .int 8]) (rest := []) ⟨hx, hb, hml, hown, hts⟩ ((m_of l D k st lo a tx t0 we rd ru rw ca fp wd nu na ts df db sd se tm gs sn 8 (by first | assumption | omega) (by first | assumption | omega)) s.heap.size) (cwV 2 hts (gV tw_1194 tw_1196 tw_39 tw_87 tw_1197) rfl rfl rfl (by decide +kernel) ⟨Nat.le_of_ble_eq_true rfl, Nat.le_of_ble_eq_true rfl⟩) (pV hS hAlo hlo hP hK hDL hZ [0, 2] (by decide) rfl (ci := 8) (q := (RX8, TX8, 44)) (q0 := 0) rfl rfl) rfl rfl hl.1 rfl (lv_room (Nat.le_of_ble_eq_true rfl)) dX8_garageOf_4 ⟨Nat.le_of_ble_eq_true rfl, Nat.le_of_ble_eq_true rfl⟩) hS hA hP (fun r_1 H locs hw_1 hP hS => ?_)
  try dsimp only at hw_1
  refine lv_aload_n hx hb dX8_garageOf_7 rfl (lv_at hl 0 rfl) ?_
  refine lv_iload_n hx hb dX8_garageOf_8 rfl (lv_at hl 1 rfl) ?_
  refine lv_iconst (v := 3) hx hb dX8_garageOf_9 (by decide) ?_
  refine ro_i (D := D) (va_runV (As := [.int (nI sn), .int 3]) (rest := [.int r_1]) ⟨hx, hb, hml, hown, hts⟩ ((m_of l D k st lo a tx t0 we rd ru rw ca fp wd nu na ts df db sd se tm gs sn 3 (by first | assumption | omega) (by first | assumption | omega)) H.size) (cwV 2 hts (gV tw_1194 tw_1196 tw_39 tw_87 tw_1197) rfl rfl rfl (by decide +kernel) ⟨Nat.le_of_ble_eq_true rfl, Nat.le_of_ble_eq_true rfl⟩) (pV hS hAlo hlo hP hK hDL hZ [0, 2] (by decide) rfl (ci := 8) (q := (RX8, TX8, 44)) (q0 := 0) rfl rfl) rfl rfl hl.1 rfl (lv_room (Nat.le_of_ble_eq_true rfl)) dX8_garageOf_10 ⟨Nat.le_of_ble_eq_true rfl, Nat.le_of_ble_eq_true rfl⟩) hS hA hP (fun r_2 H locs hw_2 hP hS => ?_)
  try dsimp only at hw_2
  refine lv_aload_n hx hb dX8_garageOf_13 rfl (lv_at hl 0 rfl) ?_
  refine lv_iload_n hx hb dX8_garageOf_14 rfl (lv_at hl 1 rfl) ?_
  refine lv_aload_n hx hb dX8_garageOf_15 rfl (lv_at hl 0 rfl) ?_
  refine lv_iload_n hx hb dX8_garageOf_16 rfl (lv_at hl 1 rfl) ?_
  refine lv_iload_n hx hb dX8_garageOf_17 rfl (lv_at hl 2 rfl) ?_
  refine lv_aload_n hx hb dX8_garageOf_18 rfl (lv_at hl 0 rfl) ?_
  refine va_get (D := D) (ci := 8) (v := .ref (a 1)) (C := RX8) (T := TX8) (N := 44) hx hb hts inX8 hown hK hP 0 rfl rfl 0 (by decide) (hts _ tw_973) (fun _ h9 => h9) rfl dX8_garageOf_19 ?_
  refine lv_iload_n hx hb dX8_garageOf_22 rfl (lv_at hl 1 rfl) ?_
  refine va_iald hx hb hK hP 1 1 rfl rfl (vp_in_nI (by omega) (by decide)) dX8_garageOf_23 ?_
  refine lv_ti (y := (nI (dn sn))) (by rw [nI_clamp (by omega)]; rfl) ?_
  refine ro_i (D := D) (va_runV (As := [.int (nI sn), .int p0, .int (nI (dn sn))]) (rest := [.int (nI sn), .ref (a 0), .int r_2, .int r_1]) ⟨hx, hb, hml, hown, hts⟩ ((m_tick l D k st lo a tx t0 we rd ru rw ca fp wd nu na ts df db sd dn se tm gs sn p0 (nI (dn sn)) (by first | assumption | omega)) H.size) (cwV 3 hts (gV tw_1230 tw_1232 tw_45 tw_87 tw_1233) rfl rfl rfl (by decide +kernel) ⟨Nat.le_of_ble_eq_true rfl, Nat.le_of_ble_eq_true rfl⟩) (pV hS hAlo hlo hP hK hDL hZ [0, 1, 2] (by decide) rfl (ci := 8) (q := (RX8, TX8, 44)) (q0 := 0) rfl rfl) rfl rfl hl.1 rfl (lv_room (Nat.le_of_ble_eq_true rfl)) dX8_garageOf_24 ⟨Nat.le_of_ble_eq_true rfl, Nat.le_of_ble_eq_true rfl⟩) hS hA hP (fun r_3 H locs hw_3 hP hS => ?_)
  try dsimp only at hw_3
  refine ro_i (D := D) (va_runV (As := [.int (nI sn), .int r_3]) (rest := [.int r_2, .int r_1]) ⟨hx, hb, hml, hown, hts⟩ ((m_lateAt l D k st lo a tx t0 we rd ru rw ca fp wd nu na ts df db sd se tm gs sn r_3 (by first | assumption | omega)) H.size) (cwV 2 hts (gV tw_1234 tw_1236 tw_46 tw_87 tw_1237) rfl rfl rfl (by decide +kernel) ⟨Nat.le_of_ble_eq_true rfl, Nat.le_of_ble_eq_true rfl⟩) (pV hS hAlo hlo hP hK hDL hZ [0, 2] (by decide) rfl (ci := 8) (q := (RX8, TX8, 44)) (q0 := 0) rfl rfl) rfl rfl hl.1 rfl (lv_room (Nat.le_of_ble_eq_true rfl)) dX8_garageOf_27 ⟨Nat.le_of_ble_eq_true rfl, Nat.le_of_ble_eq_true rfl⟩) hS hA hP (fun r_4 H locs hw_4 hP hS => ?_)
  try dsimp only at hw_4
  refine lv_imul hx hb dX8_garageOf_30 ?_
  refine lv_topi (fun x_5 ex_5 => ?_)
  refine lv_iadd hx hb dX8_garageOf_31 ?_
  refine lv_topi (fun x_6 ex_6 => ?_)
  refine lv_sipush (v := 1000) hx hb dX8_garageOf_32 (by decide) ?_
  refine lv_imul hx hb dX8_garageOf_35 ?_
  refine lv_topi (fun x_7 ex_7 => ?_)
  exact W.iret (v := x_7) hx hb hr (fun t ht hW => ⟨⟨x_7, (), rfl, trivial, trivial⟩, hS.F ht⟩) hS.2.2 dX8_garageOf_36

theorem f_m_fault_rows : True := trivial
theorem dX8_fault_0 : decode cX8_fault 0 = .ok (.aload_n 0, 1) := by decide +kernel
theorem dX8_fault_1 : decode cX8_fault 1 = .ok (.getfield 25, 3) := by decide +kernel
theorem dX8_fault_4 : decode cX8_fault 4 = .ok (.ireturn, 1) := by decide +kernel

theorem dX8_isRoundBy_0 : decode cX8_isRoundBy 0 = .ok (.iload_n 3, 1) := by decide +kernel
theorem dX8_isRoundBy_1 : decode cX8_isRoundBy 1 = .ok (.aload_n 0, 1) := by decide +kernel
theorem dX8_isRoundBy_2 : decode cX8_isRoundBy 2 = .ok (.getfield 66, 3) := by decide +kernel
theorem dX8_isRoundBy_5 : decode cX8_isRoundBy 5 = .ok (.iload_n 2, 1) := by decide +kernel
theorem dX8_isRoundBy_6 : decode cX8_isRoundBy 6 = .ok (.iaload, 1) := by decide +kernel
theorem dX8_isRoundBy_7 : decode cX8_isRoundBy 7 = .ok (.if_icmp .ge 18, 3) := by decide +kernel
theorem dX8_isRoundBy_10 : decode cX8_isRoundBy 10 = .ok (.iload_n 3, 1) := by decide +kernel
theorem dX8_isRoundBy_11 : decode cX8_isRoundBy 11 = .ok (.aload_n 0, 1) := by decide +kernel
theorem dX8_isRoundBy_12 : decode cX8_isRoundBy 12 = .ok (.iload_n 1, 1) := by decide +kernel
theorem dX8_isRoundBy_13 : decode cX8_isRoundBy 13 = .ok (.bipush 7, 2) := by decide +kernel
theorem dX8_isRoundBy_15 : decode cX8_isRoundBy 15 = .ok (.invokevirtual 212, 3) := by decide +kernel
theorem dX8_isRoundBy_18 : decode cX8_isRoundBy 18 = .ok (.if_icmp .ge 7, 3) := by decide +kernel
theorem dX8_isRoundBy_21 : decode cX8_isRoundBy 21 = .ok (.iconst 1, 1) := by decide +kernel
theorem dX8_isRoundBy_22 : decode cX8_isRoundBy 22 = .ok (.goto 4, 3) := by decide +kernel
theorem dX8_isRoundBy_25 : decode cX8_isRoundBy 25 = .ok (.iconst 0, 1) := by decide +kernel
theorem dX8_isRoundBy_26 : decode cX8_isRoundBy 26 = .ok (.ireturn, 1) := by decide +kernel
set_option maxHeartbeats 4000000 in
set_option maxRecDepth 100000 in
theorem m_isRoundBy (l : Launch) (D : va_G) (k : Nat → ClassId) (st : Nat → Nat) (lo : Nat) (a : Nat → Nat) (tx : Nat) (t0 : Nat) (we : Nat) (rd : Nat) (ru : Nat) (rw : Nat) (ca : Nat) (fp : Int32) (wd : Int64) (nu : Int32) (na : Int32) (ts : Int32) (df : Int32) (db : Int32) (sd : Int32) (se : Nat → Nat) (tm : Nat → Nat) (gs : Nat → Int32) (fruleRounds : Nat → Int32) (sn : Nat) (kr : Nat) (rn : Nat) (htm : ∀ j, tm j ≤ 3) (hs : sn < 3) (hk : kr < 4) (hrn : rn ≤ 3) : CRi l D k st lo yX8_isRoundBy cX8_isRoundBy 4 (some .boolean) ({ frames := 1, cells := 0, slots := 0, locals := 22 }) [.ref (a 0), .int (nI sn), .int (nI kr), .int (nI rn)] [((a 0), .inr (8, [.ref (a 1), .ref (a 2), .ref (a 3), .ref (a 4), .ref (a 5), .int (nI tx), .int fp, .int (nI t0), .long wd, .int (nI we), .int nu, .int na, .int (nI rd), .ref (a 14), .ref (a 15), .ref (a 16), .int ts, .ref (a 18), .ref (a 19), .ref (a 20), .ref (a 21), .ref (a 22), .ref (a 23), .int (nI ru), .ref (a 25), .ref (a 26), .ref (a 27), .ref (a 28), .ref (a 29), .ref (a 30), .int (nI rw), .ref (a 32), .ref (a 33), .ref (a 34), .int (nI ca), .ref (a 36), .ref (a 37), .int df, .int db, .ref (a 40), .ref (a 41), .int sd, .ref (a 43), .ref (a 44)])), ((a 4), .inl (k 1, 27, .inl (sg se tm gs))), ((a 28), .inl (k 1, 4, .inl fruleRounds))] (fun r => (r = 1 ∧ rn < tm sn) ∨ r = 0) := by
  intro sz
  refine Met.ofW (cc := cX8_isRoundBy) (maxL := 4) (ret := (some .boolean)) (by decide) rfl ?_
  intro p e s m args below meth c s₁ B hml hv
  obtain ⟨rfl, hsz, hlo, hP, hK, hDL, hZ⟩ := hv
  have hx := B.exec
  have hb := B.bytes
  have hr := B.returns
  have hts := WS_ts B.pre
  have hown : s.vm.findClass RX8 = some m.cls := findClass_of_methodNamed B.named
  have hlocks := B.notSynchronized
  subst hsz
  have hA : ∀ q : Nat, s.heap.size ≤ q → (fun q : Nat => s.heap.size ≤ q) q := fun _ h => h
  have hAlo : ∀ q : Nat, (fun q : Nat => s.heap.size ≤ q) q → lo ≤ q := fun q h => Nat.le_trans hlo h
  have hS : va_S (fun q : Nat => s.heap.size ≤ q) s.heap s.heap [] := va_S.rf
  have hl := lv_entry ([.ref (a 0), .int (nI sn), .int (nI kr), .int (nI rn)]) (n := 4) (Nat.le_of_ble_eq_true rfl)
  rw [lg_entry_eq]
  generalize (lg_sl ([.ref (a 0), .int (nI sn), .int (nI kr), .int (nI rn)]) ++ List.replicate (4 - (lg_sl ([.ref (a 0), .int (nI sn), .int (nI kr), .int (nI rn)])).length) Slot.unset).toArray = ls at hl ⊢
  have hl : lv_has ls 4 [(0, .ref (a 0)), (1, .int (nI sn)), (2, .int (nI kr)), (3, .int (nI rn))] := hl
  have hd_7 := htm sn
  refine lv_iload_n hx hb dX8_isRoundBy_0 rfl (lv_at hl 3 rfl) ?_
  refine lv_aload_n hx hb dX8_isRoundBy_1 rfl (lv_at hl 0 rfl) ?_
  refine va_get (D := D) (ci := 8) (v := .ref (a 28)) (C := RX8) (T := TX8) (N := 44) hx hb hts inX8 hown hK hP 0 rfl rfl 27 (by decide) (hts _ tw_1000) (fun _ h9 => h9) rfl dX8_isRoundBy_2 ?_
  refine lv_iload_n hx hb dX8_isRoundBy_5 rfl (lv_at hl 2 rfl) ?_
  refine va_iald hx hb hK hP 2 1 rfl rfl (vp_in_nI (by omega) (by decide)) dX8_isRoundBy_6 ?_
  refine lv_ti (y := (fruleRounds kr)) (by rw [nI_clamp (by omega)]) ?_
  refine lv_icmp_ge (tgt := 25) hx hb dX8_isRoundBy_7 (by decide) (fun c_1 => ?_) (fun c_1 => ?_)
  · refine lv_iconst (v := 0) hx hb dX8_isRoundBy_25 (by decide) ?_
    exact W.zret (v := 0) (ty := .boolean) hx hb hr rfl (fun t ht hW => ⟨⟨0, (), rfl, .inr rfl, trivial⟩, hS.F ht⟩) hS.2.2 dX8_isRoundBy_26
  · refine lv_iload_n hx hb dX8_isRoundBy_10 rfl (lv_at hl 3 rfl) ?_
    refine lv_aload_n hx hb dX8_isRoundBy_11 rfl (lv_at hl 0 rfl) ?_
    refine lv_iload_n hx hb dX8_isRoundBy_12 rfl (lv_at hl 1 rfl) ?_
    refine lv_bipush (v := 7) hx hb dX8_isRoundBy_13 (by decide) ?_
    refine ro_i (D := D) (va_runV (As := [.int (nI sn), .int 7]) (rest := [.int (nI rn)]) ⟨hx, hb, hml, hown, hts⟩ ((m_of l D k st lo a tx t0 we rd ru rw ca fp wd nu na ts df db sd se tm gs sn 7 (by omega) (by omega)) s.heap.size) (cwV 2 hts (gV tw_1194 tw_1196 tw_39 tw_87 tw_1197) rfl rfl rfl (by decide +kernel) ⟨Nat.le_of_ble_eq_true rfl, Nat.le_of_ble_eq_true rfl⟩) (pV hS hAlo hlo hP hK hDL hZ [0, 1] (by decide) rfl (ci := 8) (q0 := 0) rfl rfl) rfl rfl hl.1 rfl (lv_room (Nat.le_of_ble_eq_true rfl)) dX8_isRoundBy_15 ⟨Nat.le_of_ble_eq_true rfl, Nat.le_of_ble_eq_true rfl⟩) hS hA hP (fun r_2 H locs hw_2 hP hS => ?_)
    try dsimp only at hw_2
    obtain rfl := hw_2.trans (sg_tm _ _ _ _)
    refine lv_icmp_ge (tgt := 25) hx hb dX8_isRoundBy_18 (by decide) (fun c_3 => ?_) (fun c_3 => ?_)
    · have c_3 := (nI_leI (a := (tm sn)) (b := rn) (by omega) (by omega)).mp c_3
      refine lv_iconst (v := 0) hx hb dX8_isRoundBy_25 (by decide) ?_
      exact W.zret (v := 0) (ty := .boolean) hx hb hr rfl (fun t ht hW => ⟨⟨0, (), rfl, .inr rfl, trivial⟩, hS.F ht⟩) hS.2.2 dX8_isRoundBy_26
    · have c_3 : ¬ ((tm sn) ≤ rn) := fun h => c_3 ((nI_leI (a := (tm sn)) (b := rn) (by omega) (by omega)).mpr h)
      refine lv_iconst (v := 1) hx hb dX8_isRoundBy_21 (by decide) ?_
      refine lv_goto (tgt := 26) hx hb dX8_isRoundBy_22 (by decide) ?_
      exact W.zret (v := 1) (ty := .boolean) hx hb hr rfl (fun t ht hW => ⟨⟨1, (), rfl, .inl ⟨rfl, by omega⟩, trivial⟩, hS.F ht⟩) hS.2.2 dX8_isRoundBy_26


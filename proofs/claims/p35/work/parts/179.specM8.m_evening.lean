theorem dX8_evening_0 : decode cX8_evening 0 = .ok (.aload_n 0, 1) := by decide +kernel
theorem dX8_evening_1 : decode cX8_evening 1 = .ok (.iload_n 1, 1) := by decide +kernel
theorem dX8_evening_2 : decode cX8_evening 2 = .ok (.invokevirtual 206, 3) := by decide +kernel
theorem dX8_evening_5 : decode cX8_evening 5 = .ok (.ifCond .eq 11, 3) := by decide +kernel
theorem dX8_evening_8 : decode cX8_evening 8 = .ok (.aload_n 0, 1) := by decide +kernel
theorem dX8_evening_9 : decode cX8_evening 9 = .ok (.iload_n 2, 1) := by decide +kernel
theorem dX8_evening_10 : decode cX8_evening 10 = .ok (.invokevirtual 298, 3) := by decide +kernel
theorem dX8_evening_13 : decode cX8_evening 13 = .ok (.ifCond .ne 7, 3) := by decide +kernel
theorem dX8_evening_16 : decode cX8_evening 16 = .ok (.sipush (-1001), 3) := by decide +kernel
theorem dX8_evening_19 : decode cX8_evening 19 = .ok (.ireturn, 1) := by decide +kernel
theorem dX8_evening_20 : decode cX8_evening 20 = .ok (.iload_n 3, 1) := by decide +kernel
theorem dX8_evening_21 : decode cX8_evening 21 = .ok (.i2l, 1) := by decide +kernel
theorem dX8_evening_22 : decode cX8_evening 22 = .ok (.lconst 1, 1) := by decide +kernel
theorem dX8_evening_23 : decode cX8_evening 23 = .ok (.ldc2_w 387, 3) := by decide +kernel
theorem dX8_evening_26 : decode cX8_evening 26 = .ok (.invokestatic 107, 3) := by decide +kernel
theorem dX8_evening_29 : decode cX8_evening 29 = .ok (.ifCond .ne 7, 3) := by decide +kernel
theorem dX8_evening_32 : decode cX8_evening 32 = .ok (.sipush (-1002), 3) := by decide +kernel
theorem dX8_evening_35 : decode cX8_evening 35 = .ok (.ireturn, 1) := by decide +kernel
theorem dX8_evening_36 : decode cX8_evening 36 = .ok (.lconst 0, 1) := by decide +kernel
theorem dX8_evening_37 : decode cX8_evening 37 = .ok (.lstore 4, 2) := by decide +kernel
theorem dX8_evening_39 : decode cX8_evening 39 = .ok (.iconst 0, 1) := by decide +kernel
theorem dX8_evening_40 : decode cX8_evening 40 = .ok (.istore 6, 2) := by decide +kernel
theorem dX8_evening_42 : decode cX8_evening 42 = .ok (.iload 6, 2) := by decide +kernel
theorem dX8_evening_44 : decode cX8_evening 44 = .ok (.iload_n 3, 1) := by decide +kernel
theorem dX8_evening_45 : decode cX8_evening 45 = .ok (.if_icmp .ge 21, 3) := by decide +kernel
theorem dX8_evening_48 : decode cX8_evening 48 = .ok (.lload 4, 2) := by decide +kernel
theorem dX8_evening_50 : decode cX8_evening 50 = .ok (.aload_n 0, 1) := by decide +kernel
theorem dX8_evening_51 : decode cX8_evening 51 = .ok (.iload_n 1, 1) := by decide +kernel
theorem dX8_evening_52 : decode cX8_evening 52 = .ok (.iload_n 2, 1) := by decide +kernel
theorem dX8_evening_53 : decode cX8_evening 53 = .ok (.invokevirtual 389, 3) := by decide +kernel
theorem dX8_evening_56 : decode cX8_evening 56 = .ok (.i2l, 1) := by decide +kernel
theorem dX8_evening_57 : decode cX8_evening 57 = .ok (.ladd, 1) := by decide +kernel
theorem dX8_evening_58 : decode cX8_evening 58 = .ok (.lstore 4, 2) := by decide +kernel
theorem dX8_evening_60 : decode cX8_evening 60 = .ok (.iinc 6 1, 3) := by decide +kernel
theorem dX8_evening_63 : decode cX8_evening 63 = .ok (.goto (-21), 3) := by decide +kernel
theorem dX8_evening_66 : decode cX8_evening 66 = .ok (.lload 4, 2) := by decide +kernel
theorem dX8_evening_68 : decode cX8_evening 68 = .ok (.ldc2_w 392, 3) := by decide +kernel
theorem dX8_evening_71 : decode cX8_evening 71 = .ok (.ldiv, 1) := by decide +kernel
theorem dX8_evening_72 : decode cX8_evening 72 = .ok (.l2i, 1) := by decide +kernel
theorem dX8_evening_73 : decode cX8_evening 73 = .ok (.ireturn, 1) := by decide +kernel
set_option maxHeartbeats 4000000 in
set_option maxRecDepth 100000 in
theorem m_evening (l : Launch) (D : va_G) (k : Nat → ClassId) (st : Nat → Nat) (lo : Nat) (a : Nat → Nat) (tx : Nat) (t0 : Nat) (we : Nat) (rd : Nat) (ru : Nat) (rw : Nat) (ca : Nat) (fp : Int32) (wd : Int64) (nu : Int32) (na : Int32) (ts : Int32) (df : Int32) (db : Int32) (sd : Int32) (dn : Nat → Nat) (se : Nat → Nat) (tm : Nat → Nat) (gs : Nat → Int32) (ffrees : Nat → Int32) (fprices : Nat → Int32) (bm : Nat → Nat) (fbarSeen : Nat → Int32) (fbarFrom : Nat → Int32) (fruleRounds : Nat → Int32) (p0 : Int32) (p1 : Int32) (p2 : Int32) (hdn : ∀ j, dn j ≤ 24) (hse : ∀ j, se j ≤ 2) (htm : ∀ j, tm j ≤ 3) (hbm : ∀ j, bm j ≤ 12) (hru : ru ≤ 4) : CWi l D k st lo yX8_evening cX8_evening 7 (some .int) ({ frames := 5, cells := 0, slots := 0, locals := 122 }) 0 0 [.ref (a 0), .int p0, .int p1, .int p2] [((a 0), .inr (8, [.ref (a 1), .ref (a 2), .ref (a 3), .ref (a 4), .ref (a 5), .int (nI tx), .int fp, .int (nI t0), .long wd, .int (nI we), .int nu, .int na, .int (nI rd), .ref (a 14), .ref (a 15), .ref (a 16), .int ts, .ref (a 18), .ref (a 19), .ref (a 20), .ref (a 21), .ref (a 22), .ref (a 23), .int (nI ru), .ref (a 25), .ref (a 26), .ref (a 27), .ref (a 28), .ref (a 29), .ref (a 30), .int (nI rw), .ref (a 32), .ref (a 33), .ref (a 34), .int (nI ca), .ref (a 36), .ref (a 37), .int df, .int db, .ref (a 40), .ref (a 41), .int sd, .ref (a 43), .ref (a 44)])), ((a 1), .inl (k 1, 3, .inl (nF dn))), ((a 4), .inl (k 1, 27, .inl (sg se tm gs))), ((a 2), .inl (k 1, 72, .inl ffrees)), ((a 3), .inl (k 1, 72, .inl fprices)), ((a 25), .inl (k 1, 4, .inl (nF bm))), ((a 26), .inl (k 1, 48, .inl fbarSeen)), ((a 27), .inl (k 1, 48, .inl fbarFrom)), ((a 28), .inl (k 1, 4, .inl fruleRounds))] (fun (r : Int32) (sd_ : Int32) => True) (fun (sd_ : Int32) => [((a 0), .inr (8, [.ref (a 1), .ref (a 2), .ref (a 3), .ref (a 4), .ref (a 5), .int (nI tx), .int fp, .int (nI t0), .long wd, .int (nI we), .int nu, .int na, .int (nI rd), .ref (a 14), .ref (a 15), .ref (a 16), .int ts, .ref (a 18), .ref (a 19), .ref (a 20), .ref (a 21), .ref (a 22), .ref (a 23), .int (nI ru), .ref (a 25), .ref (a 26), .ref (a 27), .ref (a 28), .ref (a 29), .ref (a 30), .int (nI rw), .ref (a 32), .ref (a 33), .ref (a 34), .int (nI ca), .ref (a 36), .ref (a 37), .int df, .int db, .ref (a 40), .ref (a 41), .int sd_, .ref (a 43), .ref (a 44)])), ((a 1), .inl (k 1, 3, .inl (nF dn))), ((a 4), .inl (k 1, 27, .inl (sg se tm gs))), ((a 2), .inl (k 1, 72, .inl ffrees)), ((a 3), .inl (k 1, 72, .inl fprices)), ((a 25), .inl (k 1, 4, .inl (nF bm))), ((a 26), .inl (k 1, 48, .inl fbarSeen)), ((a 27), .inl (k 1, 48, .inl fbarFrom)), ((a 28), .inl (k 1, 4, .inl fruleRounds))]) := by
  intro sz
  refine Met.ofW (cc := cX8_evening) (maxL := 7) (ret := (some .int)) (by decide) rfl ?_
  intro p e s m args below meth c s₁ B hml hv
  obtain ⟨rfl, hsz, hlo, hP, hK, hDL, hZ⟩ := hv
  have hx := B.exec
  have hb := B.bytes
  have hr := B.returns
  have hts := WS_ts B.pre
  have hown : s.vm.findClass RX8 = some m.cls := findClass_of_methodNamed B.named
  have hlocks := B.notSynchronized
  subst hsz
  have hD := hDL.self (sz := s.heap.size)
  have hAlo := A_lo hDL hlo
  generalize hAe : va_A [((a 0), .inr (8, [.ref (a 1), .ref (a 2), .ref (a 3), .ref (a 4), .ref (a 5), .int (nI tx), .int fp, .int (nI t0), .long wd, .int (nI we), .int nu, .int na, .int (nI rd), .ref (a 14), .ref (a 15), .ref (a 16), .int ts, .ref (a 18), .ref (a 19), .ref (a 20), .ref (a 21), .ref (a 22), .ref (a 23), .int (nI ru), .ref (a 25), .ref (a 26), .ref (a 27), .ref (a 28), .ref (a 29), .ref (a 30), .int (nI rw), .ref (a 32), .ref (a 33), .ref (a 34), .int (nI ca), .ref (a 36), .ref (a 37), .int df, .int db, .ref (a 40), .ref (a 41), .int sd, .ref (a 43), .ref (a 44)])), ((a 1), .inl (k 1, 3, .inl (nF dn))), ((a 4), .inl (k 1, 27, .inl (sg se tm gs))), ((a 2), .inl (k 1, 72, .inl ffrees)), ((a 3), .inl (k 1, 72, .inl fprices)), ((a 25), .inl (k 1, 4, .inl (nF bm))), ((a 26), .inl (k 1, 48, .inl fbarSeen)), ((a 27), .inl (k 1, 48, .inl fbarFrom)), ((a 28), .inl (k 1, 4, .inl fruleRounds))] s.heap.size = A at hD hAlo ⊢
  have hA : ∀ q : Nat, s.heap.size ≤ q → A q := fun q h => by rw [← hAe]; exact Or.inr h
  have hS : va_S A s.heap s.heap [] := va_S.rf
  have hl := lv_entry ([.ref (a 0), .int p0, .int p1, .int p2]) (n := 7) (Nat.le_of_ble_eq_true rfl)
  rw [lg_entry_eq]
  generalize (lg_sl ([.ref (a 0), .int p0, .int p1, .int p2]) ++ List.replicate (7 - (lg_sl ([.ref (a 0), .int p0, .int p1, .int p2])).length) Slot.unset).toArray = ls at hl ⊢
  have hl : lv_has ls 7 [(0, .ref (a 0)), (1, .int p0), (2, .int p1), (3, .int p2)] := hl
  refine lv_aload_n hx hb dX8_evening_0 rfl (lv_at hl 0 rfl) ?_
  refine lv_iload_n hx hb dX8_evening_1 rfl (lv_at hl 1 rfl) ?_
  refine ro_i (D := D) (va_runV (As := [.int p0]) (rest := []) ⟨hx, hb, hml, hown, hts⟩ ((m_isStreet l D k st lo a tx t0 we rd ru rw ca fp wd nu na ts df db sd dn p0 hdn) s.heap.size) (cwV 1 hts (gV tw_1189 tw_1191 tw_38 tw_87 tw_1192) rfl rfl rfl (by decide +kernel) ⟨Nat.le_of_ble_eq_true rfl, Nat.le_of_ble_eq_true rfl⟩) (pV hS hAlo hlo hP hK (va_Dlo hD hAlo) hZ [0, 1] (by decide) rfl (ci := 8) (q0 := 0) rfl rfl) rfl rfl hl.1 rfl (lv_room (Nat.le_of_ble_eq_true rfl)) dX8_evening_2 ⟨Nat.le_of_ble_eq_true rfl, Nat.le_of_ble_eq_true rfl⟩) hS hA hP (fun r_1 H locs hw_1 hP hS => ?_)
  try dsimp only at hw_1
  rcases hw_1 with ⟨rfl, j_2, hj_2, rfl, hw_1⟩ | rfl
  · have hdj_2 := hdn j_2
    have htj_2 := htm j_2
    refine lv_if_eq (tgt := 16) hx hb dX8_evening_5 (by decide) (fun h => absurd h (by decide)) (fun _ => ?_)
    refine lv_aload_n hx hb dX8_evening_8 rfl (lv_at hl 0 rfl) ?_
    refine lv_iload_n hx hb dX8_evening_9 rfl (lv_at hl 2 rfl) ?_
    refine ro_i (D := D) (va_runV (As := [.int p1]) (rest := []) ⟨hx, hb, hml, hown, hts⟩ ((m_isRule l D k st lo a tx t0 we rd ru rw ca fp wd nu na ts df db sd p1 (by omega)) H.size) (cwV 1 hts (gV tw_1321 tw_1323 tw_57 tw_87 tw_1324) rfl rfl rfl (by decide +kernel) ⟨Nat.le_of_ble_eq_true rfl, Nat.le_of_ble_eq_true rfl⟩) (pV hS hAlo hlo hP hK (va_Dlo hD hAlo) hZ [0] (by decide) rfl (ci := 8) (q0 := 0) rfl rfl) rfl rfl hl.1 rfl (lv_room (Nat.le_of_ble_eq_true rfl)) dX8_evening_10 ⟨Nat.le_of_ble_eq_true rfl, Nat.le_of_ble_eq_true rfl⟩) hS hA hP (fun r_3 H locs hw_3 hP hS => ?_)
    try dsimp only at hw_3
    rcases hw_3 with ⟨rfl, j_4, hj_4, rfl, hw_3⟩ | rfl
    · refine lv_if_ne (tgt := 20) hx hb dX8_evening_13 (by decide) (fun _ => ?_) (fun h => absurd h (by decide))
      refine lv_iload_n hx hb dX8_evening_20 rfl (lv_at hl 3 rfl) ?_
      refine lv_i2l (v := p2.toInt64) hx hb dX8_evening_21 rfl ?_
      refine lv_lconst (v := (1 : Int32).toInt64) hx hb dX8_evening_22 (by decide) ?_
      refine lv_ldc2 hx hb hown (hts _ tw_1475) dX8_evening_23 ?_
      refine lv_tl (y := ((50 : Int32).toInt64)) (by decide) ?_
      refine ro_i (D := D) (va_runS (As := [.long (p2.toInt64), .long ((1 : Int32).toInt64), .long ((50 : Int32).toInt64)]) (rest := []) ⟨hx, hb, hml, hown, hts⟩ ((k_in l D k st lo p2 (1 : Int32) (50 : Int32)) H.size) (va_cwS 3 hts (gS tw_1111 tw_1112 tw_87 tw_1113) rfl rfl rfl (by decide +kernel) ⟨Nat.le_of_ble_eq_true rfl, Nat.le_of_ble_eq_true rfl⟩) (pS hS hAlo hlo hP hK (va_Dlo hD hAlo) hZ [] (by decide) rfl) rfl rfl hl.1 rfl (lv_room (Nat.le_of_ble_eq_true rfl)) dX8_evening_26 ⟨Nat.le_of_ble_eq_true rfl, Nat.le_of_ble_eq_true rfl⟩) hS hA hP (fun r_5 H locs hw_5 hP hS => ?_)
      try dsimp only at hw_5
      rcases hw_5 with ⟨rfl, hw_5⟩ | ⟨rfl, hw_5⟩
      · refine lv_if_ne (tgt := 36) hx hb dX8_evening_29 (by decide) (fun _ => ?_) (fun h => absurd h (by decide))
        obtain ⟨nn_9, hna_9, hnb_9, rfl⟩ := inB_ofc (a := 1) (b := 50) (by omega) (by omega) hw_5
        refine lv_lconst (v := (0 : Int32).toInt64) hx hb dX8_evening_36 (by decide) ?_
        refine lv_lstore (lv' := [(4, .long ((0 : Int32).toInt64)), (0, .ref (a 0)), (1, .int (nI j_2)), (2, .int (nI j_4)), (3, .int (nI nn_9))]) hx hb dX8_evening_37 hl (by decide) rfl (fun ls hl => ?_)
        refine lv_iconst (v := 0) hx hb dX8_evening_39 (by decide) ?_
        refine lv_istore (lv' := [(6, .int 0), (4, .long ((0 : Int32).toInt64)), (0, .ref (a 0)), (1, .int (nI j_2)), (2, .int (nI j_4)), (3, .int (nI nn_9))]) hx hb dX8_evening_40 hl (by decide) rfl (fun ls hl => ?_)
        refine W_loop (σ := Nat × Int64 × Int32) (fun (n_ : Nat) (x_ : Nat × Int64 × Int32) (H : Heap) (locs : List Loc) (ls : Array Slot) => match x_ with | (kk_6, al_6, sd2_6) => n_ = 50 - kk_6 ∧ (kk_6 ≤ 50) ∧ va_P D classes [((a 0), .inr (8, [.ref (a 1), .ref (a 2), .ref (a 3), .ref (a 4), .ref (a 5), .int (nI tx), .int fp, .int (nI t0), .long wd, .int (nI we), .int nu, .int na, .int (nI rd), .ref (a 14), .ref (a 15), .ref (a 16), .int ts, .ref (a 18), .ref (a 19), .ref (a 20), .ref (a 21), .ref (a 22), .ref (a 23), .int (nI ru), .ref (a 25), .ref (a 26), .ref (a 27), .ref (a 28), .ref (a 29), .ref (a 30), .int (nI rw), .ref (a 32), .ref (a 33), .ref (a 34), .int (nI ca), .ref (a 36), .ref (a 37), .int df, .int db, .ref (a 40), .ref (a 41), .int sd2_6, .ref (a 43), .ref (a 44)])), ((a 1), .inl (k 1, 3, .inl (nF dn))), ((a 4), .inl (k 1, 27, .inl (sg se tm gs))), ((a 2), .inl (k 1, 72, .inl ffrees)), ((a 3), .inl (k 1, 72, .inl fprices)), ((a 25), .inl (k 1, 4, .inl (nF bm))), ((a 26), .inl (k 1, 48, .inl fbarSeen)), ((a 27), .inl (k 1, 48, .inl fbarFrom)), ((a 28), .inl (k 1, 4, .inl fruleRounds))] H ∧ va_D A [((a 0), .inr (8, [.ref (a 1), .ref (a 2), .ref (a 3), .ref (a 4), .ref (a 5), .int (nI tx), .int fp, .int (nI t0), .long wd, .int (nI we), .int nu, .int na, .int (nI rd), .ref (a 14), .ref (a 15), .ref (a 16), .int ts, .ref (a 18), .ref (a 19), .ref (a 20), .ref (a 21), .ref (a 22), .ref (a 23), .int (nI ru), .ref (a 25), .ref (a 26), .ref (a 27), .ref (a 28), .ref (a 29), .ref (a 30), .int (nI rw), .ref (a 32), .ref (a 33), .ref (a 34), .int (nI ca), .ref (a 36), .ref (a 37), .int df, .int db, .ref (a 40), .ref (a 41), .int sd2_6, .ref (a 43), .ref (a 44)])), ((a 1), .inl (k 1, 3, .inl (nF dn))), ((a 4), .inl (k 1, 27, .inl (sg se tm gs))), ((a 2), .inl (k 1, 72, .inl ffrees)), ((a 3), .inl (k 1, 72, .inl fprices)), ((a 25), .inl (k 1, 4, .inl (nF bm))), ((a 26), .inl (k 1, 48, .inl fbarSeen)), ((a 27), .inl (k 1, 48, .inl fbarFrom)), ((a 28), .inl (k 1, 4, .inl fruleRounds))] ∧ va_S A s.heap H locs ∧ lv_has ls 7 [(6, .int (nI kk_6)), (4, .long al_6), (0, .ref (a 0)), (1, .int (nI j_2)), (2, .int (nI j_4)), (3, .int (nI nn_9))]) (fun n_6 x_6 H locs ls hI ih_6 => ?_) _ (0, ((0 : Int32).toInt64), sd) ⟨rfl, (by omega), hP, hD, hS, (lv_sub hl [0, 1, 2, 3, 4, 5] rfl)⟩
        obtain ⟨kk_6, al_6, sd2_6⟩ := x_6
        obtain ⟨hm_6, hv_6, hP, hD, hS, hl⟩ := hI
        subst hm_6
        refine lv_iload hx hb dX8_evening_42 (lv_at hl 0 rfl) ?_
        refine lv_iload_n hx hb dX8_evening_44 rfl (lv_at hl 5 rfl) ?_
        refine lv_icmp_ge (tgt := 66) hx hb dX8_evening_45 (by decide) (fun c_7 => ?_) (fun c_7 => ?_)
        · have c_7 := (nI_leI (a := nn_9) (b := kk_6) (by omega) (by omega)).mp c_7
          refine lv_lload hx hb dX8_evening_66 (lv_at hl 1 rfl) ?_
          refine lv_ldc2 hx hb hown (hts _ tw_1488) dX8_evening_68 ?_
          refine lv_tl (y := ((1000 : Int32).toInt64)) (by decide) ?_
          refine lv_ldiv hx hb dX8_evening_71 (by decide) ?_
          refine lv_topl (fun x_8 ex_8 => ?_)
          refine lv_l2i hx hb dX8_evening_72 rfl ?_
          refine lv_topi (fun x_9 ex_9 => ?_)
          have hP9 := hP.sub (ws' := [((a 0), .inr (8, [.ref (a 1), .ref (a 2), .ref (a 3), .ref (a 4), .ref (a 5), .int (nI tx), .int fp, .int (nI t0), .long wd, .int (nI we), .int nu, .int na, .int (nI rd), .ref (a 14), .ref (a 15), .ref (a 16), .int ts, .ref (a 18), .ref (a 19), .ref (a 20), .ref (a 21), .ref (a 22), .ref (a 23), .int (nI ru), .ref (a 25), .ref (a 26), .ref (a 27), .ref (a 28), .ref (a 29), .ref (a 30), .int (nI rw), .ref (a 32), .ref (a 33), .ref (a 34), .int (nI ca), .ref (a 36), .ref (a 37), .int df, .int db, .ref (a 40), .ref (a 41), .int sd2_6, .ref (a 43), .ref (a 44)])), ((a 1), .inl (k 1, 3, .inl (nF dn))), ((a 4), .inl (k 1, 27, .inl (sg se tm gs))), ((a 2), .inl (k 1, 72, .inl ffrees)), ((a 3), .inl (k 1, 72, .inl fprices)), ((a 25), .inl (k 1, 4, .inl (nF bm))), ((a 26), .inl (k 1, 48, .inl fbarSeen)), ((a 27), .inl (k 1, 48, .inl fbarFrom)), ((a 28), .inl (k 1, 4, .inl fruleRounds))]) [0, 1, 2, 3, 4, 5, 6, 7, 8] rfl
          have hD9 := hD.sub (ws' := [((a 0), .inr (8, [.ref (a 1), .ref (a 2), .ref (a 3), .ref (a 4), .ref (a 5), .int (nI tx), .int fp, .int (nI t0), .long wd, .int (nI we), .int nu, .int na, .int (nI rd), .ref (a 14), .ref (a 15), .ref (a 16), .int ts, .ref (a 18), .ref (a 19), .ref (a 20), .ref (a 21), .ref (a 22), .ref (a 23), .int (nI ru), .ref (a 25), .ref (a 26), .ref (a 27), .ref (a 28), .ref (a 29), .ref (a 30), .int (nI rw), .ref (a 32), .ref (a 33), .ref (a 34), .int (nI ca), .ref (a 36), .ref (a 37), .int df, .int db, .ref (a 40), .ref (a 41), .int sd2_6, .ref (a 43), .ref (a 44)])), ((a 1), .inl (k 1, 3, .inl (nF dn))), ((a 4), .inl (k 1, 27, .inl (sg se tm gs))), ((a 2), .inl (k 1, 72, .inl ffrees)), ((a 3), .inl (k 1, 72, .inl fprices)), ((a 25), .inl (k 1, 4, .inl (nF bm))), ((a 26), .inl (k 1, 48, .inl fbarSeen)), ((a 27), .inl (k 1, 48, .inl fbarFrom)), ((a 28), .inl (k 1, 4, .inl fruleRounds))]) [0, 1, 2, 3, 4, 5, 6, 7, 8] (by decide) rfl
          exact W.iret (v := x_9) hx hb hr (fun t ht hW => ⟨⟨x_9, sd2_6, rfl, trivial, by rw [ht]; exact hP9, hD9⟩, hS.F ht⟩) hS.2.2 dX8_evening_73
        · have c_7 : ¬ (nn_9 ≤ kk_6) := fun h => c_7 ((nI_leI (a := nn_9) (b := kk_6) (by omega) (by omega)).mpr h)
          refine lv_lload hx hb dX8_evening_48 (lv_at hl 1 rfl) ?_
          refine lv_aload_n hx hb dX8_evening_50 rfl (lv_at hl 2 rfl) ?_
          refine lv_iload_n hx hb dX8_evening_51 rfl (lv_at hl 3 rfl) ?_
          refine lv_iload_n hx hb dX8_evening_52 rfl (lv_at hl 4 rfl) ?_
          refine rw_i (D := D) (wr := []) (va_runV (As := [.int (nI j_2), .int (nI j_4)]) (rest := [.long al_6]) ⟨hx, hb, hml, hown, hts⟩ ((m_drive l D k st lo a tx t0 we rd ru rw ca fp wd nu na ts df db sd2_6 dn se tm gs ffrees fprices bm fbarSeen fbarFrom fruleRounds j_2 j_4 hdn hse htm hbm (by omega) (by omega) (by omega)) H.size) (cwV 2 hts (gV tw_1476 tw_1478 tw_76 tw_87 tw_1479) rfl rfl rfl (by decide +kernel) ⟨Nat.le_of_ble_eq_true rfl, Nat.le_of_ble_eq_true rfl⟩) (pV hS hAlo hlo hP hK (va_Dlo hD hAlo) hZ [0, 1, 2, 3, 4, 5, 6, 7, 8] (by decide) rfl (ci := 8) (q0 := 0) rfl rfl) rfl rfl hl.1 rfl (lv_room (Nat.le_of_ble_eq_true rfl)) dX8_evening_53 ⟨Nat.le_of_ble_eq_true rfl, Nat.le_of_ble_eq_true rfl⟩) hS hA hP hD [0, 1, 2, 3, 4, 5, 6, 7, 8] [] rfl rfl (by decide) (by decide) (fun r_10 u H locs hw_10 hP hD hS => ?_)
          obtain ⟨sd__10, rfl⟩ : ∃ z, z = u := ⟨_, rfl⟩
          replace hP : va_P D classes [((a 0), .inr (8, [.ref (a 1), .ref (a 2), .ref (a 3), .ref (a 4), .ref (a 5), .int (nI tx), .int fp, .int (nI t0), .long wd, .int (nI we), .int nu, .int na, .int (nI rd), .ref (a 14), .ref (a 15), .ref (a 16), .int ts, .ref (a 18), .ref (a 19), .ref (a 20), .ref (a 21), .ref (a 22), .ref (a 23), .int (nI ru), .ref (a 25), .ref (a 26), .ref (a 27), .ref (a 28), .ref (a 29), .ref (a 30), .int (nI rw), .ref (a 32), .ref (a 33), .ref (a 34), .int (nI ca), .ref (a 36), .ref (a 37), .int df, .int db, .ref (a 40), .ref (a 41), .int sd__10, .ref (a 43), .ref (a 44)])), ((a 1), .inl (k 1, 3, .inl (nF dn))), ((a 4), .inl (k 1, 27, .inl (sg se tm gs))), ((a 2), .inl (k 1, 72, .inl ffrees)), ((a 3), .inl (k 1, 72, .inl fprices)), ((a 25), .inl (k 1, 4, .inl (nF bm))), ((a 26), .inl (k 1, 48, .inl fbarSeen)), ((a 27), .inl (k 1, 48, .inl fbarFrom)), ((a 28), .inl (k 1, 4, .inl fruleRounds))] H := hP
          replace hD : va_D A [((a 0), .inr (8, [.ref (a 1), .ref (a 2), .ref (a 3), .ref (a 4), .ref (a 5), .int (nI tx), .int fp, .int (nI t0), .long wd, .int (nI we), .int nu, .int na, .int (nI rd), .ref (a 14), .ref (a 15), .ref (a 16), .int ts, .ref (a 18), .ref (a 19), .ref (a 20), .ref (a 21), .ref (a 22), .ref (a 23), .int (nI ru), .ref (a 25), .ref (a 26), .ref (a 27), .ref (a 28), .ref (a 29), .ref (a 30), .int (nI rw), .ref (a 32), .ref (a 33), .ref (a 34), .int (nI ca), .ref (a 36), .ref (a 37), .int df, .int db, .ref (a 40), .ref (a 41), .int sd__10, .ref (a 43), .ref (a 44)])), ((a 1), .inl (k 1, 3, .inl (nF dn))), ((a 4), .inl (k 1, 27, .inl (sg se tm gs))), ((a 2), .inl (k 1, 72, .inl ffrees)), ((a 3), .inl (k 1, 72, .inl fprices)), ((a 25), .inl (k 1, 4, .inl (nF bm))), ((a 26), .inl (k 1, 48, .inl fbarSeen)), ((a 27), .inl (k 1, 48, .inl fbarFrom)), ((a 28), .inl (k 1, 4, .inl fruleRounds))] := hD
          try dsimp only at hw_10
          refine lv_i2l (v := r_10.toInt64) hx hb dX8_evening_56 rfl ?_
          refine lv_ladd hx hb dX8_evening_57 ?_
          refine lv_topl (fun x_11 ex_11 => ?_)
          refine lv_lstore (lv' := [(4, .long x_11), (6, .int (nI kk_6)), (0, .ref (a 0)), (1, .int (nI j_2)), (2, .int (nI j_4)), (3, .int (nI nn_9))]) hx hb dX8_evening_58 hl (by decide) rfl (fun ls hl => ?_)
          refine lv_iinc (v := (nI (kk_6 + 1))) (lv' := [(6, .int (nI (kk_6 + 1))), (4, .long x_11), (0, .ref (a 0)), (1, .int (nI j_2)), (2, .int (nI j_4)), (3, .int (nI nn_9))]) hx hb dX8_evening_60 hl (k := 1) rfl (nI_add kk_6 1) (by decide) rfl (fun ls hl => ?_)
          refine lv_goto (tgt := 42) hx hb dX8_evening_63 (by decide) ?_
          exact ih_6 _ (kk_6 + 1, x_11, sd__10) _ _ _ (by omega) ⟨rfl, (by omega), hP, hD, hS, (lv_sub hl [0, 1, 2, 3, 4, 5] rfl)⟩
      · refine lv_if_ne (tgt := 36) hx hb dX8_evening_29 (by decide) (fun h => absurd (by decide) h) (fun _ => ?_)
        refine lv_sipush (v := (-1002)) hx hb dX8_evening_32 (by decide) ?_
        have hP9 := hP.sub (ws' := [((a 0), .inr (8, [.ref (a 1), .ref (a 2), .ref (a 3), .ref (a 4), .ref (a 5), .int (nI tx), .int fp, .int (nI t0), .long wd, .int (nI we), .int nu, .int na, .int (nI rd), .ref (a 14), .ref (a 15), .ref (a 16), .int ts, .ref (a 18), .ref (a 19), .ref (a 20), .ref (a 21), .ref (a 22), .ref (a 23), .int (nI ru), .ref (a 25), .ref (a 26), .ref (a 27), .ref (a 28), .ref (a 29), .ref (a 30), .int (nI rw), .ref (a 32), .ref (a 33), .ref (a 34), .int (nI ca), .ref (a 36), .ref (a 37), .int df, .int db, .ref (a 40), .ref (a 41), .int sd, .ref (a 43), .ref (a 44)])), ((a 1), .inl (k 1, 3, .inl (nF dn))), ((a 4), .inl (k 1, 27, .inl (sg se tm gs))), ((a 2), .inl (k 1, 72, .inl ffrees)), ((a 3), .inl (k 1, 72, .inl fprices)), ((a 25), .inl (k 1, 4, .inl (nF bm))), ((a 26), .inl (k 1, 48, .inl fbarSeen)), ((a 27), .inl (k 1, 48, .inl fbarFrom)), ((a 28), .inl (k 1, 4, .inl fruleRounds))]) [0, 1, 2, 3, 4, 5, 6, 7, 8] rfl
        have hD9 := hD.sub (ws' := [((a 0), .inr (8, [.ref (a 1), .ref (a 2), .ref (a 3), .ref (a 4), .ref (a 5), .int (nI tx), .int fp, .int (nI t0), .long wd, .int (nI we), .int nu, .int na, .int (nI rd), .ref (a 14), .ref (a 15), .ref (a 16), .int ts, .ref (a 18), .ref (a 19), .ref (a 20), .ref (a 21), .ref (a 22), .ref (a 23), .int (nI ru), .ref (a 25), .ref (a 26), .ref (a 27), .ref (a 28), .ref (a 29), .ref (a 30), .int (nI rw), .ref (a 32), .ref (a 33), .ref (a 34), .int (nI ca), .ref (a 36), .ref (a 37), .int df, .int db, .ref (a 40), .ref (a 41), .int sd, .ref (a 43), .ref (a 44)])), ((a 1), .inl (k 1, 3, .inl (nF dn))), ((a 4), .inl (k 1, 27, .inl (sg se tm gs))), ((a 2), .inl (k 1, 72, .inl ffrees)), ((a 3), .inl (k 1, 72, .inl fprices)), ((a 25), .inl (k 1, 4, .inl (nF bm))), ((a 26), .inl (k 1, 48, .inl fbarSeen)), ((a 27), .inl (k 1, 48, .inl fbarFrom)), ((a 28), .inl (k 1, 4, .inl fruleRounds))]) [0, 1, 2, 3, 4, 5, 6, 7, 8] (by decide) rfl
        exact W.iret (v := (-1002)) hx hb hr (fun t ht hW => ⟨⟨(-1002), sd, rfl, trivial, by rw [ht]; exact hP9, hD9⟩, hS.F ht⟩) hS.2.2 dX8_evening_35
    · refine lv_if_ne (tgt := 20) hx hb dX8_evening_13 (by decide) (fun h => absurd (by decide) h) (fun _ => ?_)
      refine lv_sipush (v := (-1001)) hx hb dX8_evening_16 (by decide) ?_
      have hP9 := hP.sub (ws' := [((a 0), .inr (8, [.ref (a 1), .ref (a 2), .ref (a 3), .ref (a 4), .ref (a 5), .int (nI tx), .int fp, .int (nI t0), .long wd, .int (nI we), .int nu, .int na, .int (nI rd), .ref (a 14), .ref (a 15), .ref (a 16), .int ts, .ref (a 18), .ref (a 19), .ref (a 20), .ref (a 21), .ref (a 22), .ref (a 23), .int (nI ru), .ref (a 25), .ref (a 26), .ref (a 27), .ref (a 28), .ref (a 29), .ref (a 30), .int (nI rw), .ref (a 32), .ref (a 33), .ref (a 34), .int (nI ca), .ref (a 36), .ref (a 37), .int df, .int db, .ref (a 40), .ref (a 41), .int sd, .ref (a 43), .ref (a 44)])), ((a 1), .inl (k 1, 3, .inl (nF dn))), ((a 4), .inl (k 1, 27, .inl (sg se tm gs))), ((a 2), .inl (k 1, 72, .inl ffrees)), ((a 3), .inl (k 1, 72, .inl fprices)), ((a 25), .inl (k 1, 4, .inl (nF bm))), ((a 26), .inl (k 1, 48, .inl fbarSeen)), ((a 27), .inl (k 1, 48, .inl fbarFrom)), ((a 28), .inl (k 1, 4, .inl fruleRounds))]) [0, 1, 2, 3, 4, 5, 6, 7, 8] rfl
      have hD9 := hD.sub (ws' := [((a 0), .inr (8, [.ref (a 1), .ref (a 2), .ref (a 3), .ref (a 4), .ref (a 5), .int (nI tx), .int fp, .int (nI t0), .long wd, .int (nI we), .int nu, .int na, .int (nI rd), .ref (a 14), .ref (a 15), .ref (a 16), .int ts, .ref (a 18), .ref (a 19), .ref (a 20), .ref (a 21), .ref (a 22), .ref (a 23), .int (nI ru), .ref (a 25), .ref (a 26), .ref (a 27), .ref (a 28), .ref (a 29), .ref (a 30), .int (nI rw), .ref (a 32), .ref (a 33), .ref (a 34), .int (nI ca), .ref (a 36), .ref (a 37), .int df, .int db, .ref (a 40), .ref (a 41), .int sd, .ref (a 43), .ref (a 44)])), ((a 1), .inl (k 1, 3, .inl (nF dn))), ((a 4), .inl (k 1, 27, .inl (sg se tm gs))), ((a 2), .inl (k 1, 72, .inl ffrees)), ((a 3), .inl (k 1, 72, .inl fprices)), ((a 25), .inl (k 1, 4, .inl (nF bm))), ((a 26), .inl (k 1, 48, .inl fbarSeen)), ((a 27), .inl (k 1, 48, .inl fbarFrom)), ((a 28), .inl (k 1, 4, .inl fruleRounds))]) [0, 1, 2, 3, 4, 5, 6, 7, 8] (by decide) rfl
      exact W.iret (v := (-1001)) hx hb hr (fun t ht hW => ⟨⟨(-1001), sd, rfl, trivial, by rw [ht]; exact hP9, hD9⟩, hS.F ht⟩) hS.2.2 dX8_evening_19
  · refine lv_if_eq (tgt := 16) hx hb dX8_evening_5 (by decide) (fun _ => ?_) (fun h => absurd (by decide) h)
    refine lv_sipush (v := (-1001)) hx hb dX8_evening_16 (by decide) ?_
    have hP9 := hP.sub (ws' := [((a 0), .inr (8, [.ref (a 1), .ref (a 2), .ref (a 3), .ref (a 4), .ref (a 5), .int (nI tx), .int fp, .int (nI t0), .long wd, .int (nI we), .int nu, .int na, .int (nI rd), .ref (a 14), .ref (a 15), .ref (a 16), .int ts, .ref (a 18), .ref (a 19), .ref (a 20), .ref (a 21), .ref (a 22), .ref (a 23), .int (nI ru), .ref (a 25), .ref (a 26), .ref (a 27), .ref (a 28), .ref (a 29), .ref (a 30), .int (nI rw), .ref (a 32), .ref (a 33), .ref (a 34), .int (nI ca), .ref (a 36), .ref (a 37), .int df, .int db, .ref (a 40), .ref (a 41), .int sd, .ref (a 43), .ref (a 44)])), ((a 1), .inl (k 1, 3, .inl (nF dn))), ((a 4), .inl (k 1, 27, .inl (sg se tm gs))), ((a 2), .inl (k 1, 72, .inl ffrees)), ((a 3), .inl (k 1, 72, .inl fprices)), ((a 25), .inl (k 1, 4, .inl (nF bm))), ((a 26), .inl (k 1, 48, .inl fbarSeen)), ((a 27), .inl (k 1, 48, .inl fbarFrom)), ((a 28), .inl (k 1, 4, .inl fruleRounds))]) [0, 1, 2, 3, 4, 5, 6, 7, 8] rfl
    have hD9 := hD.sub (ws' := [((a 0), .inr (8, [.ref (a 1), .ref (a 2), .ref (a 3), .ref (a 4), .ref (a 5), .int (nI tx), .int fp, .int (nI t0), .long wd, .int (nI we), .int nu, .int na, .int (nI rd), .ref (a 14), .ref (a 15), .ref (a 16), .int ts, .ref (a 18), .ref (a 19), .ref (a 20), .ref (a 21), .ref (a 22), .ref (a 23), .int (nI ru), .ref (a 25), .ref (a 26), .ref (a 27), .ref (a 28), .ref (a 29), .ref (a 30), .int (nI rw), .ref (a 32), .ref (a 33), .ref (a 34), .int (nI ca), .ref (a 36), .ref (a 37), .int df, .int db, .ref (a 40), .ref (a 41), .int sd, .ref (a 43), .ref (a 44)])), ((a 1), .inl (k 1, 3, .inl (nF dn))), ((a 4), .inl (k 1, 27, .inl (sg se tm gs))), ((a 2), .inl (k 1, 72, .inl ffrees)), ((a 3), .inl (k 1, 72, .inl fprices)), ((a 25), .inl (k 1, 4, .inl (nF bm))), ((a 26), .inl (k 1, 48, .inl fbarSeen)), ((a 27), .inl (k 1, 48, .inl fbarFrom)), ((a 28), .inl (k 1, 4, .inl fruleRounds))]) [0, 1, 2, 3, 4, 5, 6, 7, 8] (by decide) rfl
    exact W.iret (v := (-1001)) hx hb hr (fun t ht hW => ⟨⟨(-1001), sd, rfl, trivial, by rw [ht]; exact hP9, hD9⟩, hS.F ht⟩) hS.2.2 dX8_evening_19


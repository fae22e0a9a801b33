theorem dX8_bar_0 : decode cX8_bar 0 = .ok (.aload_n 0, 1) := by decide +kernel
theorem dX8_bar_1 : decode cX8_bar 1 = .ok (.iload_n 1, 1) := by decide +kernel
theorem dX8_bar_2 : decode cX8_bar 2 = .ok (.invokevirtual 206, 3) := by decide +kernel
theorem dX8_bar_5 : decode cX8_bar 5 = .ok (.ifCond .ne 7, 3) := by decide +kernel
theorem dX8_bar_8 : decode cX8_bar 8 = .ok (.sipush (-1001), 3) := by decide +kernel
theorem dX8_bar_11 : decode cX8_bar 11 = .ok (.ireturn, 1) := by decide +kernel
theorem dX8_bar_12 : decode cX8_bar 12 = .ok (.aload_n 0, 1) := by decide +kernel
theorem dX8_bar_13 : decode cX8_bar 13 = .ok (.iload_n 1, 1) := by decide +kernel
theorem dX8_bar_14 : decode cX8_bar 14 = .ok (.iload_n 2, 1) := by decide +kernel
theorem dX8_bar_15 : decode cX8_bar 15 = .ok (.invokevirtual 234, 3) := by decide +kernel
theorem dX8_bar_18 : decode cX8_bar 18 = .ok (.ifCond .ne 7, 3) := by decide +kernel
theorem dX8_bar_21 : decode cX8_bar 21 = .ok (.sipush (-1002), 3) := by decide +kernel
theorem dX8_bar_24 : decode cX8_bar 24 = .ok (.ireturn, 1) := by decide +kernel
theorem dX8_bar_25 : decode cX8_bar 25 = .ok (.aload_n 0, 1) := by decide +kernel
theorem dX8_bar_26 : decode cX8_bar 26 = .ok (.iload_n 1, 1) := by decide +kernel
theorem dX8_bar_27 : decode cX8_bar 27 = .ok (.invokevirtual 268, 3) := by decide +kernel
theorem dX8_bar_30 : decode cX8_bar 30 = .ok (.aload_n 0, 1) := by decide +kernel
theorem dX8_bar_31 : decode cX8_bar 31 = .ok (.getfield 7, 3) := by decide +kernel
theorem dX8_bar_34 : decode cX8_bar 34 = .ok (.iload_n 1, 1) := by decide +kernel
theorem dX8_bar_35 : decode cX8_bar 35 = .ok (.iaload, 1) := by decide +kernel
theorem dX8_bar_36 : decode cX8_bar 36 = .ok (.istore_n 3, 1) := by decide +kernel
theorem dX8_bar_37 : decode cX8_bar 37 = .ok (.iconst 0, 1) := by decide +kernel
theorem dX8_bar_38 : decode cX8_bar 38 = .ok (.istore 4, 2) := by decide +kernel
theorem dX8_bar_40 : decode cX8_bar 40 = .ok (.iload 4, 2) := by decide +kernel
theorem dX8_bar_42 : decode cX8_bar 42 = .ok (.iload_n 3, 1) := by decide +kernel
theorem dX8_bar_43 : decode cX8_bar 43 = .ok (.if_icmp .gt 95, 3) := by decide +kernel
theorem dX8_bar_46 : decode cX8_bar 46 = .ok (.iconst 1, 1) := by decide +kernel
theorem dX8_bar_47 : decode cX8_bar 47 = .ok (.istore 5, 2) := by decide +kernel
theorem dX8_bar_49 : decode cX8_bar 49 = .ok (.iconst 0, 1) := by decide +kernel
theorem dX8_bar_50 : decode cX8_bar 50 = .ok (.istore 6, 2) := by decide +kernel
theorem dX8_bar_52 : decode cX8_bar 52 = .ok (.iload 6, 2) := by decide +kernel
theorem dX8_bar_54 : decode cX8_bar 54 = .ok (.iload_n 3, 1) := by decide +kernel
theorem dX8_bar_55 : decode cX8_bar 55 = .ok (.if_icmp .ge 69, 3) := by decide +kernel
theorem dX8_bar_58 : decode cX8_bar 58 = .ok (.iconst 1, 1) := by decide +kernel
theorem dX8_bar_59 : decode cX8_bar 59 = .ok (.istore 7, 2) := by decide +kernel
theorem dX8_bar_61 : decode cX8_bar 61 = .ok (.iload 7, 2) := by decide +kernel
theorem dX8_bar_63 : decode cX8_bar 63 = .ok (.iconst 1, 1) := by decide +kernel
theorem dX8_bar_64 : decode cX8_bar 64 = .ok (.aload_n 0, 1) := by decide +kernel
theorem dX8_bar_65 : decode cX8_bar 65 = .ok (.iload_n 1, 1) := by decide +kernel
theorem dX8_bar_66 : decode cX8_bar 66 = .ok (.iload 6, 2) := by decide +kernel
theorem dX8_bar_68 : decode cX8_bar 68 = .ok (.invokevirtual 251, 3) := by decide +kernel
theorem dX8_bar_71 : decode cX8_bar 71 = .ok (.ishl, 1) := by decide +kernel
theorem dX8_bar_72 : decode cX8_bar 72 = .ok (.if_icmp .ge 46, 3) := by decide +kernel
theorem dX8_bar_75 : decode cX8_bar 75 = .ok (.iload 5, 2) := by decide +kernel
theorem dX8_bar_77 : decode cX8_bar 77 = .ok (.ifCond .eq 32, 3) := by decide +kernel
theorem dX8_bar_80 : decode cX8_bar 80 = .ok (.aload_n 0, 1) := by decide +kernel
theorem dX8_bar_81 : decode cX8_bar 81 = .ok (.iload_n 1, 1) := by decide +kernel
theorem dX8_bar_82 : decode cX8_bar 82 = .ok (.iload_n 2, 1) := by decide +kernel
theorem dX8_bar_83 : decode cX8_bar 83 = .ok (.iload 6, 2) := by decide +kernel
theorem dX8_bar_85 : decode cX8_bar 85 = .ok (.iload 7, 2) := by decide +kernel
theorem dX8_bar_87 : decode cX8_bar 87 = .ok (.invokevirtual 272, 3) := by decide +kernel
theorem dX8_bar_90 : decode cX8_bar 90 = .ok (.iload 6, 2) := by decide +kernel
theorem dX8_bar_92 : decode cX8_bar 92 = .ok (.iload 4, 2) := by decide +kernel
theorem dX8_bar_94 : decode cX8_bar 94 = .ok (.if_icmp .lt 7, 3) := by decide +kernel
theorem dX8_bar_97 : decode cX8_bar 97 = .ok (.iconst 1, 1) := by decide +kernel
theorem dX8_bar_98 : decode cX8_bar 98 = .ok (.goto 4, 3) := by decide +kernel
theorem dX8_bar_101 : decode cX8_bar 101 = .ok (.iconst 0, 1) := by decide +kernel
theorem dX8_bar_102 : decode cX8_bar 102 = .ok (.if_icmp .ne 7, 3) := by decide +kernel
theorem dX8_bar_105 : decode cX8_bar 105 = .ok (.iconst 1, 1) := by decide +kernel
theorem dX8_bar_106 : decode cX8_bar 106 = .ok (.goto 4, 3) := by decide +kernel
theorem dX8_bar_109 : decode cX8_bar 109 = .ok (.iconst 0, 1) := by decide +kernel
theorem dX8_bar_110 : decode cX8_bar 110 = .ok (.istore 5, 2) := by decide +kernel
theorem dX8_bar_112 : decode cX8_bar 112 = .ok (.iinc 7 2, 3) := by decide +kernel
theorem dX8_bar_115 : decode cX8_bar 115 = .ok (.goto (-54), 3) := by decide +kernel
theorem dX8_bar_118 : decode cX8_bar 118 = .ok (.iinc 6 1, 3) := by decide +kernel
theorem dX8_bar_121 : decode cX8_bar 121 = .ok (.goto (-69), 3) := by decide +kernel
theorem dX8_bar_124 : decode cX8_bar 124 = .ok (.iload 5, 2) := by decide +kernel
theorem dX8_bar_126 : decode cX8_bar 126 = .ok (.ifCond .eq 6, 3) := by decide +kernel
theorem dX8_bar_129 : decode cX8_bar 129 = .ok (.iload 4, 2) := by decide +kernel
theorem dX8_bar_131 : decode cX8_bar 131 = .ok (.ireturn, 1) := by decide +kernel
theorem dX8_bar_132 : decode cX8_bar 132 = .ok (.iinc 4 1, 3) := by decide +kernel
theorem dX8_bar_135 : decode cX8_bar 135 = .ok (.goto (-95), 3) := by decide +kernel
theorem dX8_bar_138 : decode cX8_bar 138 = .ok (.iconst (-1), 1) := by decide +kernel
theorem dX8_bar_139 : decode cX8_bar 139 = .ok (.ireturn, 1) := by decide +kernel
set_option maxHeartbeats 4000000 in
set_option maxRecDepth 100000 in
theorem m_bar (l : Launch) (D : va_G) (k : Nat → ClassId) (st : Nat → Nat) (lo : Nat) (a : Nat → Nat) (tx : Nat) (t0 : Nat) (we : Nat) (rd : Nat) (ru : Nat) (rw : Nat) (ca : Nat) (fp : Int32) (wd : Int64) (nu : Int32) (na : Int32) (ts : Int32) (df : Int32) (db : Int32) (sd : Int32) (dn : Nat → Nat) (se : Nat → Nat) (tm : Nat → Nat) (gs : Nat → Int32) (ffrees : Nat → Int32) (fprices : Nat → Int32) (fons : Nat → Int32) (fworths : Nat → Int32) (fstarts : Nat → Int32) (fends : Nat → Int32) (fgoesRound : Nat → Int32) (fbegin : Nat → Int32) (p0 : Int32) (p1 : Int32) (hdn : ∀ j, dn j ≤ 24) (hse : ∀ j, se j ≤ 2) (htm : ∀ j, tm j ≤ 3) : CWi l D k st lo yX8_bar cX8_bar 8 (some .int) ({ frames := 6, cells := 0, slots := 0, locals := 144 }) 0 0 [.ref (a 0), .int p0, .int p1] [((a 0), .inr (8, [.ref (a 1), .ref (a 2), .ref (a 3), .ref (a 4), .ref (a 5), .int (nI tx), .int fp, .int (nI t0), .long wd, .int (nI we), .int nu, .int na, .int (nI rd), .ref (a 14), .ref (a 15), .ref (a 16), .int ts, .ref (a 18), .ref (a 19), .ref (a 20), .ref (a 21), .ref (a 22), .ref (a 23), .int (nI ru), .ref (a 25), .ref (a 26), .ref (a 27), .ref (a 28), .ref (a 29), .ref (a 30), .int (nI rw), .ref (a 32), .ref (a 33), .ref (a 34), .int (nI ca), .ref (a 36), .ref (a 37), .int df, .int db, .ref (a 40), .ref (a 41), .int sd, .ref (a 43), .ref (a 44)])), ((a 1), .inl (k 1, 3, .inl (nF dn))), ((a 4), .inl (k 1, 27, .inl (sg se tm gs))), ((a 2), .inl (k 1, 72, .inl ffrees)), ((a 3), .inl (k 1, 72, .inl fprices)), ((a 18), .inl (k 1, 768, .inl fons)), ((a 19), .inl (k 1, 768, .inl fworths)), ((a 20), .inl (k 1, 5, .inl fstarts)), ((a 21), .inl (k 1, 4, .inl fends)), ((a 22), .inl (k 2, 4, .inl fgoesRound)), ((a 23), .inl (k 1, 8, .inl fbegin))] (fun (r : Int32) (u : (Nat → Int32) × (Nat → Int32) × (Nat → Int32) × (Nat → Int32) × (Nat → Int32) × (Nat → Int32)) => match u with | (fons_, fworths_, fstarts_, fends_, fgoesRound_, fbegin_) => True) (fun (u : (Nat → Int32) × (Nat → Int32) × (Nat → Int32) × (Nat → Int32) × (Nat → Int32) × (Nat → Int32)) => match u with | (fons_, fworths_, fstarts_, fends_, fgoesRound_, fbegin_) => [((a 0), .inr (8, [.ref (a 1), .ref (a 2), .ref (a 3), .ref (a 4), .ref (a 5), .int (nI tx), .int fp, .int (nI t0), .long wd, .int (nI we), .int nu, .int na, .int (nI rd), .ref (a 14), .ref (a 15), .ref (a 16), .int ts, .ref (a 18), .ref (a 19), .ref (a 20), .ref (a 21), .ref (a 22), .ref (a 23), .int (nI ru), .ref (a 25), .ref (a 26), .ref (a 27), .ref (a 28), .ref (a 29), .ref (a 30), .int (nI rw), .ref (a 32), .ref (a 33), .ref (a 34), .int (nI ca), .ref (a 36), .ref (a 37), .int df, .int db, .ref (a 40), .ref (a 41), .int sd, .ref (a 43), .ref (a 44)])), ((a 1), .inl (k 1, 3, .inl (nF dn))), ((a 4), .inl (k 1, 27, .inl (sg se tm gs))), ((a 2), .inl (k 1, 72, .inl ffrees)), ((a 3), .inl (k 1, 72, .inl fprices)), ((a 18), .inl (k 1, 768, .inl fons_)), ((a 19), .inl (k 1, 768, .inl fworths_)), ((a 20), .inl (k 1, 5, .inl fstarts_)), ((a 21), .inl (k 1, 4, .inl fends_)), ((a 22), .inl (k 2, 4, .inl fgoesRound_)), ((a 23), .inl (k 1, 8, .inl fbegin_))]) := by
  intro sz
  refine Met.ofW (cc := cX8_bar) (maxL := 8) (ret := (some .int)) (by decide) rfl ?_
  intro p e s m args below meth c s₁ B hml hv
  obtain ⟨rfl, hsz, hlo, hP, hK, hDL, hZ⟩ := hv
  have hx := B.exec
  have hb := B.bytes
  have hr := B.returns
  have hts := WS_ts B.pre
  have hown : s.vm.findClass RX8 = some m.cls := findClass_of_methodNamed B.named
  have hlocks := B.notSynchronized
  subst hsz
  have hD := hDL.self (sz := s.heap.size)
  have hAlo := A_lo hDL hlo
  generalize hAe : va_A [((a 0), .inr (8, [.ref (a 1), .ref (a 2), .ref (a 3), .ref (a 4), .ref (a 5), .int (nI tx), .int fp, .int (nI t0), .long wd, .int (nI we), .int nu, .int na, .int (nI rd), .ref (a 14), .ref (a 15), .ref (a 16), .int ts, .ref (a 18), .ref (a 19), .ref (a 20), .ref (a 21), .ref (a 22), .ref (a 23), .int (nI ru), .ref (a 25), .ref (a 26), .ref (a 27), .ref (a 28), .ref (a 29), .ref (a 30), .int (nI rw), .ref (a 32), .ref (a 33), .ref (a 34), .int (nI ca), .ref (a 36), .ref (a 37), .int df, .int db, .ref (a 40), .ref (a 41), .int sd, .ref (a 43), .ref (a 44)])), ((a 1), .inl (k 1, 3, .inl (nF dn))), ((a 4), .inl (k 1, 27, .inl (sg se tm gs))), ((a 2), .inl (k 1, 72, .inl ffrees)), ((a 3), .inl (k 1, 72, .inl fprices)), ((a 18), .inl (k 1, 768, .inl fons)), ((a 19), .inl (k 1, 768, .inl fworths)), ((a 20), .inl (k 1, 5, .inl fstarts)), ((a 21), .inl (k 1, 4, .inl fends)), ((a 22), .inl (k 2, 4, .inl fgoesRound)), ((a 23), .inl (k 1, 8, .inl fbegin))] s.heap.size = A at hD hAlo ⊢
  have hA : ∀ q : Nat, s.heap.size ≤ q → A q := fun q h => by rw [← hAe]; exact Or.inr h
  have hS : va_S A s.heap s.heap [] := va_S.rf
  have hl := lv_entry ([.ref (a 0), .int p0, .int p1]) (n := 8) (Nat.le_of_ble_eq_true rfl)
  rw [lg_entry_eq]
  generalize (lg_sl ([.ref (a 0), .int p0, .int p1]) ++ List.replicate (8 - (lg_sl ([.ref (a 0), .int p0, .int p1])).length) Slot.unset).toArray = ls at hl ⊢
  have hl : lv_has ls 8 [(0, .ref (a 0)), (1, .int p0), (2, .int p1)] := hl
  refine lv_aload_n hx hb dX8_bar_0 rfl (lv_at hl 0 rfl) ?_
  refine lv_iload_n hx hb dX8_bar_1 rfl (lv_at hl 1 rfl) ?_
  refine ro_i (D := D) (va_runV (As := [.int p0]) (rest := []) ⟨hx, hb, hml, hown, hts⟩ ((m_isStreet l D k st lo a tx t0 we rd ru rw ca fp wd nu na ts df db sd dn p0 hdn) s.heap.size) (cwV 1 hts (gV tw_1189 tw_1191 tw_38 tw_87 tw_1192) rfl rfl rfl (by decide +kernel) ⟨Nat.le_of_ble_eq_true rfl, Nat.le_of_ble_eq_true rfl⟩) (pV hS hAlo hlo hP hK (va_Dlo hD hAlo) hZ [0, 1] (by decide) rfl (ci := 8) (q0 := 0) rfl rfl) rfl rfl hl.1 rfl (lv_room (Nat.le_of_ble_eq_true rfl)) dX8_bar_2 ⟨Nat.le_of_ble_eq_true rfl, Nat.le_of_ble_eq_true rfl⟩) hS hA hP (fun r_1 H locs hw_1 hP hS => ?_)
  try dsimp only at hw_1
  rcases hw_1 with ⟨rfl, j_2, hj_2, rfl, hw_1⟩ | rfl
  · have hdj_2 := hdn j_2
    have htj_2 := htm j_2
    refine lv_if_ne (tgt := 12) hx hb dX8_bar_5 (by decide) (fun _ => ?_) (fun h => absurd h (by decide))
    refine lv_aload_n hx hb dX8_bar_12 rfl (lv_at hl 0 rfl) ?_
    refine lv_iload_n hx hb dX8_bar_13 rfl (lv_at hl 1 rfl) ?_
    refine lv_iload_n hx hb dX8_bar_14 rfl (lv_at hl 2 rfl) ?_
    refine ro_i (D := D) (va_runV (As := [.int (nI j_2), .int p1]) (rest := []) ⟨hx, hb, hml, hown, hts⟩ ((m_isRound l D k st lo a tx t0 we rd ru rw ca fp wd nu na ts df db sd se tm gs j_2 p1 htm (by omega)) H.size) (cwV 2 hts (gV tw_1218 tw_1220 tw_42 tw_87 tw_1221) rfl rfl rfl (by decide +kernel) ⟨Nat.le_of_ble_eq_true rfl, Nat.le_of_ble_eq_true rfl⟩) (pV hS hAlo hlo hP hK (va_Dlo hD hAlo) hZ [0, 2] (by decide) rfl (ci := 8) (q0 := 0) rfl rfl) rfl rfl hl.1 rfl (lv_room (Nat.le_of_ble_eq_true rfl)) dX8_bar_15 ⟨Nat.le_of_ble_eq_true rfl, Nat.le_of_ble_eq_true rfl⟩) hS hA hP (fun r_3 H locs hw_3 hP hS => ?_)
    try dsimp only at hw_3
    rcases hw_3 with ⟨rfl, j_4, hj_4, rfl, hw_3⟩ | rfl
    · refine lv_if_ne (tgt := 25) hx hb dX8_bar_18 (by decide) (fun _ => ?_) (fun h => absurd h (by decide))
      refine lv_aload_n hx hb dX8_bar_25 rfl (lv_at hl 0 rfl) ?_
      refine lv_iload_n hx hb dX8_bar_26 rfl (lv_at hl 1 rfl) ?_
      refine rw_v (D := D) (wr := []) (va_runV (As := [.int (nI j_2)]) (rest := []) ⟨hx, hb, hml, hown, hts⟩ ((m_findWay l D k st lo a tx t0 we rd ru rw ca fp wd nu na ts df db sd dn se tm gs ffrees fprices fons fworths fstarts fends fgoesRound fbegin j_2 hdn hse htm (by omega) (by omega)) H.size) (cwV 1 hts (gV tw_1250 tw_1252 tw_49 tw_87 tw_1253) rfl rfl rfl (by decide +kernel) ⟨Nat.le_of_ble_eq_true rfl, Nat.le_of_ble_eq_true rfl⟩) (pV hS hAlo hlo hP hK (va_Dlo hD hAlo) hZ [0, 1, 2, 3, 4, 5, 6, 7, 8, 9, 10] (by decide) rfl (ci := 8) (q0 := 0) rfl rfl) rfl rfl hl.1 rfl (lv_room (Nat.le_of_ble_eq_true rfl)) dX8_bar_27 ⟨Nat.le_of_ble_eq_true rfl, Nat.le_of_ble_eq_true rfl⟩) hS hA hP hD [0, 1, 2, 3, 4, 5, 6, 7, 8, 9, 10] [] rfl rfl (by decide) (by decide) (fun u H locs hw_5 hP hD hS => ?_)
      obtain ⟨fons__5, fworths__5, fstarts__5, fends__5, fgoesRound__5, fbegin__5⟩ := u
      replace hP : va_P D classes [((a 0), .inr (8, [.ref (a 1), .ref (a 2), .ref (a 3), .ref (a 4), .ref (a 5), .int (nI tx), .int fp, .int (nI t0), .long wd, .int (nI we), .int nu, .int na, .int (nI rd), .ref (a 14), .ref (a 15), .ref (a 16), .int ts, .ref (a 18), .ref (a 19), .ref (a 20), .ref (a 21), .ref (a 22), .ref (a 23), .int (nI ru), .ref (a 25), .ref (a 26), .ref (a 27), .ref (a 28), .ref (a 29), .ref (a 30), .int (nI rw), .ref (a 32), .ref (a 33), .ref (a 34), .int (nI ca), .ref (a 36), .ref (a 37), .int df, .int db, .ref (a 40), .ref (a 41), .int sd, .ref (a 43), .ref (a 44)])), ((a 1), .inl (k 1, 3, .inl (nF dn))), ((a 4), .inl (k 1, 27, .inl (sg se tm gs))), ((a 2), .inl (k 1, 72, .inl ffrees)), ((a 3), .inl (k 1, 72, .inl fprices)), ((a 18), .inl (k 1, 768, .inl fons__5)), ((a 19), .inl (k 1, 768, .inl fworths__5)), ((a 20), .inl (k 1, 5, .inl fstarts__5)), ((a 21), .inl (k 1, 4, .inl fends__5)), ((a 22), .inl (k 2, 4, .inl fgoesRound__5)), ((a 23), .inl (k 1, 8, .inl fbegin__5))] H := hP
      replace hD : va_D A [((a 0), .inr (8, [.ref (a 1), .ref (a 2), .ref (a 3), .ref (a 4), .ref (a 5), .int (nI tx), .int fp, .int (nI t0), .long wd, .int (nI we), .int nu, .int na, .int (nI rd), .ref (a 14), .ref (a 15), .ref (a 16), .int ts, .ref (a 18), .ref (a 19), .ref (a 20), .ref (a 21), .ref (a 22), .ref (a 23), .int (nI ru), .ref (a 25), .ref (a 26), .ref (a 27), .ref (a 28), .ref (a 29), .ref (a 30), .int (nI rw), .ref (a 32), .ref (a 33), .ref (a 34), .int (nI ca), .ref (a 36), .ref (a 37), .int df, .int db, .ref (a 40), .ref (a 41), .int sd, .ref (a 43), .ref (a 44)])), ((a 1), .inl (k 1, 3, .inl (nF dn))), ((a 4), .inl (k 1, 27, .inl (sg se tm gs))), ((a 2), .inl (k 1, 72, .inl ffrees)), ((a 3), .inl (k 1, 72, .inl fprices)), ((a 18), .inl (k 1, 768, .inl fons__5)), ((a 19), .inl (k 1, 768, .inl fworths__5)), ((a 20), .inl (k 1, 5, .inl fstarts__5)), ((a 21), .inl (k 1, 4, .inl fends__5)), ((a 22), .inl (k 2, 4, .inl fgoesRound__5)), ((a 23), .inl (k 1, 8, .inl fbegin__5))] := hD
      try dsimp only at hw_5
      refine lv_aload_n hx hb dX8_bar_30 rfl (lv_at hl 0 rfl) ?_
      refine va_get (D := D) (ci := 8) (v := .ref (a 1)) (C := RX8) (T := TX8) (N := 44) hx hb hts inX8 hown hK hP 0 rfl rfl 0 (by decide) (hts _ tw_973) (fun _ h9 => h9) rfl dX8_bar_31 ?_
      refine lv_iload_n hx hb dX8_bar_34 rfl (lv_at hl 1 rfl) ?_
      refine va_iald hx hb hK hP 1 1 rfl rfl (vp_in_nI (by omega) (by decide)) dX8_bar_35 ?_
      refine lv_ti (y := (nI (dn j_2))) (by rw [nI_clamp (by omega)]; rfl) ?_
      refine lv_istore_n (lv' := [(3, .int (nI (dn j_2))), (0, .ref (a 0)), (1, .int (nI j_2)), (2, .int (nI j_4))]) hx hb dX8_bar_36 rfl hl (by decide) rfl (fun ls hl => ?_)
      refine lv_iconst (v := 0) hx hb dX8_bar_37 (by decide) ?_
      refine lv_istore (lv' := [(4, .int 0), (3, .int (nI (dn j_2))), (0, .ref (a 0)), (1, .int (nI j_2)), (2, .int (nI j_4))]) hx hb dX8_bar_38 hl (by decide) rfl (fun ls hl => ?_)
      refine W_loop (σ := Nat) (fun (n_ : Nat) (bb_6 : Nat) (H : Heap) (locs : List Loc) (ls : Array Slot) => n_ = 26 - bb_6 ∧ (bb_6 ≤ 25) ∧ va_P D classes [((a 0), .inr (8, [.ref (a 1), .ref (a 2), .ref (a 3), .ref (a 4), .ref (a 5), .int (nI tx), .int fp, .int (nI t0), .long wd, .int (nI we), .int nu, .int na, .int (nI rd), .ref (a 14), .ref (a 15), .ref (a 16), .int ts, .ref (a 18), .ref (a 19), .ref (a 20), .ref (a 21), .ref (a 22), .ref (a 23), .int (nI ru), .ref (a 25), .ref (a 26), .ref (a 27), .ref (a 28), .ref (a 29), .ref (a 30), .int (nI rw), .ref (a 32), .ref (a 33), .ref (a 34), .int (nI ca), .ref (a 36), .ref (a 37), .int df, .int db, .ref (a 40), .ref (a 41), .int sd, .ref (a 43), .ref (a 44)])), ((a 1), .inl (k 1, 3, .inl (nF dn))), ((a 4), .inl (k 1, 27, .inl (sg se tm gs))), ((a 2), .inl (k 1, 72, .inl ffrees)), ((a 3), .inl (k 1, 72, .inl fprices)), ((a 18), .inl (k 1, 768, .inl fons__5)), ((a 19), .inl (k 1, 768, .inl fworths__5)), ((a 20), .inl (k 1, 5, .inl fstarts__5)), ((a 21), .inl (k 1, 4, .inl fends__5)), ((a 22), .inl (k 2, 4, .inl fgoesRound__5)), ((a 23), .inl (k 1, 8, .inl fbegin__5))] H ∧ va_D A [((a 0), .inr (8, [.ref (a 1), .ref (a 2), .ref (a 3), .ref (a 4), .ref (a 5), .int (nI tx), .int fp, .int (nI t0), .long wd, .int (nI we), .int nu, .int na, .int (nI rd), .ref (a 14), .ref (a 15), .ref (a 16), .int ts, .ref (a 18), .ref (a 19), .ref (a 20), .ref (a 21), .ref (a 22), .ref (a 23), .int (nI ru), .ref (a 25), .ref (a 26), .ref (a 27), .ref (a 28), .ref (a 29), .ref (a 30), .int (nI rw), .ref (a 32), .ref (a 33), .ref (a 34), .int (nI ca), .ref (a 36), .ref (a 37), .int df, .int db, .ref (a 40), .ref (a 41), .int sd, .ref (a 43), .ref (a 44)])), ((a 1), .inl (k 1, 3, .inl (nF dn))), ((a 4), .inl (k 1, 27, .inl (sg se tm gs))), ((a 2), .inl (k 1, 72, .inl ffrees)), ((a 3), .inl (k 1, 72, .inl fprices)), ((a 18), .inl (k 1, 768, .inl fons__5)), ((a 19), .inl (k 1, 768, .inl fworths__5)), ((a 20), .inl (k 1, 5, .inl fstarts__5)), ((a 21), .inl (k 1, 4, .inl fends__5)), ((a 22), .inl (k 2, 4, .inl fgoesRound__5)), ((a 23), .inl (k 1, 8, .inl fbegin__5))] ∧ va_S A s.heap H locs ∧ lv_has ls 8 [(4, .int (nI bb_6)), (3, .int (nI (dn j_2))), (0, .ref (a 0)), (1, .int (nI j_2)), (2, .int (nI j_4))]) (fun n_6 x_6 H locs ls hI ih_6 => ?_) _ 0 ⟨rfl, (by omega), hP, hD, hS, (lv_sub hl [0, 1, 2, 3, 4] rfl)⟩
      obtain ⟨bb_6, rfl⟩ : ∃ z, z = x_6 := ⟨_, rfl⟩
      obtain ⟨hm_6, hv_6, hP, hD, hS, hl⟩ := hI
      subst hm_6
      refine lv_iload hx hb dX8_bar_40 (lv_at hl 0 rfl) ?_
      refine lv_iload_n hx hb dX8_bar_42 rfl (lv_at hl 1 rfl) ?_
      refine lv_icmp_gt (tgt := 138) hx hb dX8_bar_43 (by decide) (fun c_7 => ?_) (fun c_7 => ?_)
      · have c_7 := (nI_ltI (a := (dn j_2)) (b := bb_6) (by omega) (by omega)).mp c_7
        refine lv_iconst (v := (-1)) hx hb dX8_bar_138 (by decide) ?_
        have hP9 := hP.sub (ws' := [((a 0), .inr (8, [.ref (a 1), .ref (a 2), .ref (a 3), .ref (a 4), .ref (a 5), .int (nI tx), .int fp, .int (nI t0), .long wd, .int (nI we), .int nu, .int na, .int (nI rd), .ref (a 14), .ref (a 15), .ref (a 16), .int ts, .ref (a 18), .ref (a 19), .ref (a 20), .ref (a 21), .ref (a 22), .ref (a 23), .int (nI ru), .ref (a 25), .ref (a 26), .ref (a 27), .ref (a 28), .ref (a 29), .ref (a 30), .int (nI rw), .ref (a 32), .ref (a 33), .ref (a 34), .int (nI ca), .ref (a 36), .ref (a 37), .int df, .int db, .ref (a 40), .ref (a 41), .int sd, .ref (a 43), .ref (a 44)])), ((a 1), .inl (k 1, 3, .inl (nF dn))), ((a 4), .inl (k 1, 27, .inl (sg se tm gs))), ((a 2), .inl (k 1, 72, .inl ffrees)), ((a 3), .inl (k 1, 72, .inl fprices)), ((a 18), .inl (k 1, 768, .inl fons__5)), ((a 19), .inl (k 1, 768, .inl fworths__5)), ((a 20), .inl (k 1, 5, .inl fstarts__5)), ((a 21), .inl (k 1, 4, .inl fends__5)), ((a 22), .inl (k 2, 4, .inl fgoesRound__5)), ((a 23), .inl (k 1, 8, .inl fbegin__5))]) [0, 1, 2, 3, 4, 5, 6, 7, 8, 9, 10] rfl
        have hD9 := hD.sub (ws' := [((a 0), .inr (8, [.ref (a 1), .ref (a 2), .ref (a 3), .ref (a 4), .ref (a 5), .int (nI tx), .int fp, .int (nI t0), .long wd, .int (nI we), .int nu, .int na, .int (nI rd), .ref (a 14), .ref (a 15), .ref (a 16), .int ts, .ref (a 18), .ref (a 19), .ref (a 20), .ref (a 21), .ref (a 22), .ref (a 23), .int (nI ru), .ref (a 25), .ref (a 26), .ref (a 27), .ref (a 28), .ref (a 29), .ref (a 30), .int (nI rw), .ref (a 32), .ref (a 33), .ref (a 34), .int (nI ca), .ref (a 36), .ref (a 37), .int df, .int db, .ref (a 40), .ref (a 41), .int sd, .ref (a 43), .ref (a 44)])), ((a 1), .inl (k 1, 3, .inl (nF dn))), ((a 4), .inl (k 1, 27, .inl (sg se tm gs))), ((a 2), .inl (k 1, 72, .inl ffrees)), ((a 3), .inl (k 1, 72, .inl fprices)), ((a 18), .inl (k 1, 768, .inl fons__5)), ((a 19), .inl (k 1, 768, .inl fworths__5)), ((a 20), .inl (k 1, 5, .inl fstarts__5)), ((a 21), .inl (k 1, 4, .inl fends__5)), ((a 22), .inl (k 2, 4, .inl fgoesRound__5)), ((a 23), .inl (k 1, 8, .inl fbegin__5))]) [0, 1, 2, 3, 4, 5, 6, 7, 8, 9, 10] (by decide) rfl
        exact W.iret (v := (-1)) hx hb hr (fun t ht hW => ⟨⟨(-1), (fons__5, fworths__5, fstarts__5, fends__5, fgoesRound__5, fbegin__5), rfl, trivial, by rw [ht]; exact hP9, hD9⟩, hS.F ht⟩) hS.2.2 dX8_bar_139
      · have c_7 : ¬ ((dn j_2) < bb_6) := fun h => c_7 ((nI_ltI (a := (dn j_2)) (b := bb_6) (by omega) (by omega)).mpr h)
        refine lv_iconst (v := 1) hx hb dX8_bar_46 (by decide) ?_
        refine lv_istore (lv' := [(5, .int 1), (4, .int (nI bb_6)), (3, .int (nI (dn j_2))), (0, .ref (a 0)), (1, .int (nI j_2)), (2, .int (nI j_4))]) hx hb dX8_bar_47 hl (by decide) rfl (fun ls hl => ?_)
        refine lv_iconst (v := 0) hx hb dX8_bar_49 (by decide) ?_
        refine lv_istore (lv' := [(6, .int 0), (5, .int 1), (4, .int (nI bb_6)), (3, .int (nI (dn j_2))), (0, .ref (a 0)), (1, .int (nI j_2)), (2, .int (nI j_4))]) hx hb dX8_bar_50 hl (by decide) rfl (fun ls hl => ?_)
        refine W_loop (σ := Nat × Int32) (fun (n_ : Nat) (x_ : Nat × Int32) (H : Heap) (locs : List Loc) (ls : Array Slot) => match x_ with | (ii_8, is_8) => n_ = 25 - ii_8 ∧ (ii_8 ≤ 24) ∧ va_P D classes [((a 0), .inr (8, [.ref (a 1), .ref (a 2), .ref (a 3), .ref (a 4), .ref (a 5), .int (nI tx), .int fp, .int (nI t0), .long wd, .int (nI we), .int nu, .int na, .int (nI rd), .ref (a 14), .ref (a 15), .ref (a 16), .int ts, .ref (a 18), .ref (a 19), .ref (a 20), .ref (a 21), .ref (a 22), .ref (a 23), .int (nI ru), .ref (a 25), .ref (a 26), .ref (a 27), .ref (a 28), .ref (a 29), .ref (a 30), .int (nI rw), .ref (a 32), .ref (a 33), .ref (a 34), .int (nI ca), .ref (a 36), .ref (a 37), .int df, .int db, .ref (a 40), .ref (a 41), .int sd, .ref (a 43), .ref (a 44)])), ((a 1), .inl (k 1, 3, .inl (nF dn))), ((a 4), .inl (k 1, 27, .inl (sg se tm gs))), ((a 2), .inl (k 1, 72, .inl ffrees)), ((a 3), .inl (k 1, 72, .inl fprices)), ((a 18), .inl (k 1, 768, .inl fons__5)), ((a 19), .inl (k 1, 768, .inl fworths__5)), ((a 20), .inl (k 1, 5, .inl fstarts__5)), ((a 21), .inl (k 1, 4, .inl fends__5)), ((a 22), .inl (k 2, 4, .inl fgoesRound__5)), ((a 23), .inl (k 1, 8, .inl fbegin__5))] H ∧ va_D A [((a 0), .inr (8, [.ref (a 1), .ref (a 2), .ref (a 3), .ref (a 4), .ref (a 5), .int (nI tx), .int fp, .int (nI t0), .long wd, .int (nI we), .int nu, .int na, .int (nI rd), .ref (a 14), .ref (a 15), .ref (a 16), .int ts, .ref (a 18), .ref (a 19), .ref (a 20), .ref (a 21), .ref (a 22), .ref (a 23), .int (nI ru), .ref (a 25), .ref (a 26), .ref (a 27), .ref (a 28), .ref (a 29), .ref (a 30), .int (nI rw), .ref (a 32), .ref (a 33), .ref (a 34), .int (nI ca), .ref (a 36), .ref (a 37), .int df, .int db, .ref (a 40), .ref (a 41), .int sd, .ref (a 43), .ref (a 44)])), ((a 1), .inl (k 1, 3, .inl (nF dn))), ((a 4), .inl (k 1, 27, .inl (sg se tm gs))), ((a 2), .inl (k 1, 72, .inl ffrees)), ((a 3), .inl (k 1, 72, .inl fprices)), ((a 18), .inl (k 1, 768, .inl fons__5)), ((a 19), .inl (k 1, 768, .inl fworths__5)), ((a 20), .inl (k 1, 5, .inl fstarts__5)), ((a 21), .inl (k 1, 4, .inl fends__5)), ((a 22), .inl (k 2, 4, .inl fgoesRound__5)), ((a 23), .inl (k 1, 8, .inl fbegin__5))] ∧ va_S A s.heap H locs ∧ lv_has ls 8 [(6, .int (nI ii_8)), (5, .int is_8), (4, .int (nI bb_6)), (3, .int (nI (dn j_2))), (0, .ref (a 0)), (1, .int (nI j_2)), (2, .int (nI j_4))]) (fun n_8 x_8 H locs ls hI ih_8 => ?_) _ (0, 1) ⟨rfl, (by omega), hP, hD, hS, (lv_sub hl [0, 1, 2, 3, 4, 5, 6] rfl)⟩
        obtain ⟨ii_8, is_8⟩ := x_8
        obtain ⟨hm_8, hv_8, hP, hD, hS, hl⟩ := hI
        subst hm_8
        refine lv_iload hx hb dX8_bar_52 (lv_at hl 0 rfl) ?_
        refine lv_iload_n hx hb dX8_bar_54 rfl (lv_at hl 3 rfl) ?_
        refine lv_icmp_ge (tgt := 124) hx hb dX8_bar_55 (by decide) (fun c_9 => ?_) (fun c_9 => ?_)
        · have c_9 := (nI_leI (a := (dn j_2)) (b := ii_8) (by omega) (by omega)).mp c_9
          refine lv_iload hx hb dX8_bar_124 (lv_at hl 1 rfl) ?_
          refine lv_if_eq (tgt := 132) hx hb dX8_bar_126 (by decide) (fun c_10 => ?_) (fun c_10 => ?_)
          · refine lv_iinc (v := (nI (bb_6 + 1))) (lv' := [(4, .int (nI (bb_6 + 1))), (6, .int (nI ii_8)), (5, .int is_8), (3, .int (nI (dn j_2))), (0, .ref (a 0)), (1, .int (nI j_2)), (2, .int (nI j_4))]) hx hb dX8_bar_132 hl (k := 2) rfl (nI_add bb_6 1) (by decide) rfl (fun ls hl => ?_)
            refine lv_goto (tgt := 40) hx hb dX8_bar_135 (by decide) ?_
            exact ih_6 _ (bb_6 + 1) _ _ _ (by omega) ⟨rfl, (by omega), hP, hD, hS, (lv_sub hl [0, 3, 4, 5, 6] rfl)⟩
          · refine lv_iload hx hb dX8_bar_129 (lv_at hl 2 rfl) ?_
            have hP9 := hP.sub (ws' := [((a 0), .inr (8, [.ref (a 1), .ref (a 2), .ref (a 3), .ref (a 4), .ref (a 5), .int (nI tx), .int fp, .int (nI t0), .long wd, .int (nI we), .int nu, .int na, .int (nI rd), .ref (a 14), .ref (a 15), .ref (a 16), .int ts, .ref (a 18), .ref (a 19), .ref (a 20), .ref (a 21), .ref (a 22), .ref (a 23), .int (nI ru), .ref (a 25), .ref (a 26), .ref (a 27), .ref (a 28), .ref (a 29), .ref (a 30), .int (nI rw), .ref (a 32), .ref (a 33), .ref (a 34), .int (nI ca), .ref (a 36), .ref (a 37), .int df, .int db, .ref (a 40), .ref (a 41), .int sd, .ref (a 43), .ref (a 44)])), ((a 1), .inl (k 1, 3, .inl (nF dn))), ((a 4), .inl (k 1, 27, .inl (sg se tm gs))), ((a 2), .inl (k 1, 72, .inl ffrees)), ((a 3), .inl (k 1, 72, .inl fprices)), ((a 18), .inl (k 1, 768, .inl fons__5)), ((a 19), .inl (k 1, 768, .inl fworths__5)), ((a 20), .inl (k 1, 5, .inl fstarts__5)), ((a 21), .inl (k 1, 4, .inl fends__5)), ((a 22), .inl (k 2, 4, .inl fgoesRound__5)), ((a 23), .inl (k 1, 8, .inl fbegin__5))]) [0, 1, 2, 3, 4, 5, 6, 7, 8, 9, 10] rfl
            have hD9 := hD.sub (ws' := [((a 0), .inr (8, [.ref (a 1), .ref (a 2), .ref (a 3), .ref (a 4), .ref (a 5), .int (nI tx), .int fp, .int (nI t0), .long wd, .int (nI we), .int nu, .int na, .int (nI rd), .ref (a 14), .ref (a 15), .ref (a 16), .int ts, .ref (a 18), .ref (a 19), .ref (a 20), .ref (a 21), .ref (a 22), .ref (a 23), .int (nI ru), .ref (a 25), .ref (a 26), .ref (a 27), .ref (a 28), .ref (a 29), .ref (a 30), .int (nI rw), .ref (a 32), .ref (a 33), .ref (a 34), .int (nI ca), .ref (a 36), .ref (a 37), .int df, .int db, .ref (a 40), .ref (a 41), .int sd, .ref (a 43), .ref (a 44)])), ((a 1), .inl (k 1, 3, .inl (nF dn))), ((a 4), .inl (k 1, 27, .inl (sg se tm gs))), ((a 2), .inl (k 1, 72, .inl ffrees)), ((a 3), .inl (k 1, 72, .inl fprices)), ((a 18), .inl (k 1, 768, .inl fons__5)), ((a 19), .inl (k 1, 768, .inl fworths__5)), ((a 20), .inl (k 1, 5, .inl fstarts__5)), ((a 21), .inl (k 1, 4, .inl fends__5)), ((a 22), .inl (k 2, 4, .inl fgoesRound__5)), ((a 23), .inl (k 1, 8, .inl fbegin__5))]) [0, 1, 2, 3, 4, 5, 6, 7, 8, 9, 10] (by decide) rfl
            exact W.iret (v := (nI bb_6)) hx hb hr (fun t ht hW => ⟨⟨(nI bb_6), (fons__5, fworths__5, fstarts__5, fends__5, fgoesRound__5, fbegin__5), rfl, trivial, by rw [ht]; exact hP9, hD9⟩, hS.F ht⟩) hS.2.2 dX8_bar_131
        · have c_9 : ¬ ((dn j_2) ≤ ii_8) := fun h => c_9 ((nI_leI (a := (dn j_2)) (b := ii_8) (by omega) (by omega)).mpr h)
          refine lv_iconst (v := 1) hx hb dX8_bar_58 (by decide) ?_
          refine lv_istore (lv' := [(7, .int 1), (6, .int (nI ii_8)), (5, .int is_8), (4, .int (nI bb_6)), (3, .int (nI (dn j_2))), (0, .ref (a 0)), (1, .int (nI j_2)), (2, .int (nI j_4))]) hx hb dX8_bar_59 hl (by decide) rfl (fun ls hl => ?_)
          refine W_loop (σ := Nat × Int32) (fun (n_ : Nat) (x_ : Nat × Int32) (H : Heap) (locs : List Loc) (ls : Array Slot) => match x_ with | (g_11, is_11) => n_ = 9 - g_11 ∧ (g_11 ≤ 9) ∧ va_P D classes [((a 0), .inr (8, [.ref (a 1), .ref (a 2), .ref (a 3), .ref (a 4), .ref (a 5), .int (nI tx), .int fp, .int (nI t0), .long wd, .int (nI we), .int nu, .int na, .int (nI rd), .ref (a 14), .ref (a 15), .ref (a 16), .int ts, .ref (a 18), .ref (a 19), .ref (a 20), .ref (a 21), .ref (a 22), .ref (a 23), .int (nI ru), .ref (a 25), .ref (a 26), .ref (a 27), .ref (a 28), .ref (a 29), .ref (a 30), .int (nI rw), .ref (a 32), .ref (a 33), .ref (a 34), .int (nI ca), .ref (a 36), .ref (a 37), .int df, .int db, .ref (a 40), .ref (a 41), .int sd, .ref (a 43), .ref (a 44)])), ((a 1), .inl (k 1, 3, .inl (nF dn))), ((a 4), .inl (k 1, 27, .inl (sg se tm gs))), ((a 2), .inl (k 1, 72, .inl ffrees)), ((a 3), .inl (k 1, 72, .inl fprices)), ((a 18), .inl (k 1, 768, .inl fons__5)), ((a 19), .inl (k 1, 768, .inl fworths__5)), ((a 20), .inl (k 1, 5, .inl fstarts__5)), ((a 21), .inl (k 1, 4, .inl fends__5)), ((a 22), .inl (k 2, 4, .inl fgoesRound__5)), ((a 23), .inl (k 1, 8, .inl fbegin__5))] H ∧ va_D A [((a 0), .inr (8, [.ref (a 1), .ref (a 2), .ref (a 3), .ref (a 4), .ref (a 5), .int (nI tx), .int fp, .int (nI t0), .long wd, .int (nI we), .int nu, .int na, .int (nI rd), .ref (a 14), .ref (a 15), .ref (a 16), .int ts, .ref (a 18), .ref (a 19), .ref (a 20), .ref (a 21), .ref (a 22), .ref (a 23), .int (nI ru), .ref (a 25), .ref (a 26), .ref (a 27), .ref (a 28), .ref (a 29), .ref (a 30), .int (nI rw), .ref (a 32), .ref (a 33), .ref (a 34), .int (nI ca), .ref (a 36), .ref (a 37), .int df, .int db, .ref (a 40), .ref (a 41), .int sd, .ref (a 43), .ref (a 44)])), ((a 1), .inl (k 1, 3, .inl (nF dn))), ((a 4), .inl (k 1, 27, .inl (sg se tm gs))), ((a 2), .inl (k 1, 72, .inl ffrees)), ((a 3), .inl (k 1, 72, .inl fprices)), ((a 18), .inl (k 1, 768, .inl fons__5)), ((a 19), .inl (k 1, 768, .inl fworths__5)), ((a 20), .inl (k 1, 5, .inl fstarts__5)), ((a 21), .inl (k 1, 4, .inl fends__5)), ((a 22), .inl (k 2, 4, .inl fgoesRound__5)), ((a 23), .inl (k 1, 8, .inl fbegin__5))] ∧ va_S A s.heap H locs ∧ lv_has ls 8 [(7, .int (nI g_11)), (6, .int (nI ii_8)), (5, .int is_11), (4, .int (nI bb_6)), (3, .int (nI (dn j_2))), (0, .ref (a 0)), (1, .int (nI j_2)), (2, .int (nI j_4))]) (fun n_11 x_11 H locs ls hI ih_11 => ?_) _ (1, is_8) ⟨rfl, (by omega), hP, hD, hS, (lv_sub hl [0, 1, 2, 3, 4, 5, 6, 7] rfl)⟩
          obtain ⟨g_11, is_11⟩ := x_11
          obtain ⟨hm_11, hv_11, hP, hD, hS, hl⟩ := hI
          subst hm_11
          refine lv_iload hx hb dX8_bar_61 (lv_at hl 0 rfl) ?_
          refine lv_iconst (v := 1) hx hb dX8_bar_63 (by decide) ?_
          refine lv_aload_n hx hb dX8_bar_64 rfl (lv_at hl 5 rfl) ?_
          refine lv_iload_n hx hb dX8_bar_65 rfl (lv_at hl 6 rfl) ?_
          refine lv_iload hx hb dX8_bar_66 (lv_at hl 1 rfl) ?_
          refine ro_i (D := D) (va_runV (As := [.int (nI j_2), .int (nI ii_8)]) (rest := [.int 1, .int (nI g_11)]) ⟨hx, hb, hml, hown, hts⟩ ((m_seen l D k st lo a tx t0 we rd ru rw ca fp wd nu na ts df db sd dn se tm gs j_2 ii_8 hdn hse (by omega) (by omega)) H.size) (cwV 2 hts (gV tw_1246 tw_1248 tw_48 tw_87 tw_1249) rfl rfl rfl (by decide +kernel) ⟨Nat.le_of_ble_eq_true rfl, Nat.le_of_ble_eq_true rfl⟩) (pV hS hAlo hlo hP hK (va_Dlo hD hAlo) hZ [0, 1, 2] (by decide) rfl (ci := 8) (q0 := 0) rfl rfl) rfl rfl hl.1 rfl (lv_room (Nat.le_of_ble_eq_true rfl)) dX8_bar_68 ⟨Nat.le_of_ble_eq_true rfl, Nat.le_of_ble_eq_true rfl⟩) hS hA hP (fun r_12 H locs hw_12 hP hS => ?_)
          try dsimp only at hw_12
          obtain ⟨sv_13, esv_13⟩ : ∃ z : Nat, z = (if dn j_2 - ii_8 < se j_2 + 1 then dn j_2 - ii_8 else se j_2 + 1) := ⟨_, rfl⟩
          rw [← esv_13] at hw_12
          subst hw_12
          have hsv_13 : sv_13 ≤ 3 ∧ sv_13 ≤ dn j_2 - ii_8 ∧ (0 < dn j_2 - ii_8 → 1 ≤ sv_13) := by
            have hse9 := hse j_2
            split at esv_13 <;> omega
          obtain ⟨pw_14, epw_14⟩ : ∃ z : Nat, z = 2 ^ sv_13 := ⟨_, rfl⟩
          have hpw_14 : 1 ≤ pw_14 ∧ pw_14 ≤ 8 := by rw [epw_14]; exact pw8 (by omega)
          refine lv_ishl hx hb dX8_bar_71 ?_
          refine lv_ti (y := (nI pw_14)) (by rw [epw_14]; exact shl1 sv_13 (by omega)) ?_
          refine lv_icmp_ge (tgt := 118) hx hb dX8_bar_72 (by decide) (fun c_15 => ?_) (fun c_15 => ?_)
          · have c_15 := (nI_leI (a := pw_14) (b := g_11) (by omega) (by omega)).mp c_15
            refine lv_iinc (v := (nI (ii_8 + 1))) (lv' := [(6, .int (nI (ii_8 + 1))), (7, .int (nI g_11)), (5, .int is_11), (4, .int (nI bb_6)), (3, .int (nI (dn j_2))), (0, .ref (a 0)), (1, .int (nI j_2)), (2, .int (nI j_4))]) hx hb dX8_bar_118 hl (k := 1) rfl (nI_add ii_8 1) (by decide) rfl (fun ls hl => ?_)
            refine lv_goto (tgt := 52) hx hb dX8_bar_121 (by decide) ?_
            exact ih_8 _ (ii_8 + 1, is_11) _ _ _ (by omega) ⟨rfl, (by omega), hP, hD, hS, (lv_sub hl [0, 2, 3, 4, 5, 6, 7] rfl)⟩
          · have c_15 : ¬ (pw_14 ≤ g_11) := fun h => c_15 ((nI_leI (a := pw_14) (b := g_11) (by omega) (by omega)).mpr h)
            refine lv_iload hx hb dX8_bar_75 (lv_at hl 2 rfl) ?_
            refine lv_if_eq (tgt := 109) hx hb dX8_bar_77 (by decide) (fun c_16 => ?_) (fun c_16 => ?_)
            · refine lv_iconst (v := 0) hx hb dX8_bar_109 (by decide) ?_
              refine lv_istore (lv' := [(5, .int 0), (7, .int (nI g_11)), (6, .int (nI ii_8)), (4, .int (nI bb_6)), (3, .int (nI (dn j_2))), (0, .ref (a 0)), (1, .int (nI j_2)), (2, .int (nI j_4))]) hx hb dX8_bar_110 hl (by decide) rfl (fun ls hl => ?_)
              refine lv_iinc (v := (nI (g_11 + 2))) (lv' := [(7, .int (nI (g_11 + 2))), (5, .int 0), (6, .int (nI ii_8)), (4, .int (nI bb_6)), (3, .int (nI (dn j_2))), (0, .ref (a 0)), (1, .int (nI j_2)), (2, .int (nI j_4))]) hx hb dX8_bar_112 hl (k := 1) rfl (nI_add g_11 2) (by decide) rfl (fun ls hl => ?_)
              refine lv_goto (tgt := 61) hx hb dX8_bar_115 (by decide) ?_
              exact ih_11 _ (g_11 + 2, 0) _ _ _ (by omega) ⟨rfl, (by omega), hP, hD, hS, (lv_sub hl [0, 2, 1, 3, 4, 5, 6, 7] rfl)⟩
            · refine lv_aload_n hx hb dX8_bar_80 rfl (lv_at hl 5 rfl) ?_
              refine lv_iload_n hx hb dX8_bar_81 rfl (lv_at hl 6 rfl) ?_
              refine lv_iload_n hx hb dX8_bar_82 rfl (lv_at hl 7 rfl) ?_
              refine lv_iload hx hb dX8_bar_83 (lv_at hl 1 rfl) ?_
              refine lv_iload hx hb dX8_bar_85 (lv_at hl 0 rfl) ?_
              refine ro_i (D := D) (va_runV (As := [.int (nI j_2), .int (nI j_4), .int (nI ii_8), .int (nI g_11)]) (rest := []) ⟨hx, hb, hml, hown, hts⟩ ((m_isTaking l D k st lo a tx t0 we rd ru rw ca fp wd nu na ts df db sd dn se tm gs fprices fons__5 j_2 j_4 ii_8 g_11 (by omega) (by omega) (by omega) (by omega)) H.size) (cwV 4 hts (gV tw_1285 tw_1287 tw_54 tw_87 tw_1288) rfl rfl rfl (by decide +kernel) ⟨Nat.le_of_ble_eq_true rfl, Nat.le_of_ble_eq_true rfl⟩) (pV hS hAlo hlo hP hK (va_Dlo hD hAlo) hZ [0, 1, 2, 4, 5] (by decide) rfl (ci := 8) (q0 := 0) rfl rfl) rfl rfl hl.1 rfl (lv_room (Nat.le_of_ble_eq_true rfl)) dX8_bar_87 ⟨Nat.le_of_ble_eq_true rfl, Nat.le_of_ble_eq_true rfl⟩) hS hA hP (fun r_17 H locs hw_17 hP hS => ?_)
              try dsimp only at hw_17
              refine lv_iload hx hb dX8_bar_90 (lv_at hl 1 rfl) ?_
              refine lv_iload hx hb dX8_bar_92 (lv_at hl 3 rfl) ?_
              refine lv_icmp_lt (tgt := 101) hx hb dX8_bar_94 (by decide) (fun c_18 => ?_) (fun c_18 => ?_)
              · have c_18 := (nI_ltI (a := ii_8) (b := bb_6) (by omega) (by omega)).mp c_18
                refine lv_iconst (v := 0) hx hb dX8_bar_101 (by decide) ?_
                refine lv_icmp_ne (tgt := 109) hx hb dX8_bar_102 (by decide) (fun c_19 => ?_) (fun c_19 => ?_)
                · refine lv_iconst (v := 0) hx hb dX8_bar_109 (by decide) ?_
                  refine lv_istore (lv' := [(5, .int 0), (7, .int (nI g_11)), (6, .int (nI ii_8)), (4, .int (nI bb_6)), (3, .int (nI (dn j_2))), (0, .ref (a 0)), (1, .int (nI j_2)), (2, .int (nI j_4))]) hx hb dX8_bar_110 hl (by decide) rfl (fun ls hl => ?_)
                  refine lv_iinc (v := (nI (g_11 + 2))) (lv' := [(7, .int (nI (g_11 + 2))), (5, .int 0), (6, .int (nI ii_8)), (4, .int (nI bb_6)), (3, .int (nI (dn j_2))), (0, .ref (a 0)), (1, .int (nI j_2)), (2, .int (nI j_4))]) hx hb dX8_bar_112 hl (k := 1) rfl (nI_add g_11 2) (by decide) rfl (fun ls hl => ?_)
                  refine lv_goto (tgt := 61) hx hb dX8_bar_115 (by decide) ?_
                  exact ih_11 _ (g_11 + 2, 0) _ _ _ (by omega) ⟨rfl, (by omega), hP, hD, hS, (lv_sub hl [0, 2, 1, 3, 4, 5, 6, 7] rfl)⟩
                · refine lv_iconst (v := 1) hx hb dX8_bar_105 (by decide) ?_
                  refine lv_goto (tgt := 110) hx hb dX8_bar_106 (by decide) ?_
                  refine lv_istore (lv' := [(5, .int 1), (7, .int (nI g_11)), (6, .int (nI ii_8)), (4, .int (nI bb_6)), (3, .int (nI (dn j_2))), (0, .ref (a 0)), (1, .int (nI j_2)), (2, .int (nI j_4))]) hx hb dX8_bar_110 hl (by decide) rfl (fun ls hl => ?_)
                  refine lv_iinc (v := (nI (g_11 + 2))) (lv' := [(7, .int (nI (g_11 + 2))), (5, .int 1), (6, .int (nI ii_8)), (4, .int (nI bb_6)), (3, .int (nI (dn j_2))), (0, .ref (a 0)), (1, .int (nI j_2)), (2, .int (nI j_4))]) hx hb dX8_bar_112 hl (k := 1) rfl (nI_add g_11 2) (by decide) rfl (fun ls hl => ?_)
                  refine lv_goto (tgt := 61) hx hb dX8_bar_115 (by decide) ?_
                  exact ih_11 _ (g_11 + 2, 1) _ _ _ (by omega) ⟨rfl, (by omega), hP, hD, hS, (lv_sub hl [0, 2, 1, 3, 4, 5, 6, 7] rfl)⟩
              · have c_18 : ¬ (ii_8 < bb_6) := fun h => c_18 ((nI_ltI (a := ii_8) (b := bb_6) (by omega) (by omega)).mpr h)
                refine lv_iconst (v := 1) hx hb dX8_bar_97 (by decide) ?_
                refine lv_goto (tgt := 102) hx hb dX8_bar_98 (by decide) ?_
                refine lv_icmp_ne (tgt := 109) hx hb dX8_bar_102 (by decide) (fun c_20 => ?_) (fun c_20 => ?_)
                · refine lv_iconst (v := 0) hx hb dX8_bar_109 (by decide) ?_
                  refine lv_istore (lv' := [(5, .int 0), (7, .int (nI g_11)), (6, .int (nI ii_8)), (4, .int (nI bb_6)), (3, .int (nI (dn j_2))), (0, .ref (a 0)), (1, .int (nI j_2)), (2, .int (nI j_4))]) hx hb dX8_bar_110 hl (by decide) rfl (fun ls hl => ?_)
                  refine lv_iinc (v := (nI (g_11 + 2))) (lv' := [(7, .int (nI (g_11 + 2))), (5, .int 0), (6, .int (nI ii_8)), (4, .int (nI bb_6)), (3, .int (nI (dn j_2))), (0, .ref (a 0)), (1, .int (nI j_2)), (2, .int (nI j_4))]) hx hb dX8_bar_112 hl (k := 1) rfl (nI_add g_11 2) (by decide) rfl (fun ls hl => ?_)
                  refine lv_goto (tgt := 61) hx hb dX8_bar_115 (by decide) ?_
                  exact ih_11 _ (g_11 + 2, 0) _ _ _ (by omega) ⟨rfl, (by omega), hP, hD, hS, (lv_sub hl [0, 2, 1, 3, 4, 5, 6, 7] rfl)⟩
                · refine lv_iconst (v := 1) hx hb dX8_bar_105 (by decide) ?_
                  refine lv_goto (tgt := 110) hx hb dX8_bar_106 (by decide) ?_
                  refine lv_istore (lv' := [(5, .int 1), (7, .int (nI g_11)), (6, .int (nI ii_8)), (4, .int (nI bb_6)), (3, .int (nI (dn j_2))), (0, .ref (a 0)), (1, .int (nI j_2)), (2, .int (nI j_4))]) hx hb dX8_bar_110 hl (by decide) rfl (fun ls hl => ?_)
                  refine lv_iinc (v := (nI (g_11 + 2))) (lv' := [(7, .int (nI (g_11 + 2))), (5, .int 1), (6, .int (nI ii_8)), (4, .int (nI bb_6)), (3, .int (nI (dn j_2))), (0, .ref (a 0)), (1, .int (nI j_2)), (2, .int (nI j_4))]) hx hb dX8_bar_112 hl (k := 1) rfl (nI_add g_11 2) (by decide) rfl (fun ls hl => ?_)
                  refine lv_goto (tgt := 61) hx hb dX8_bar_115 (by decide) ?_
                  exact ih_11 _ (g_11 + 2, 1) _ _ _ (by omega) ⟨rfl, (by omega), hP, hD, hS, (lv_sub hl [0, 2, 1, 3, 4, 5, 6, 7] rfl)⟩
    · refine lv_if_ne (tgt := 25) hx hb dX8_bar_18 (by decide) (fun h => absurd (by decide) h) (fun _ => ?_)
      refine lv_sipush (v := (-1002)) hx hb dX8_bar_21 (by decide) ?_
      have hP9 := hP.sub (ws' := [((a 0), .inr (8, [.ref (a 1), .ref (a 2), .ref (a 3), .ref (a 4), .ref (a 5), .int (nI tx), .int fp, .int (nI t0), .long wd, .int (nI we), .int nu, .int na, .int (nI rd), .ref (a 14), .ref (a 15), .ref (a 16), .int ts, .ref (a 18), .ref (a 19), .ref (a 20), .ref (a 21), .ref (a 22), .ref (a 23), .int (nI ru), .ref (a 25), .ref (a 26), .ref (a 27), .ref (a 28), .ref (a 29), .ref (a 30), .int (nI rw), .ref (a 32), .ref (a 33), .ref (a 34), .int (nI ca), .ref (a 36), .ref (a 37), .int df, .int db, .ref (a 40), .ref (a 41), .int sd, .ref (a 43), .ref (a 44)])), ((a 1), .inl (k 1, 3, .inl (nF dn))), ((a 4), .inl (k 1, 27, .inl (sg se tm gs))), ((a 2), .inl (k 1, 72, .inl ffrees)), ((a 3), .inl (k 1, 72, .inl fprices)), ((a 18), .inl (k 1, 768, .inl fons)), ((a 19), .inl (k 1, 768, .inl fworths)), ((a 20), .inl (k 1, 5, .inl fstarts)), ((a 21), .inl (k 1, 4, .inl fends)), ((a 22), .inl (k 2, 4, .inl fgoesRound)), ((a 23), .inl (k 1, 8, .inl fbegin))]) [0, 1, 2, 3, 4, 5, 6, 7, 8, 9, 10] rfl
      have hD9 := hD.sub (ws' := [((a 0), .inr (8, [.ref (a 1), .ref (a 2), .ref (a 3), .ref (a 4), .ref (a 5), .int (nI tx), .int fp, .int (nI t0), .long wd, .int (nI we), .int nu, .int na, .int (nI rd), .ref (a 14), .ref (a 15), .ref (a 16), .int ts, .ref (a 18), .ref (a 19), .ref (a 20), .ref (a 21), .ref (a 22), .ref (a 23), .int (nI ru), .ref (a 25), .ref (a 26), .ref (a 27), .ref (a 28), .ref (a 29), .ref (a 30), .int (nI rw), .ref (a 32), .ref (a 33), .ref (a 34), .int (nI ca), .ref (a 36), .ref (a 37), .int df, .int db, .ref (a 40), .ref (a 41), .int sd, .ref (a 43), .ref (a 44)])), ((a 1), .inl (k 1, 3, .inl (nF dn))), ((a 4), .inl (k 1, 27, .inl (sg se tm gs))), ((a 2), .inl (k 1, 72, .inl ffrees)), ((a 3), .inl (k 1, 72, .inl fprices)), ((a 18), .inl (k 1, 768, .inl fons)), ((a 19), .inl (k 1, 768, .inl fworths)), ((a 20), .inl (k 1, 5, .inl fstarts)), ((a 21), .inl (k 1, 4, .inl fends)), ((a 22), .inl (k 2, 4, .inl fgoesRound)), ((a 23), .inl (k 1, 8, .inl fbegin))]) [0, 1, 2, 3, 4, 5, 6, 7, 8, 9, 10] (by decide) rfl
      exact W.iret (v := (-1002)) hx hb hr (fun t ht hW => ⟨⟨(-1002), (fons, fworths, fstarts, fends, fgoesRound, fbegin), rfl, trivial, by rw [ht]; exact hP9, hD9⟩, hS.F ht⟩) hS.2.2 dX8_bar_24
  · refine lv_if_ne (tgt := 12) hx hb dX8_bar_5 (by decide) (fun h => absurd (by decide) h) (fun _ => ?_)
    refine lv_sipush (v := (-1001)) hx hb dX8_bar_8 (by decide) ?_
    have hP9 := hP.sub (ws' := [((a 0), .inr (8, [.ref (a 1), .ref (a 2), .ref (a 3), .ref (a 4), .ref (a 5), .int (nI tx), .int fp, .int (nI t0), .long wd, .int (nI we), .int nu, .int na, .int (nI rd), .ref (a 14), .ref (a 15), .ref (a 16), .int ts, .ref (a 18), .ref (a 19), .ref (a 20), .ref (a 21), .ref (a 22), .ref (a 23), .int (nI ru), .ref (a 25), .ref (a 26), .ref (a 27), .ref (a 28), .ref (a 29), .ref (a 30), .int (nI rw), .ref (a 32), .ref (a 33), .ref (a 34), .int (nI ca), .ref (a 36), .ref (a 37), .int df, .int db, .ref (a 40), .ref (a 41), .int sd, .ref (a 43), .ref (a 44)])), ((a 1), .inl (k 1, 3, .inl (nF dn))), ((a 4), .inl (k 1, 27, .inl (sg se tm gs))), ((a 2), .inl (k 1, 72, .inl ffrees)), ((a 3), .inl (k 1, 72, .inl fprices)), ((a 18), .inl (k 1, 768, .inl fons)), ((a 19), .inl (k 1, 768, .inl fworths)), ((a 20), .inl (k 1, 5, .inl fstarts)), ((a 21), .inl (k 1, 4, .inl fends)), ((a 22), .inl (k 2, 4, .inl fgoesRound)), ((a 23), .inl (k 1, 8, .inl fbegin))]) [0, 1, 2, 3, 4, 5, 6, 7, 8, 9, 10] rfl
    have hD9 := hD.sub (ws' := [((a 0), .inr (8, [.ref (a 1), .ref (a 2), .ref (a 3), .ref (a 4), .ref (a 5), .int (nI tx), .int fp, .int (nI t0), .long wd, .int (nI we), .int nu, .int na, .int (nI rd), .ref (a 14), .ref (a 15), .ref (a 16), .int ts, .ref (a 18), .ref (a 19), .ref (a 20), .ref (a 21), .ref (a 22), .ref (a 23), .int (nI ru), .ref (a 25), .ref (a 26), .ref (a 27), .ref (a 28), .ref (a 29), .ref (a 30), .int (nI rw), .ref (a 32), .ref (a 33), .ref (a 34), .int (nI ca), .ref (a 36), .ref (a 37), .int df, .int db, .ref (a 40), .ref (a 41), .int sd, .ref (a 43), .ref (a 44)])), ((a 1), .inl (k 1, 3, .inl (nF dn))), ((a 4), .inl (k 1, 27, .inl (sg se tm gs))), ((a 2), .inl (k 1, 72, .inl ffrees)), ((a 3), .inl (k 1, 72, .inl fprices)), ((a 18), .inl (k 1, 768, .inl fons)), ((a 19), .inl (k 1, 768, .inl fworths)), ((a 20), .inl (k 1, 5, .inl fstarts)), ((a 21), .inl (k 1, 4, .inl fends)), ((a 22), .inl (k 2, 4, .inl fgoesRound)), ((a 23), .inl (k 1, 8, .inl fbegin))]) [0, 1, 2, 3, 4, 5, 6, 7, 8, 9, 10] (by decide) rfl
    exact W.iret (v := (-1001)) hx hb hr (fun t ht hW => ⟨⟨(-1001), (fons, fworths, fstarts, fends, fgoesRound, fbegin), rfl, trivial, by rw [ht]; exact hP9, hD9⟩, hS.F ht⟩) hS.2.2 dX8_bar_11


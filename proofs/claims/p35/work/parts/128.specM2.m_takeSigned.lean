theorem dX8_takeSigned_0 : decode cX8_takeSigned 0 = .ok (.aload_n 0, 1) := by decide +kernel
theorem dX8_takeSigned_1 : decode cX8_takeSigned 1 = .ok (.invokevirtual 121, 3) := by decide +kernel
theorem dX8_takeSigned_4 : decode cX8_takeSigned 4 = .ok (.istore_n 2, 1) := by decide +kernel
theorem dX8_takeSigned_5 : decode cX8_takeSigned 5 = .ok (.aload_n 0, 1) := by decide +kernel
theorem dX8_takeSigned_6 : decode cX8_takeSigned 6 = .ok (.aload_n 0, 1) := by decide +kernel
theorem dX8_takeSigned_7 : decode cX8_takeSigned 7 = .ok (.getfield 118, 3) := by decide +kernel
theorem dX8_takeSigned_10 : decode cX8_takeSigned 10 = .ok (.putfield 170, 3) := by decide +kernel
theorem dX8_takeSigned_13 : decode cX8_takeSigned 13 = .ok (.iload_n 2, 1) := by decide +kernel
theorem dX8_takeSigned_14 : decode cX8_takeSigned 14 = .ok (.bipush 45, 2) := by decide +kernel
theorem dX8_takeSigned_16 : decode cX8_takeSigned 16 = .ok (.if_icmp .ne 7, 3) := by decide +kernel
theorem dX8_takeSigned_19 : decode cX8_takeSigned 19 = .ok (.iconst 1, 1) := by decide +kernel
theorem dX8_takeSigned_20 : decode cX8_takeSigned 20 = .ok (.goto 4, 3) := by decide +kernel
theorem dX8_takeSigned_23 : decode cX8_takeSigned 23 = .ok (.iconst 0, 1) := by decide +kernel
theorem dX8_takeSigned_24 : decode cX8_takeSigned 24 = .ok (.istore_n 3, 1) := by decide +kernel
theorem dX8_takeSigned_25 : decode cX8_takeSigned 25 = .ok (.aload_n 0, 1) := by decide +kernel
theorem dX8_takeSigned_26 : decode cX8_takeSigned 26 = .ok (.dup, 1) := by decide +kernel
theorem dX8_takeSigned_27 : decode cX8_takeSigned 27 = .ok (.getfield 118, 3) := by decide +kernel
theorem dX8_takeSigned_30 : decode cX8_takeSigned 30 = .ok (.iload_n 3, 1) := by decide +kernel
theorem dX8_takeSigned_31 : decode cX8_takeSigned 31 = .ok (.ifCond .eq 7, 3) := by decide +kernel
theorem dX8_takeSigned_34 : decode cX8_takeSigned 34 = .ok (.iconst 1, 1) := by decide +kernel
theorem dX8_takeSigned_35 : decode cX8_takeSigned 35 = .ok (.goto 4, 3) := by decide +kernel
theorem dX8_takeSigned_38 : decode cX8_takeSigned 38 = .ok (.iconst 0, 1) := by decide +kernel
theorem dX8_takeSigned_39 : decode cX8_takeSigned 39 = .ok (.iadd, 1) := by decide +kernel
theorem dX8_takeSigned_40 : decode cX8_takeSigned 40 = .ok (.putfield 118, 3) := by decide +kernel
theorem dX8_takeSigned_43 : decode cX8_takeSigned 43 = .ok (.aload_n 0, 1) := by decide +kernel
theorem dX8_takeSigned_44 : decode cX8_takeSigned 44 = .ok (.aload_n 0, 1) := by decide +kernel
theorem dX8_takeSigned_45 : decode cX8_takeSigned 45 = .ok (.getfield 170, 3) := by decide +kernel
theorem dX8_takeSigned_48 : decode cX8_takeSigned 48 = .ok (.iload_n 1, 1) := by decide +kernel
theorem dX8_takeSigned_49 : decode cX8_takeSigned 49 = .ok (.ineg, 1) := by decide +kernel
theorem dX8_takeSigned_50 : decode cX8_takeSigned 50 = .ok (.iload_n 1, 1) := by decide +kernel
theorem dX8_takeSigned_51 : decode cX8_takeSigned 51 = .ok (.iload_n 3, 1) := by decide +kernel
theorem dX8_takeSigned_52 : decode cX8_takeSigned 52 = .ok (.invokevirtual 173, 3) := by decide +kernel
theorem dX8_takeSigned_55 : decode cX8_takeSigned 55 = .ok (.ireturn, 1) := by decide +kernel
set_option maxHeartbeats 4000000 in
set_option maxRecDepth 100000 in
theorem m_takeSigned (l : Launch) (D : va_G) (k : Nat → ClassId) (st : Nat → Nat) (lo : Nat) (a : Nat → Nat) (tx : Nat) (t0 : Nat) (we : Nat) (rd : Nat) (ru : Nat) (rw : Nat) (ca : Nat) (fp : Int32) (wd : Int64) (nu : Int32) (na : Int32) (ts : Int32) (df : Int32) (db : Int32) (sd : Int32) (ftext : Nat → Int32) (p0 : Int32) (ht : t0 ≤ tx) (htx : tx ≤ 240) : CWi l D k st lo yX8_takeSigned cX8_takeSigned 4 (some .int) ({ frames := 2, cells := 0, slots := 0, locals := 51 }) 0 0 [.ref (a 0), .int p0] [((a 0), .inr (8, [.ref (a 1), .ref (a 2), .ref (a 3), .ref (a 4), .ref (a 5), .int (nI tx), .int fp, .int (nI t0), .long wd, .int (nI we), .int nu, .int na, .int (nI rd), .ref (a 14), .ref (a 15), .ref (a 16), .int ts, .ref (a 18), .ref (a 19), .ref (a 20), .ref (a 21), .ref (a 22), .ref (a 23), .int (nI ru), .ref (a 25), .ref (a 26), .ref (a 27), .ref (a 28), .ref (a 29), .ref (a 30), .int (nI rw), .ref (a 32), .ref (a 33), .ref (a 34), .int (nI ca), .ref (a 36), .ref (a 37), .int df, .int db, .ref (a 40), .ref (a 41), .int sd, .ref (a 43), .ref (a 44)])), ((a 5), .inl (k 1, 240, .inl ftext))] (fun (r : Int32) (u : Nat × Int32 × Int32 × Int32 × Nat) => match u with | (t0_, nu_, na_, fp_, er) => r = nI er ∧ er ≤ 2 ∧ t0 ≤ t0_ ∧ t0_ ≤ tx) (fun (u : Nat × Int32 × Int32 × Int32 × Nat) => match u with | (t0_, nu_, na_, fp_, er) => [((a 0), .inr (8, [.ref (a 1), .ref (a 2), .ref (a 3), .ref (a 4), .ref (a 5), .int (nI tx), .int fp_, .int (nI t0_), .long wd, .int (nI we), .int nu_, .int na_, .int (nI rd), .ref (a 14), .ref (a 15), .ref (a 16), .int ts, .ref (a 18), .ref (a 19), .ref (a 20), .ref (a 21), .ref (a 22), .ref (a 23), .int (nI ru), .ref (a 25), .ref (a 26), .ref (a 27), .ref (a 28), .ref (a 29), .ref (a 30), .int (nI rw), .ref (a 32), .ref (a 33), .ref (a 34), .int (nI ca), .ref (a 36), .ref (a 37), .int df, .int db, .ref (a 40), .ref (a 41), .int sd, .ref (a 43), .ref (a 44)])), ((a 5), .inl (k 1, 240, .inl ftext))]) := by
  intro sz
  refine Met.ofW (cc := cX8_takeSigned) (maxL := 4) (ret := (some .int)) (by decide) rfl ?_
  intro p e s m args below meth c s₁ B hml hv
  obtain ⟨rfl, hsz, hlo, hP, hK, hDL, hZ⟩ := hv
  have hx := B.exec
  have hb := B.bytes
  have hr := B.returns
  have hts := WS_ts B.pre
  have hown : s.vm.findClass RX8 = some m.cls := findClass_of_methodNamed B.named
  have hlocks := B.notSynchronized
  subst hsz
  have hD := hDL.self (sz := s.heap.size)
  have hAlo := A_lo hDL hlo
  generalize hAe : va_A [((a 0), .inr (8, [.ref (a 1), .ref (a 2), .ref (a 3), .ref (a 4), .ref (a 5), .int (nI tx), .int fp, .int (nI t0), .long wd, .int (nI we), .int nu, .int na, .int (nI rd), .ref (a 14), .ref (a 15), .ref (a 16), .int ts, .ref (a 18), .ref (a 19), .ref (a 20), .ref (a 21), .ref (a 22), .ref (a 23), .int (nI ru), .ref (a 25), .ref (a 26), .ref (a 27), .ref (a 28), .ref (a 29), .ref (a 30), .int (nI rw), .ref (a 32), .ref (a 33), .ref (a 34), .int (nI ca), .ref (a 36), .ref (a 37), .int df, .int db, .ref (a 40), .ref (a 41), .int sd, .ref (a 43), .ref (a 44)])), ((a 5), .inl (k 1, 240, .inl ftext))] s.heap.size = A at hD hAlo ⊢
  have hA : ∀ q : Nat, s.heap.size ≤ q → A q := fun q h => by rw [← hAe]; exact Or.inr h
  have hS : va_S A s.heap s.heap [] := va_S.rf
  have hl := lv_entry ([.ref (a 0), .int p0]) (n := 4) (Nat.le_of_ble_eq_true rfl)
  rw [lg_entry_eq]
  generalize (lg_sl ([.ref (a 0), .int p0]) ++ List.replicate (4 - (lg_sl ([.ref (a 0), .int p0])).length) Slot.unset).toArray = ls at hl ⊢
  have hl : lv_has ls 4 [(0, .ref (a 0)), (1, .int p0)] := hl
  refine lv_aload_n hx hb dX8_takeSigned_0 rfl (lv_at hl 0 rfl) ?_
  refine rw_i (D := D) (wr := []) (va_runV (As := []) (rest := []) ⟨hx, hb, hml, hown, hts⟩ ((m_here l D k st lo a tx t0 we rd ru rw ca fp wd nu na ts df db sd ftext (by omega) (by omega)) s.heap.size) (cwV 0 hts (gV tw_1120 tw_1122 tw_27 tw_87 tw_1123) rfl rfl rfl (by decide +kernel) ⟨Nat.le_of_ble_eq_true rfl, Nat.le_of_ble_eq_true rfl⟩) (pV hS hAlo hlo hP hK (va_Dlo hD hAlo) hZ [0, 1] (by decide) rfl (ci := 8) (q0 := 0) rfl rfl) rfl rfl hl.1 rfl (lv_room (Nat.le_of_ble_eq_true rfl)) dX8_takeSigned_1 ⟨Nat.le_of_ble_eq_true rfl, Nat.le_of_ble_eq_true rfl⟩) hS hA hP hD [0, 1] [] rfl rfl (by decide) (by decide) (fun r_1 u H locs hw_1 hP hD hS => ?_)
  obtain ⟨t0__1, rfl⟩ : ∃ z, z = u := ⟨_, rfl⟩
  replace hP : va_P D classes [((a 0), .inr (8, [.ref (a 1), .ref (a 2), .ref (a 3), .ref (a 4), .ref (a 5), .int (nI tx), .int fp, .int (nI t0__1), .long wd, .int (nI we), .int nu, .int na, .int (nI rd), .ref (a 14), .ref (a 15), .ref (a 16), .int ts, .ref (a 18), .ref (a 19), .ref (a 20), .ref (a 21), .ref (a 22), .ref (a 23), .int (nI ru), .ref (a 25), .ref (a 26), .ref (a 27), .ref (a 28), .ref (a 29), .ref (a 30), .int (nI rw), .ref (a 32), .ref (a 33), .ref (a 34), .int (nI ca), .ref (a 36), .ref (a 37), .int df, .int db, .ref (a 40), .ref (a 41), .int sd, .ref (a 43), .ref (a 44)])), ((a 5), .inl (k 1, 240, .inl ftext))] H := hP
  replace hD : va_D A [((a 0), .inr (8, [.ref (a 1), .ref (a 2), .ref (a 3), .ref (a 4), .ref (a 5), .int (nI tx), .int fp, .int (nI t0__1), .long wd, .int (nI we), .int nu, .int na, .int (nI rd), .ref (a 14), .ref (a 15), .ref (a 16), .int ts, .ref (a 18), .ref (a 19), .ref (a 20), .ref (a 21), .ref (a 22), .ref (a 23), .int (nI ru), .ref (a 25), .ref (a 26), .ref (a 27), .ref (a 28), .ref (a 29), .ref (a 30), .int (nI rw), .ref (a 32), .ref (a 33), .ref (a 34), .int (nI ca), .ref (a 36), .ref (a 37), .int df, .int db, .ref (a 40), .ref (a 41), .int sd, .ref (a 43), .ref (a 44)])), ((a 5), .inl (k 1, 240, .inl ftext))] := hD
  try dsimp only at hw_1
  refine lv_istore_n (lv' := [(2, .int r_1), (0, .ref (a 0)), (1, .int p0)]) hx hb dX8_takeSigned_4 rfl hl (by decide) rfl (fun ls hl => ?_)
  refine lv_aload_n hx hb dX8_takeSigned_5 rfl (lv_at hl 1 rfl) ?_
  refine lv_aload_n hx hb dX8_takeSigned_6 rfl (lv_at hl 1 rfl) ?_
  refine va_get (D := D) (ci := 8) (v := .int (nI t0__1)) (C := RX8) (T := TX8) (N := 44) hx hb hts inX8 hown hK hP 0 rfl rfl 7 (by decide) (hts _ tw_980) (fun _ h9 => h9) rfl dX8_takeSigned_7 ?_
  refine va_put (D := D) (ci := 8) (v := .int (nI t0__1)) (ty := .int) (C := RX8) (T := TX8) (N := 44) hx hb hts inX8 tyX8 tyX8_ok nmX8 hown hK hP hD hS 0 rfl rfl 11 (by decide) (hts _ tw_984) (fun _ h9 => h9) rfl (by decide +kernel) rfl rfl (Nat.le_of_ble_eq_true rfl) dX8_takeSigned_10 (fun H locs hP hD hS => ?_)
  replace hP : va_P D classes [((a 0), .inr (8, [.ref (a 1), .ref (a 2), .ref (a 3), .ref (a 4), .ref (a 5), .int (nI tx), .int fp, .int (nI t0__1), .long wd, .int (nI we), .int nu, .int (nI t0__1), .int (nI rd), .ref (a 14), .ref (a 15), .ref (a 16), .int ts, .ref (a 18), .ref (a 19), .ref (a 20), .ref (a 21), .ref (a 22), .ref (a 23), .int (nI ru), .ref (a 25), .ref (a 26), .ref (a 27), .ref (a 28), .ref (a 29), .ref (a 30), .int (nI rw), .ref (a 32), .ref (a 33), .ref (a 34), .int (nI ca), .ref (a 36), .ref (a 37), .int df, .int db, .ref (a 40), .ref (a 41), .int sd, .ref (a 43), .ref (a 44)])), ((a 5), .inl (k 1, 240, .inl ftext))] H := hP
  replace hD : va_D A [((a 0), .inr (8, [.ref (a 1), .ref (a 2), .ref (a 3), .ref (a 4), .ref (a 5), .int (nI tx), .int fp, .int (nI t0__1), .long wd, .int (nI we), .int nu, .int (nI t0__1), .int (nI rd), .ref (a 14), .ref (a 15), .ref (a 16), .int ts, .ref (a 18), .ref (a 19), .ref (a 20), .ref (a 21), .ref (a 22), .ref (a 23), .int (nI ru), .ref (a 25), .ref (a 26), .ref (a 27), .ref (a 28), .ref (a 29), .ref (a 30), .int (nI rw), .ref (a 32), .ref (a 33), .ref (a 34), .int (nI ca), .ref (a 36), .ref (a 37), .int df, .int db, .ref (a 40), .ref (a 41), .int sd, .ref (a 43), .ref (a 44)])), ((a 5), .inl (k 1, 240, .inl ftext))] := hD
  refine lv_iload_n hx hb dX8_takeSigned_13 rfl (lv_at hl 0 rfl) ?_
  refine lv_bipush (v := 45) hx hb dX8_takeSigned_14 (by decide) ?_
  refine lv_icmp_ne (tgt := 23) hx hb dX8_takeSigned_16 (by decide) (fun c_2 => ?_) (fun c_2 => ?_)
  · refine lv_iconst (v := 0) hx hb dX8_takeSigned_23 (by decide) ?_
    refine lv_istore_n (lv' := [(3, .int 0), (2, .int r_1), (0, .ref (a 0)), (1, .int p0)]) hx hb dX8_takeSigned_24 rfl hl (by decide) rfl (fun ls hl => ?_)
    refine lv_aload_n hx hb dX8_takeSigned_25 rfl (lv_at hl 2 rfl) ?_
    refine lv_dup hx hb dX8_takeSigned_26 rfl ?_
    refine va_get (D := D) (ci := 8) (v := .int (nI t0__1)) (C := RX8) (T := TX8) (N := 44) hx hb hts inX8 hown hK hP 0 rfl rfl 7 (by decide) (hts _ tw_980) (fun _ h9 => h9) rfl dX8_takeSigned_27 ?_
    refine lv_iload_n hx hb dX8_takeSigned_30 rfl (lv_at hl 0 rfl) ?_
    refine lv_if_eq (tgt := 38) hx hb dX8_takeSigned_31 (by decide) (fun _ => ?_) (fun h => absurd (by decide) h)
    refine lv_iconst (v := 0) hx hb dX8_takeSigned_38 (by decide) ?_
    refine lv_iadd hx hb dX8_takeSigned_39 ?_
    refine lv_ti (y := (nI (t0__1 + 0))) (nI_add t0__1 0) ?_
    refine va_put (D := D) (ci := 8) (v := .int (nI (t0__1 + 0))) (ty := .int) (C := RX8) (T := TX8) (N := 44) hx hb hts inX8 tyX8 tyX8_ok nmX8 hown hK hP hD hS 0 rfl rfl 7 (by decide) (hts _ tw_980) (fun _ h9 => h9) rfl (by decide +kernel) rfl rfl (Nat.le_of_ble_eq_true rfl) dX8_takeSigned_40 (fun H locs hP hD hS => ?_)
    replace hP : va_P D classes [((a 0), .inr (8, [.ref (a 1), .ref (a 2), .ref (a 3), .ref (a 4), .ref (a 5), .int (nI tx), .int fp, .int (nI (t0__1 + 0)), .long wd, .int (nI we), .int nu, .int (nI t0__1), .int (nI rd), .ref (a 14), .ref (a 15), .ref (a 16), .int ts, .ref (a 18), .ref (a 19), .ref (a 20), .ref (a 21), .ref (a 22), .ref (a 23), .int (nI ru), .ref (a 25), .ref (a 26), .ref (a 27), .ref (a 28), .ref (a 29), .ref (a 30), .int (nI rw), .ref (a 32), .ref (a 33), .ref (a 34), .int (nI ca), .ref (a 36), .ref (a 37), .int df, .int db, .ref (a 40), .ref (a 41), .int sd, .ref (a 43), .ref (a 44)])), ((a 5), .inl (k 1, 240, .inl ftext))] H := hP
    replace hD : va_D A [((a 0), .inr (8, [.ref (a 1), .ref (a 2), .ref (a 3), .ref (a 4), .ref (a 5), .int (nI tx), .int fp, .int (nI (t0__1 + 0)), .long wd, .int (nI we), .int nu, .int (nI t0__1), .int (nI rd), .ref (a 14), .ref (a 15), .ref (a 16), .int ts, .ref (a 18), .ref (a 19), .ref (a 20), .ref (a 21), .ref (a 22), .ref (a 23), .int (nI ru), .ref (a 25), .ref (a 26), .ref (a 27), .ref (a 28), .ref (a 29), .ref (a 30), .int (nI rw), .ref (a 32), .ref (a 33), .ref (a 34), .int (nI ca), .ref (a 36), .ref (a 37), .int df, .int db, .ref (a 40), .ref (a 41), .int sd, .ref (a 43), .ref (a 44)])), ((a 5), .inl (k 1, 240, .inl ftext))] := hD
    refine lv_aload_n hx hb dX8_takeSigned_43 rfl (lv_at hl 2 rfl) ?_
    refine lv_aload_n hx hb dX8_takeSigned_44 rfl (lv_at hl 2 rfl) ?_
    refine va_get (D := D) (ci := 8) (v := .int (nI t0__1)) (C := RX8) (T := TX8) (N := 44) hx hb hts inX8 hown hK hP 0 rfl rfl 11 (by decide) (hts _ tw_984) (fun _ h9 => h9) rfl dX8_takeSigned_45 ?_
    refine lv_iload_n hx hb dX8_takeSigned_48 rfl (lv_at hl 3 rfl) ?_
    refine lv_ineg hx hb dX8_takeSigned_49 ?_
    refine lv_topi (fun x_3 ex_3 => ?_)
    refine lv_iload_n hx hb dX8_takeSigned_50 rfl (lv_at hl 3 rfl) ?_
    refine lv_iload_n hx hb dX8_takeSigned_51 rfl (lv_at hl 0 rfl) ?_
    refine rw_i (D := D) (wr := []) (va_runV (As := [.int (nI t0__1), .int x_3, .int p0, .int 0]) (rest := []) ⟨hx, hb, hml, hown, hts⟩ ((m_takeFigures l D k st lo a tx (t0__1 + 0) we rd ru rw ca fp wd nu (nI t0__1) ts df db sd ftext (nI t0__1) x_3 p0 0 (by omega) (by omega)) H.size) (cwV 4 hts (gV tw_1165 tw_1167 tw_34 tw_87 tw_1168) rfl rfl rfl (by decide +kernel) ⟨Nat.le_of_ble_eq_true rfl, Nat.le_of_ble_eq_true rfl⟩) (pV hS hAlo hlo hP hK (va_Dlo hD hAlo) hZ [0, 1] (by decide) rfl (ci := 8) (q0 := 0) rfl rfl) rfl rfl hl.1 rfl (lv_room (Nat.le_of_ble_eq_true rfl)) dX8_takeSigned_52 ⟨Nat.le_of_ble_eq_true rfl, Nat.le_of_ble_eq_true rfl⟩) hS hA hP hD [0, 1] [] rfl rfl (by decide) (by decide) (fun r_4 u H locs hw_4 hP hD hS => ?_)
    obtain ⟨t0__4, nu__4, fp__4, er_4⟩ := u
    replace hP : va_P D classes [((a 0), .inr (8, [.ref (a 1), .ref (a 2), .ref (a 3), .ref (a 4), .ref (a 5), .int (nI tx), .int fp__4, .int (nI t0__4), .long wd, .int (nI we), .int nu__4, .int (nI t0__1), .int (nI rd), .ref (a 14), .ref (a 15), .ref (a 16), .int ts, .ref (a 18), .ref (a 19), .ref (a 20), .ref (a 21), .ref (a 22), .ref (a 23), .int (nI ru), .ref (a 25), .ref (a 26), .ref (a 27), .ref (a 28), .ref (a 29), .ref (a 30), .int (nI rw), .ref (a 32), .ref (a 33), .ref (a 34), .int (nI ca), .ref (a 36), .ref (a 37), .int df, .int db, .ref (a 40), .ref (a 41), .int sd, .ref (a 43), .ref (a 44)])), ((a 5), .inl (k 1, 240, .inl ftext))] H := hP
    replace hD : va_D A [((a 0), .inr (8, [.ref (a 1), .ref (a 2), .ref (a 3), .ref (a 4), .ref (a 5), .int (nI tx), .int fp__4, .int (nI t0__4), .long wd, .int (nI we), .int nu__4, .int (nI t0__1), .int (nI rd), .ref (a 14), .ref (a 15), .ref (a 16), .int ts, .ref (a 18), .ref (a 19), .ref (a 20), .ref (a 21), .ref (a 22), .ref (a 23), .int (nI ru), .ref (a 25), .ref (a 26), .ref (a 27), .ref (a 28), .ref (a 29), .ref (a 30), .int (nI rw), .ref (a 32), .ref (a 33), .ref (a 34), .int (nI ca), .ref (a 36), .ref (a 37), .int df, .int db, .ref (a 40), .ref (a 41), .int sd, .ref (a 43), .ref (a 44)])), ((a 5), .inl (k 1, 240, .inl ftext))] := hD
    try dsimp only at hw_4
    obtain ⟨rfl, hw_4⟩ := hw_4
    have hP9 := hP.sub (ws' := [((a 0), .inr (8, [.ref (a 1), .ref (a 2), .ref (a 3), .ref (a 4), .ref (a 5), .int (nI tx), .int fp__4, .int (nI t0__4), .long wd, .int (nI we), .int nu__4, .int (nI t0__1), .int (nI rd), .ref (a 14), .ref (a 15), .ref (a 16), .int ts, .ref (a 18), .ref (a 19), .ref (a 20), .ref (a 21), .ref (a 22), .ref (a 23), .int (nI ru), .ref (a 25), .ref (a 26), .ref (a 27), .ref (a 28), .ref (a 29), .ref (a 30), .int (nI rw), .ref (a 32), .ref (a 33), .ref (a 34), .int (nI ca), .ref (a 36), .ref (a 37), .int df, .int db, .ref (a 40), .ref (a 41), .int sd, .ref (a 43), .ref (a 44)])), ((a 5), .inl (k 1, 240, .inl ftext))]) [0, 1] rfl
    have hD9 := hD.sub (ws' := [((a 0), .inr (8, [.ref (a 1), .ref (a 2), .ref (a 3), .ref (a 4), .ref (a 5), .int (nI tx), .int fp__4, .int (nI t0__4), .long wd, .int (nI we), .int nu__4, .int (nI t0__1), .int (nI rd), .ref (a 14), .ref (a 15), .ref (a 16), .int ts, .ref (a 18), .ref (a 19), .ref (a 20), .ref (a 21), .ref (a 22), .ref (a 23), .int (nI ru), .ref (a 25), .ref (a 26), .ref (a 27), .ref (a 28), .ref (a 29), .ref (a 30), .int (nI rw), .ref (a 32), .ref (a 33), .ref (a 34), .int (nI ca), .ref (a 36), .ref (a 37), .int df, .int db, .ref (a 40), .ref (a 41), .int sd, .ref (a 43), .ref (a 44)])), ((a 5), .inl (k 1, 240, .inl ftext))]) [0, 1] (by decide) rfl
    exact W.iret (v := (nI er_4)) hx hb hr (fun t ht hW => ⟨⟨(nI er_4), (t0__4, nu__4, (nI t0__1), fp__4, er_4), rfl, ⟨rfl, by omega, by omega, by omega⟩, by rw [ht]; exact hP9, hD9⟩, hS.F ht⟩) hS.2.2 dX8_takeSigned_55
  · have hlt_5 := hw_1.2.2.resolve_left (fun h => absurd (h.symm.trans c_2) (by decide))
    refine lv_iconst (v := 1) hx hb dX8_takeSigned_19 (by decide) ?_
    refine lv_goto (tgt := 24) hx hb dX8_takeSigned_20 (by decide) ?_
    refine lv_istore_n (lv' := [(3, .int 1), (2, .int r_1), (0, .ref (a 0)), (1, .int p0)]) hx hb dX8_takeSigned_24 rfl hl (by decide) rfl (fun ls hl => ?_)
    refine lv_aload_n hx hb dX8_takeSigned_25 rfl (lv_at hl 2 rfl) ?_
    refine lv_dup hx hb dX8_takeSigned_26 rfl ?_
    refine va_get (D := D) (ci := 8) (v := .int (nI t0__1)) (C := RX8) (T := TX8) (N := 44) hx hb hts inX8 hown hK hP 0 rfl rfl 7 (by decide) (hts _ tw_980) (fun _ h9 => h9) rfl dX8_takeSigned_27 ?_
    refine lv_iload_n hx hb dX8_takeSigned_30 rfl (lv_at hl 0 rfl) ?_
    refine lv_if_eq (tgt := 38) hx hb dX8_takeSigned_31 (by decide) (fun h => absurd h (by decide)) (fun _ => ?_)
    refine lv_iconst (v := 1) hx hb dX8_takeSigned_34 (by decide) ?_
    refine lv_goto (tgt := 39) hx hb dX8_takeSigned_35 (by decide) ?_
    refine lv_iadd hx hb dX8_takeSigned_39 ?_
    refine lv_ti (y := (nI (t0__1 + 1))) (nI_add t0__1 1) ?_
    refine va_put (D := D) (ci := 8) (v := .int (nI (t0__1 + 1))) (ty := .int) (C := RX8) (T := TX8) (N := 44) hx hb hts inX8 tyX8 tyX8_ok nmX8 hown hK hP hD hS 0 rfl rfl 7 (by decide) (hts _ tw_980) (fun _ h9 => h9) rfl (by decide +kernel) rfl rfl (Nat.le_of_ble_eq_true rfl) dX8_takeSigned_40 (fun H locs hP hD hS => ?_)
    replace hP : va_P D classes [((a 0), .inr (8, [.ref (a 1), .ref (a 2), .ref (a 3), .ref (a 4), .ref (a 5), .int (nI tx), .int fp, .int (nI (t0__1 + 1)), .long wd, .int (nI we), .int nu, .int (nI t0__1), .int (nI rd), .ref (a 14), .ref (a 15), .ref (a 16), .int ts, .ref (a 18), .ref (a 19), .ref (a 20), .ref (a 21), .ref (a 22), .ref (a 23), .int (nI ru), .ref (a 25), .ref (a 26), .ref (a 27), .ref (a 28), .ref (a 29), .ref (a 30), .int (nI rw), .ref (a 32), .ref (a 33), .ref (a 34), .int (nI ca), .ref (a 36), .ref (a 37), .int df, .int db, .ref (a 40), .ref (a 41), .int sd, .ref (a 43), .ref (a 44)])), ((a 5), .inl (k 1, 240, .inl ftext))] H := hP
    replace hD : va_D A [((a 0), .inr (8, [.ref (a 1), .ref (a 2), .ref (a 3), .ref (a 4), .ref (a 5), .int (nI tx), .int fp, .int (nI (t0__1 + 1)), .long wd, .int (nI we), .int nu, .int (nI t0__1), .int (nI rd), .ref (a 14), .ref (a 15), .ref (a 16), .int ts, .ref (a 18), .ref (a 19), .ref (a 20), .ref (a 21), .ref (a 22), .ref (a 23), .int (nI ru), .ref (a 25), .ref (a 26), .ref (a 27), .ref (a 28), .ref (a 29), .ref (a 30), .int (nI rw), .ref (a 32), .ref (a 33), .ref (a 34), .int (nI ca), .ref (a 36), .ref (a 37), .int df, .int db, .ref (a 40), .ref (a 41), .int sd, .ref (a 43), .ref (a 44)])), ((a 5), .inl (k 1, 240, .inl ftext))] := hD
    refine lv_aload_n hx hb dX8_takeSigned_43 rfl (lv_at hl 2 rfl) ?_
    refine lv_aload_n hx hb dX8_takeSigned_44 rfl (lv_at hl 2 rfl) ?_
    refine va_get (D := D) (ci := 8) (v := .int (nI t0__1)) (C := RX8) (T := TX8) (N := 44) hx hb hts inX8 hown hK hP 0 rfl rfl 11 (by decide) (hts _ tw_984) (fun _ h9 => h9) rfl dX8_takeSigned_45 ?_
    refine lv_iload_n hx hb dX8_takeSigned_48 rfl (lv_at hl 3 rfl) ?_
    refine lv_ineg hx hb dX8_takeSigned_49 ?_
    refine lv_topi (fun x_6 ex_6 => ?_)
    refine lv_iload_n hx hb dX8_takeSigned_50 rfl (lv_at hl 3 rfl) ?_
    refine lv_iload_n hx hb dX8_takeSigned_51 rfl (lv_at hl 0 rfl) ?_
    refine rw_i (D := D) (wr := []) (va_runV (As := [.int (nI t0__1), .int x_6, .int p0, .int 1]) (rest := []) ⟨hx, hb, hml, hown, hts⟩ ((m_takeFigures l D k st lo a tx (t0__1 + 1) we rd ru rw ca fp wd nu (nI t0__1) ts df db sd ftext (nI t0__1) x_6 p0 1 (by omega) (by omega)) H.size) (cwV 4 hts (gV tw_1165 tw_1167 tw_34 tw_87 tw_1168) rfl rfl rfl (by decide +kernel) ⟨Nat.le_of_ble_eq_true rfl, Nat.le_of_ble_eq_true rfl⟩) (pV hS hAlo hlo hP hK (va_Dlo hD hAlo) hZ [0, 1] (by decide) rfl (ci := 8) (q0 := 0) rfl rfl) rfl rfl hl.1 rfl (lv_room (Nat.le_of_ble_eq_true rfl)) dX8_takeSigned_52 ⟨Nat.le_of_ble_eq_true rfl, Nat.le_of_ble_eq_true rfl⟩) hS hA hP hD [0, 1] [] rfl rfl (by decide) (by decide) (fun r_7 u H locs hw_7 hP hD hS => ?_)
    obtain ⟨t0__7, nu__7, fp__7, er_7⟩ := u
    replace hP : va_P D classes [((a 0), .inr (8, [.ref (a 1), .ref (a 2), .ref (a 3), .ref (a 4), .ref (a 5), .int (nI tx), .int fp__7, .int (nI t0__7), .long wd, .int (nI we), .int nu__7, .int (nI t0__1), .int (nI rd), .ref (a 14), .ref (a 15), .ref (a 16), .int ts, .ref (a 18), .ref (a 19), .ref (a 20), .ref (a 21), .ref (a 22), .ref (a 23), .int (nI ru), .ref (a 25), .ref (a 26), .ref (a 27), .ref (a 28), .ref (a 29), .ref (a 30), .int (nI rw), .ref (a 32), .ref (a 33), .ref (a 34), .int (nI ca), .ref (a 36), .ref (a 37), .int df, .int db, .ref (a 40), .ref (a 41), .int sd, .ref (a 43), .ref (a 44)])), ((a 5), .inl (k 1, 240, .inl ftext))] H := hP
    replace hD : va_D A [((a 0), .inr (8, [.ref (a 1), .ref (a 2), .ref (a 3), .ref (a 4), .ref (a 5), .int (nI tx), .int fp__7, .int (nI t0__7), .long wd, .int (nI we), .int nu__7, .int (nI t0__1), .int (nI rd), .ref (a 14), .ref (a 15), .ref (a 16), .int ts, .ref (a 18), .ref (a 19), .ref (a 20), .ref (a 21), .ref (a 22), .ref (a 23), .int (nI ru), .ref (a 25), .ref (a 26), .ref (a 27), .ref (a 28), .ref (a 29), .ref (a 30), .int (nI rw), .ref (a 32), .ref (a 33), .ref (a 34), .int (nI ca), .ref (a 36), .ref (a 37), .int df, .int db, .ref (a 40), .ref (a 41), .int sd, .ref (a 43), .ref (a 44)])), ((a 5), .inl (k 1, 240, .inl ftext))] := hD
    try dsimp only at hw_7
    obtain ⟨rfl, hw_7⟩ := hw_7
    have hP9 := hP.sub (ws' := [((a 0), .inr (8, [.ref (a 1), .ref (a 2), .ref (a 3), .ref (a 4), .ref (a 5), .int (nI tx), .int fp__7, .int (nI t0__7), .long wd, .int (nI we), .int nu__7, .int (nI t0__1), .int (nI rd), .ref (a 14), .ref (a 15), .ref (a 16), .int ts, .ref (a 18), .ref (a 19), .ref (a 20), .ref (a 21), .ref (a 22), .ref (a 23), .int (nI ru), .ref (a 25), .ref (a 26), .ref (a 27), .ref (a 28), .ref (a 29), .ref (a 30), .int (nI rw), .ref (a 32), .ref (a 33), .ref (a 34), .int (nI ca), .ref (a 36), .ref (a 37), .int df, .int db, .ref (a 40), .ref (a 41), .int sd, .ref (a 43), .ref (a 44)])), ((a 5), .inl (k 1, 240, .inl ftext))]) [0, 1] rfl
    have hD9 := hD.sub (ws' := [((a 0), .inr (8, [.ref (a 1), .ref (a 2), .ref (a 3), .ref (a 4), .ref (a 5), .int (nI tx), .int fp__7, .int (nI t0__7), .long wd, .int (nI we), .int nu__7, .int (nI t0__1), .int (nI rd), .ref (a 14), .ref (a 15), .ref (a 16), .int ts, .ref (a 18), .ref (a 19), .ref (a 20), .ref (a 21), .ref (a 22), .ref (a 23), .int (nI ru), .ref (a 25), .ref (a 26), .ref (a 27), .ref (a 28), .ref (a 29), .ref (a 30), .int (nI rw), .ref (a 32), .ref (a 33), .ref (a 34), .int (nI ca), .ref (a 36), .ref (a 37), .int df, .int db, .ref (a 40), .ref (a 41), .int sd, .ref (a 43), .ref (a 44)])), ((a 5), .inl (k 1, 240, .inl ftext))]) [0, 1] (by decide) rfl
    exact W.iret (v := (nI er_7)) hx hb hr (fun t ht hW => ⟨⟨(nI er_7), (t0__7, nu__7, (nI t0__1), fp__7, er_7), rfl, ⟨rfl, by omega, by omega, by omega⟩, by rw [ht]; exact hP9, hD9⟩, hS.F ht⟩) hS.2.2 dX8_takeSigned_55


theorem dX8_allCosts_0 : decode cX8_allCosts 0 = .ok (.aload_n 0, 1) := by decide +kernel
theorem dX8_allCosts_1 : decode cX8_allCosts 1 = .ok (.iload_n 1, 1) := by decide +kernel
theorem dX8_allCosts_2 : decode cX8_allCosts 2 = .ok (.iload_n 2, 1) := by decide +kernel
theorem dX8_allCosts_3 : decode cX8_allCosts 3 = .ok (.invokevirtual 327, 3) := by decide +kernel
theorem dX8_allCosts_6 : decode cX8_allCosts 6 = .ok (.iconst 0, 1) := by decide +kernel
theorem dX8_allCosts_7 : decode cX8_allCosts 7 = .ok (.istore_n 3, 1) := by decide +kernel
theorem dX8_allCosts_8 : decode cX8_allCosts 8 = .ok (.iconst 0, 1) := by decide +kernel
theorem dX8_allCosts_9 : decode cX8_allCosts 9 = .ok (.istore 4, 2) := by decide +kernel
theorem dX8_allCosts_11 : decode cX8_allCosts 11 = .ok (.iload 4, 2) := by decide +kernel
theorem dX8_allCosts_13 : decode cX8_allCosts 13 = .ok (.aload_n 0, 1) := by decide +kernel
theorem dX8_allCosts_14 : decode cX8_allCosts 14 = .ok (.getfield 315, 3) := by decide +kernel
theorem dX8_allCosts_17 : decode cX8_allCosts 17 = .ok (.if_icmp .ge 26, 3) := by decide +kernel
theorem dX8_allCosts_20 : decode cX8_allCosts 20 = .ok (.iload_n 3, 1) := by decide +kernel
theorem dX8_allCosts_21 : decode cX8_allCosts 21 = .ok (.aload_n 0, 1) := by decide +kernel
theorem dX8_allCosts_22 : decode cX8_allCosts 22 = .ok (.iload_n 1, 1) := by decide +kernel
theorem dX8_allCosts_23 : decode cX8_allCosts 23 = .ok (.iload 4, 2) := by decide +kernel
theorem dX8_allCosts_25 : decode cX8_allCosts 25 = .ok (.aload_n 0, 1) := by decide +kernel
theorem dX8_allCosts_26 : decode cX8_allCosts 26 = .ok (.getfield 90, 3) := by decide +kernel
theorem dX8_allCosts_29 : decode cX8_allCosts 29 = .ok (.iload 4, 2) := by decide +kernel
theorem dX8_allCosts_31 : decode cX8_allCosts 31 = .ok (.iaload, 1) := by decide +kernel
theorem dX8_allCosts_32 : decode cX8_allCosts 32 = .ok (.invokevirtual 330, 3) := by decide +kernel
theorem dX8_allCosts_35 : decode cX8_allCosts 35 = .ok (.iadd, 1) := by decide +kernel
theorem dX8_allCosts_36 : decode cX8_allCosts 36 = .ok (.istore_n 3, 1) := by decide +kernel
theorem dX8_allCosts_37 : decode cX8_allCosts 37 = .ok (.iinc 4 1, 3) := by decide +kernel
theorem dX8_allCosts_40 : decode cX8_allCosts 40 = .ok (.goto (-29), 3) := by decide +kernel
theorem dX8_allCosts_43 : decode cX8_allCosts 43 = .ok (.iload_n 3, 1) := by decide +kernel
theorem dX8_allCosts_44 : decode cX8_allCosts 44 = .ok (.ireturn, 1) := by decide +kernel
set_option maxHeartbeats 4000000 in
set_option maxRecDepth 100000 in
theorem m_allCosts (l : Launch) (D : va_G) (k : Nat → ClassId) (st : Nat → Nat) (lo : Nat) (a : Nat → Nat) (tx : Nat) (t0 : Nat) (we : Nat) (rd : Nat) (ru : Nat) (rw : Nat) (ca : Nat) (fp : Int32) (wd : Int64) (nu : Int32) (na : Int32) (ts : Int32) (df : Int32) (db : Int32) (sd : Int32) (dn : Nat → Nat) (se : Nat → Nat) (tm : Nat → Nat) (gs : Nat → Int32) (fprices : Nat → Int32) (fwalks : Nat → Int32) (br : Nat → Nat) (fdoorsOf : Nat → Int32) (sn : Nat) (p1 : Int32) (hdn : ∀ j, dn j ≤ 24) (hca : ca ≤ 4) (hbr : ∀ j, br j ≤ 24) (hs : sn < 3) (hdv : dvOK fdoorsOf) : CWi l D k st lo yX8_allCosts cX8_allCosts 5 (some .int) ({ frames := 4, cells := 0, slots := 0, locals := 94 }) 0 0 [.ref (a 0), .int (nI sn), .int p1] [((a 0), .inr (8, [.ref (a 1), .ref (a 2), .ref (a 3), .ref (a 4), .ref (a 5), .int (nI tx), .int fp, .int (nI t0), .long wd, .int (nI we), .int nu, .int na, .int (nI rd), .ref (a 14), .ref (a 15), .ref (a 16), .int ts, .ref (a 18), .ref (a 19), .ref (a 20), .ref (a 21), .ref (a 22), .ref (a 23), .int (nI ru), .ref (a 25), .ref (a 26), .ref (a 27), .ref (a 28), .ref (a 29), .ref (a 30), .int (nI rw), .ref (a 32), .ref (a 33), .ref (a 34), .int (nI ca), .ref (a 36), .ref (a 37), .int df, .int db, .ref (a 40), .ref (a 41), .int sd, .ref (a 43), .ref (a 44)])), ((a 1), .inl (k 1, 3, .inl (nF dn))), ((a 4), .inl (k 1, 27, .inl (sg se tm gs))), ((a 3), .inl (k 1, 72, .inl fprices)), ((a 36), .inl (k 1, 4, .inl fwalks)), ((a 37), .inl (k 1, 4, .inl (nF br))), ((a 40), .inl (k 1, 4, .inl fdoorsOf))] (fun (r : Int32) (fdoorsOf_ : (Nat → Int32)) => dvOK fdoorsOf_) (fun (fdoorsOf_ : (Nat → Int32)) => [((a 0), .inr (8, [.ref (a 1), .ref (a 2), .ref (a 3), .ref (a 4), .ref (a 5), .int (nI tx), .int fp, .int (nI t0), .long wd, .int (nI we), .int nu, .int na, .int (nI rd), .ref (a 14), .ref (a 15), .ref (a 16), .int ts, .ref (a 18), .ref (a 19), .ref (a 20), .ref (a 21), .ref (a 22), .ref (a 23), .int (nI ru), .ref (a 25), .ref (a 26), .ref (a 27), .ref (a 28), .ref (a 29), .ref (a 30), .int (nI rw), .ref (a 32), .ref (a 33), .ref (a 34), .int (nI ca), .ref (a 36), .ref (a 37), .int df, .int db, .ref (a 40), .ref (a 41), .int sd, .ref (a 43), .ref (a 44)])), ((a 1), .inl (k 1, 3, .inl (nF dn))), ((a 4), .inl (k 1, 27, .inl (sg se tm gs))), ((a 3), .inl (k 1, 72, .inl fprices)), ((a 36), .inl (k 1, 4, .inl fwalks)), ((a 37), .inl (k 1, 4, .inl (nF br))), ((a 40), .inl (k 1, 4, .inl fdoorsOf_))]) := by
  intro sz
  refine Met.ofW (cc := cX8_allCosts) (maxL := 5) (ret := (some .int)) (by decide) rfl ?_
  intro p e s m args below meth c s₁ B hml hv
  obtain ⟨rfl, hsz, hlo, hP, hK, hDL, hZ⟩ := hv
  have hx := B.exec
  have hb := B.bytes
  have hr := B.returns
  have hts := WS_ts B.pre
  have hown : s.vm.findClass RX8 = some m.cls := findClass_of_methodNamed B.named
  have hlocks := B.notSynchronized
  subst hsz
  have hD := hDL.self (sz := s.heap.size)
  have hAlo := A_lo hDL hlo
  generalize hAe : va_A [((a 0), .inr (8, [.ref (a 1), .ref (a 2), .ref (a 3), .ref (a 4), .ref (a 5), .int (nI tx), .int fp, .int (nI t0), .long wd, .int (nI we), .int nu, .int na, .int (nI rd), .ref (a 14), .ref (a 15), .ref (a 16), .int ts, .ref (a 18), .ref (a 19), .ref (a 20), .ref (a 21), .ref (a 22), .ref (a 23), .int (nI ru), .ref (a 25), .ref (a 26), .ref (a 27), .ref (a 28), .ref (a 29), .ref (a 30), .int (nI rw), .ref (a 32), .ref (a 33), .ref (a 34), .int (nI ca), .ref (a 36), .ref (a 37), .int df, .int db, .ref (a 40), .ref (a 41), .int sd, .ref (a 43), .ref (a 44)])), ((a 1), .inl (k 1, 3, .inl (nF dn))), ((a 4), .inl (k 1, 27, .inl (sg se tm gs))), ((a 3), .inl (k 1, 72, .inl fprices)), ((a 36), .inl (k 1, 4, .inl fwalks)), ((a 37), .inl (k 1, 4, .inl (nF br))), ((a 40), .inl (k 1, 4, .inl fdoorsOf))] s.heap.size = A at hD hAlo ⊢
  have hA : ∀ q : Nat, s.heap.size ≤ q → A q := fun q h => by rw [← hAe]; exact Or.inr h
  have hS : va_S A s.heap s.heap [] := va_S.rf
  have hl := lv_entry ([.ref (a 0), .int (nI sn), .int p1]) (n := 5) (Nat.le_of_ble_eq_true rfl)
  rw [lg_entry_eq]
  generalize (lg_sl ([.ref (a 0), .int (nI sn), .int p1]) ++ List.replicate (5 - (lg_sl ([.ref (a 0), .int (nI sn), .int p1])).length) Slot.unset).toArray = ls at hl ⊢
  have hl : lv_has ls 5 [(0, .ref (a 0)), (1, .int (nI sn)), (2, .int p1)] := hl
  refine lv_aload_n hx hb dX8_allCosts_0 rfl (lv_at hl 0 rfl) ?_
  refine lv_iload_n hx hb dX8_allCosts_1 rfl (lv_at hl 1 rfl) ?_
  refine lv_iload_n hx hb dX8_allCosts_2 rfl (lv_at hl 2 rfl) ?_
  refine rw_v (D := D) (wr := [((a 4), .inl (k 1, 27, .inl (sg se tm gs))), ((a 3), .inl (k 1, 72, .inl fprices)), ((a 36), .inl (k 1, 4, .inl fwalks))]) (va_runV (As := [.int (nI sn), .int p1]) (rest := []) ⟨hx, hb, hml, hown, hts⟩ ((m_parkAll l D k st lo a tx t0 we rd ru rw ca fp wd nu na ts df db sd dn br fdoorsOf sn p1 hdn (by omega) hbr (by omega) (by omega)) s.heap.size) (cwV 2 hts (gV tw_1398 tw_1400 tw_66 tw_87 tw_1401) rfl rfl rfl (by decide +kernel) ⟨Nat.le_of_ble_eq_true rfl, Nat.le_of_ble_eq_true rfl⟩) (pV hS hAlo hlo hP hK (va_Dlo hD hAlo) hZ [0, 1, 5, 6] (by decide) rfl (ci := 8) (q0 := 0) rfl rfl) rfl rfl hl.1 rfl (lv_room (Nat.le_of_ble_eq_true rfl)) dX8_allCosts_3 ⟨Nat.le_of_ble_eq_true rfl, Nat.le_of_ble_eq_true rfl⟩) hS hA hP hD [0, 1, 5, 6] [2, 3, 4] rfl rfl (by decide) (by decide) (fun u H locs hw_1 hP hD hS => ?_)
  obtain ⟨fdoorsOf__1, rfl⟩ : ∃ z, z = u := ⟨_, rfl⟩
  replace hP : va_P D classes [((a 4), .inl (k 1, 27, .inl (sg se tm gs))), ((a 3), .inl (k 1, 72, .inl fprices)), ((a 36), .inl (k 1, 4, .inl fwalks)), ((a 0), .inr (8, [.ref (a 1), .ref (a 2), .ref (a 3), .ref (a 4), .ref (a 5), .int (nI tx), .int fp, .int (nI t0), .long wd, .int (nI we), .int nu, .int na, .int (nI rd), .ref (a 14), .ref (a 15), .ref (a 16), .int ts, .ref (a 18), .ref (a 19), .ref (a 20), .ref (a 21), .ref (a 22), .ref (a 23), .int (nI ru), .ref (a 25), .ref (a 26), .ref (a 27), .ref (a 28), .ref (a 29), .ref (a 30), .int (nI rw), .ref (a 32), .ref (a 33), .ref (a 34), .int (nI ca), .ref (a 36), .ref (a 37), .int df, .int db, .ref (a 40), .ref (a 41), .int sd, .ref (a 43), .ref (a 44)])), ((a 1), .inl (k 1, 3, .inl (nF dn))), ((a 37), .inl (k 1, 4, .inl (nF br))), ((a 40), .inl (k 1, 4, .inl fdoorsOf__1))] H := hP
  replace hD : va_D A [((a 4), .inl (k 1, 27, .inl (sg se tm gs))), ((a 3), .inl (k 1, 72, .inl fprices)), ((a 36), .inl (k 1, 4, .inl fwalks)), ((a 0), .inr (8, [.ref (a 1), .ref (a 2), .ref (a 3), .ref (a 4), .ref (a 5), .int (nI tx), .int fp, .int (nI t0), .long wd, .int (nI we), .int nu, .int na, .int (nI rd), .ref (a 14), .ref (a 15), .ref (a 16), .int ts, .ref (a 18), .ref (a 19), .ref (a 20), .ref (a 21), .ref (a 22), .ref (a 23), .int (nI ru), .ref (a 25), .ref (a 26), .ref (a 27), .ref (a 28), .ref (a 29), .ref (a 30), .int (nI rw), .ref (a 32), .ref (a 33), .ref (a 34), .int (nI ca), .ref (a 36), .ref (a 37), .int df, .int db, .ref (a 40), .ref (a 41), .int sd, .ref (a 43), .ref (a 44)])), ((a 1), .inl (k 1, 3, .inl (nF dn))), ((a 37), .inl (k 1, 4, .inl (nF br))), ((a 40), .inl (k 1, 4, .inl fdoorsOf__1))] := hD
  try dsimp only at hw_1
  refine lv_iconst (v := 0) hx hb dX8_allCosts_6 (by decide) ?_
  refine lv_istore_n (lv' := [(3, .int 0), (0, .ref (a 0)), (1, .int (nI sn)), (2, .int p1)]) hx hb dX8_allCosts_7 rfl hl (by decide) rfl (fun ls hl => ?_)
  refine lv_iconst (v := 0) hx hb dX8_allCosts_8 (by decide) ?_
  refine lv_istore (lv' := [(4, .int 0), (3, .int 0), (0, .ref (a 0)), (1, .int (nI sn)), (2, .int p1)]) hx hb dX8_allCosts_9 hl (by decide) rfl (fun ls hl => ?_)
  refine W_loop (σ := Nat × Int32) (fun (n_ : Nat) (x_ : Nat × Int32) (H : Heap) (locs : List Loc) (ls : Array Slot) => match x_ with | (cc_2, su_2) => n_ = 4 - cc_2 ∧ (cc_2 ≤ 4) ∧ va_P D classes [((a 4), .inl (k 1, 27, .inl (sg se tm gs))), ((a 3), .inl (k 1, 72, .inl fprices)), ((a 36), .inl (k 1, 4, .inl fwalks)), ((a 0), .inr (8, [.ref (a 1), .ref (a 2), .ref (a 3), .ref (a 4), .ref (a 5), .int (nI tx), .int fp, .int (nI t0), .long wd, .int (nI we), .int nu, .int na, .int (nI rd), .ref (a 14), .ref (a 15), .ref (a 16), .int ts, .ref (a 18), .ref (a 19), .ref (a 20), .ref (a 21), .ref (a 22), .ref (a 23), .int (nI ru), .ref (a 25), .ref (a 26), .ref (a 27), .ref (a 28), .ref (a 29), .ref (a 30), .int (nI rw), .ref (a 32), .ref (a 33), .ref (a 34), .int (nI ca), .ref (a 36), .ref (a 37), .int df, .int db, .ref (a 40), .ref (a 41), .int sd, .ref (a 43), .ref (a 44)])), ((a 1), .inl (k 1, 3, .inl (nF dn))), ((a 37), .inl (k 1, 4, .inl (nF br))), ((a 40), .inl (k 1, 4, .inl fdoorsOf__1))] H ∧ va_D A [((a 4), .inl (k 1, 27, .inl (sg se tm gs))), ((a 3), .inl (k 1, 72, .inl fprices)), ((a 36), .inl (k 1, 4, .inl fwalks)), ((a 0), .inr (8, [.ref (a 1), .ref (a 2), .ref (a 3), .ref (a 4), .ref (a 5), .int (nI tx), .int fp, .int (nI t0), .long wd, .int (nI we), .int nu, .int na, .int (nI rd), .ref (a 14), .ref (a 15), .ref (a 16), .int ts, .ref (a 18), .ref (a 19), .ref (a 20), .ref (a 21), .ref (a 22), .ref (a 23), .int (nI ru), .ref (a 25), .ref (a 26), .ref (a 27), .ref (a 28), .ref (a 29), .ref (a 30), .int (nI rw), .ref (a 32), .ref (a 33), .ref (a 34), .int (nI ca), .ref (a 36), .ref (a 37), .int df, .int db, .ref (a 40), .ref (a 41), .int sd, .ref (a 43), .ref (a 44)])), ((a 1), .inl (k 1, 3, .inl (nF dn))), ((a 37), .inl (k 1, 4, .inl (nF br))), ((a 40), .inl (k 1, 4, .inl fdoorsOf__1))] ∧ va_S A s.heap H locs ∧ lv_has ls 5 [(4, .int (nI cc_2)), (3, .int su_2), (0, .ref (a 0)), (1, .int (nI sn)), (2, .int p1)]) (fun n_2 x_2 H locs ls hI ih_2 => ?_) _ (0, 0) ⟨rfl, (by omega), hP, hD, hS, (lv_sub hl [0, 1, 2, 3, 4] rfl)⟩
  obtain ⟨cc_2, su_2⟩ := x_2
  obtain ⟨hm_2, hv_2, hP, hD, hS, hl⟩ := hI
  subst hm_2
  refine lv_iload hx hb dX8_allCosts_11 (lv_at hl 0 rfl) ?_
  refine lv_aload_n hx hb dX8_allCosts_13 rfl (lv_at hl 2 rfl) ?_
  refine va_get (D := D) (ci := 8) (v := .int (nI ca)) (C := RX8) (T := TX8) (N := 44) hx hb hts inX8 hown hK hP 3 rfl rfl 34 (by decide) (hts _ tw_1007) (fun _ h9 => h9) rfl dX8_allCosts_14 ?_
  refine lv_icmp_ge (tgt := 43) hx hb dX8_allCosts_17 (by decide) (fun c_3 => ?_) (fun c_3 => ?_)
  · have c_3 := (nI_leI (a := ca) (b := cc_2) (by omega) (by omega)).mp c_3
    refine lv_iload_n hx hb dX8_allCosts_43 rfl (lv_at hl 1 rfl) ?_
    have hP9 := hP.sub (ws' := [((a 0), .inr (8, [.ref (a 1), .ref (a 2), .ref (a 3), .ref (a 4), .ref (a 5), .int (nI tx), .int fp, .int (nI t0), .long wd, .int (nI we), .int nu, .int na, .int (nI rd), .ref (a 14), .ref (a 15), .ref (a 16), .int ts, .ref (a 18), .ref (a 19), .ref (a 20), .ref (a 21), .ref (a 22), .ref (a 23), .int (nI ru), .ref (a 25), .ref (a 26), .ref (a 27), .ref (a 28), .ref (a 29), .ref (a 30), .int (nI rw), .ref (a 32), .ref (a 33), .ref (a 34), .int (nI ca), .ref (a 36), .ref (a 37), .int df, .int db, .ref (a 40), .ref (a 41), .int sd, .ref (a 43), .ref (a 44)])), ((a 1), .inl (k 1, 3, .inl (nF dn))), ((a 4), .inl (k 1, 27, .inl (sg se tm gs))), ((a 3), .inl (k 1, 72, .inl fprices)), ((a 36), .inl (k 1, 4, .inl fwalks)), ((a 37), .inl (k 1, 4, .inl (nF br))), ((a 40), .inl (k 1, 4, .inl fdoorsOf__1))]) [3, 4, 0, 1, 2, 5, 6] rfl
    have hD9 := hD.sub (ws' := [((a 0), .inr (8, [.ref (a 1), .ref (a 2), .ref (a 3), .ref (a 4), .ref (a 5), .int (nI tx), .int fp, .int (nI t0), .long wd, .int (nI we), .int nu, .int na, .int (nI rd), .ref (a 14), .ref (a 15), .ref (a 16), .int ts, .ref (a 18), .ref (a 19), .ref (a 20), .ref (a 21), .ref (a 22), .ref (a 23), .int (nI ru), .ref (a 25), .ref (a 26), .ref (a 27), .ref (a 28), .ref (a 29), .ref (a 30), .int (nI rw), .ref (a 32), .ref (a 33), .ref (a 34), .int (nI ca), .ref (a 36), .ref (a 37), .int df, .int db, .ref (a 40), .ref (a 41), .int sd, .ref (a 43), .ref (a 44)])), ((a 1), .inl (k 1, 3, .inl (nF dn))), ((a 4), .inl (k 1, 27, .inl (sg se tm gs))), ((a 3), .inl (k 1, 72, .inl fprices)), ((a 36), .inl (k 1, 4, .inl fwalks)), ((a 37), .inl (k 1, 4, .inl (nF br))), ((a 40), .inl (k 1, 4, .inl fdoorsOf__1))]) [3, 4, 0, 1, 2, 5, 6] (by decide) rfl
    exact W.iret (v := su_2) hx hb hr (fun t ht hW => ⟨⟨su_2, fdoorsOf__1, rfl, hw_1, by rw [ht]; exact hP9, hD9⟩, hS.F ht⟩) hS.2.2 dX8_allCosts_44
  · have c_3 : ¬ (ca ≤ cc_2) := fun h => c_3 ((nI_leI (a := ca) (b := cc_2) (by omega) (by omega)).mpr h)
    refine lv_iload_n hx hb dX8_allCosts_20 rfl (lv_at hl 1 rfl) ?_
    refine lv_aload_n hx hb dX8_allCosts_21 rfl (lv_at hl 2 rfl) ?_
    refine lv_iload_n hx hb dX8_allCosts_22 rfl (lv_at hl 3 rfl) ?_
    refine lv_iload hx hb dX8_allCosts_23 (lv_at hl 0 rfl) ?_
    refine lv_aload_n hx hb dX8_allCosts_25 rfl (lv_at hl 2 rfl) ?_
    refine va_get (D := D) (ci := 8) (v := .ref (a 40)) (C := RX8) (T := TX8) (N := 44) hx hb hts inX8 hown hK hP 3 rfl rfl 39 (by decide) (hts _ tw_1012) (fun _ h9 => h9) rfl dX8_allCosts_26 ?_
    refine lv_iload hx hb dX8_allCosts_29 (lv_at hl 0 rfl) ?_
    refine va_iald hx hb hK hP 6 1 rfl rfl (vp_in_nI (by omega) (by decide)) dX8_allCosts_31 ?_
    refine lv_ti (y := (fdoorsOf__1 cc_2)) (by rw [nI_clamp (by omega)]) ?_
    refine ro_i (D := D) (va_runV (As := [.int (nI sn), .int (nI cc_2), .int (fdoorsOf__1 cc_2)]) (rest := [.int su_2]) ⟨hx, hb, hml, hown, hts⟩ ((m_costAt l D k st lo a tx t0 we rd ru rw ca fp wd nu na ts df db sd dn se tm gs fprices fwalks sn cc_2 (fdoorsOf__1 cc_2) (by omega) (by omega) (hw_1 _)) H.size) (cwV 3 hts (gV tw_1402 tw_1404 tw_67 tw_87 tw_1405) rfl rfl rfl (by decide +kernel) ⟨Nat.le_of_ble_eq_true rfl, Nat.le_of_ble_eq_true rfl⟩) (pV hS hAlo hlo hP hK (va_Dlo hD hAlo) hZ [3, 4, 0, 1, 2] (by decide) rfl (ci := 8) (q0 := 0) rfl rfl) rfl rfl hl.1 rfl (lv_room (Nat.le_of_ble_eq_true rfl)) dX8_allCosts_32 ⟨Nat.le_of_ble_eq_true rfl, Nat.le_of_ble_eq_true rfl⟩) hS hA hP (fun r_4 H locs hw_4 hP hS => ?_)
    try dsimp only at hw_4
    refine lv_iadd hx hb dX8_allCosts_35 ?_
    refine lv_topi (fun x_5 ex_5 => ?_)
    refine lv_istore_n (lv' := [(3, .int x_5), (4, .int (nI cc_2)), (0, .ref (a 0)), (1, .int (nI sn)), (2, .int p1)]) hx hb dX8_allCosts_36 rfl hl (by decide) rfl (fun ls hl => ?_)
    refine lv_iinc (v := (nI (cc_2 + 1))) (lv' := [(4, .int (nI (cc_2 + 1))), (3, .int x_5), (0, .ref (a 0)), (1, .int (nI sn)), (2, .int p1)]) hx hb dX8_allCosts_37 hl (k := 1) rfl (nI_add cc_2 1) (by decide) rfl (fun ls hl => ?_)
    refine lv_goto (tgt := 11) hx hb dX8_allCosts_40 (by decide) ?_
    exact ih_2 _ (cc_2 + 1, x_5) _ _ _ (by omega) ⟨rfl, (by omega), hP, hD, hS, (lv_sub hl [0, 1, 2, 3, 4] rfl)⟩


theorem dX8_isAtRest_0 : decode cX8_isAtRest 0 = .ok (.iconst 1, 1) := by decide +kernel
theorem dX8_isAtRest_1 : decode cX8_isAtRest 1 = .ok (.istore_n 3, 1) := by decide +kernel
theorem dX8_isAtRest_2 : decode cX8_isAtRest 2 = .ok (.iconst 0, 1) := by decide +kernel
theorem dX8_isAtRest_3 : decode cX8_isAtRest 3 = .ok (.istore 4, 2) := by decide +kernel
theorem dX8_isAtRest_5 : decode cX8_isAtRest 5 = .ok (.iload 4, 2) := by decide +kernel
theorem dX8_isAtRest_7 : decode cX8_isAtRest 7 = .ok (.aload_n 0, 1) := by decide +kernel
theorem dX8_isAtRest_8 : decode cX8_isAtRest 8 = .ok (.getfield 315, 3) := by decide +kernel
theorem dX8_isAtRest_11 : decode cX8_isAtRest 11 = .ok (.if_icmp .ge 37, 3) := by decide +kernel
theorem dX8_isAtRest_14 : decode cX8_isAtRest 14 = .ok (.iload_n 3, 1) := by decide +kernel
theorem dX8_isAtRest_15 : decode cX8_isAtRest 15 = .ok (.ifCond .eq 33, 3) := by decide +kernel
theorem dX8_isAtRest_18 : decode cX8_isAtRest 18 = .ok (.aload_n 0, 1) := by decide +kernel
theorem dX8_isAtRest_19 : decode cX8_isAtRest 19 = .ok (.iload_n 1, 1) := by decide +kernel
theorem dX8_isAtRest_20 : decode cX8_isAtRest 20 = .ok (.iload_n 2, 1) := by decide +kernel
theorem dX8_isAtRest_21 : decode cX8_isAtRest 21 = .ok (.iload 4, 2) := by decide +kernel
theorem dX8_isAtRest_23 : decode cX8_isAtRest 23 = .ok (.invokevirtual 339, 3) := by decide +kernel
theorem dX8_isAtRest_26 : decode cX8_isAtRest 26 = .ok (.aload_n 0, 1) := by decide +kernel
theorem dX8_isAtRest_27 : decode cX8_isAtRest 27 = .ok (.getfield 87, 3) := by decide +kernel
theorem dX8_isAtRest_30 : decode cX8_isAtRest 30 = .ok (.iload 4, 2) := by decide +kernel
theorem dX8_isAtRest_32 : decode cX8_isAtRest 32 = .ok (.iaload, 1) := by decide +kernel
theorem dX8_isAtRest_33 : decode cX8_isAtRest 33 = .ok (.if_icmp .ne 7, 3) := by decide +kernel
theorem dX8_isAtRest_36 : decode cX8_isAtRest 36 = .ok (.iconst 1, 1) := by decide +kernel
theorem dX8_isAtRest_37 : decode cX8_isAtRest 37 = .ok (.goto 4, 3) := by decide +kernel
theorem dX8_isAtRest_40 : decode cX8_isAtRest 40 = .ok (.iconst 0, 1) := by decide +kernel
theorem dX8_isAtRest_41 : decode cX8_isAtRest 41 = .ok (.istore_n 3, 1) := by decide +kernel
theorem dX8_isAtRest_42 : decode cX8_isAtRest 42 = .ok (.iinc 4 1, 3) := by decide +kernel
theorem dX8_isAtRest_45 : decode cX8_isAtRest 45 = .ok (.goto (-40), 3) := by decide +kernel
theorem dX8_isAtRest_48 : decode cX8_isAtRest 48 = .ok (.iload_n 3, 1) := by decide +kernel
theorem dX8_isAtRest_49 : decode cX8_isAtRest 49 = .ok (.ireturn, 1) := by decide +kernel
set_option maxHeartbeats 4000000 in
set_option maxRecDepth 100000 in
theorem m_isAtRest (l : Launch) (D : va_G) (k : Nat → ClassId) (st : Nat → Nat) (lo : Nat) (a : Nat → Nat) (tx : Nat) (t0 : Nat) (we : Nat) (rd : Nat) (ru : Nat) (rw : Nat) (ca : Nat) (fp : Int32) (wd : Int64) (nu : Int32) (na : Int32) (ts : Int32) (df : Int32) (db : Int32) (sd : Int32) (dn : Nat → Nat) (se : Nat → Nat) (tm : Nat → Nat) (gs : Nat → Int32) (fprices : Nat → Int32) (fwalks : Nat → Int32) (br : Nat → Nat) (fdoorsOf : Nat → Int32) (sn : Nat) (p1 : Int32) (hdn : ∀ j, dn j ≤ 24) (hca : ca ≤ 4) (hbr : ∀ j, br j ≤ 24) (hs : sn < 3) (hdv : dvOK fdoorsOf) : CWi l D k st lo yX8_isAtRest cX8_isAtRest 5 (some .boolean) ({ frames := 6, cells := 0, slots := 0, locals := 145 }) 0 0 [.ref (a 0), .int (nI sn), .int p1] [((a 0), .inr (8, [.ref (a 1), .ref (a 2), .ref (a 3), .ref (a 4), .ref (a 5), .int (nI tx), .int fp, .int (nI t0), .long wd, .int (nI we), .int nu, .int na, .int (nI rd), .ref (a 14), .ref (a 15), .ref (a 16), .int ts, .ref (a 18), .ref (a 19), .ref (a 20), .ref (a 21), .ref (a 22), .ref (a 23), .int (nI ru), .ref (a 25), .ref (a 26), .ref (a 27), .ref (a 28), .ref (a 29), .ref (a 30), .int (nI rw), .ref (a 32), .ref (a 33), .ref (a 34), .int (nI ca), .ref (a 36), .ref (a 37), .int df, .int db, .ref (a 40), .ref (a 41), .int sd, .ref (a 43), .ref (a 44)])), ((a 1), .inl (k 1, 3, .inl (nF dn))), ((a 4), .inl (k 1, 27, .inl (sg se tm gs))), ((a 3), .inl (k 1, 72, .inl fprices)), ((a 36), .inl (k 1, 4, .inl fwalks)), ((a 37), .inl (k 1, 4, .inl (nF br))), ((a 40), .inl (k 1, 4, .inl fdoorsOf))] (fun (r : Int32) (u : (Nat → Nat) × (Nat → Int32)) => match u with | (br_, fdoorsOf_) => (∀ j, br_ j ≤ 24) ∧ dvOK fdoorsOf_) (fun (u : (Nat → Nat) × (Nat → Int32)) => match u with | (br_, fdoorsOf_) => [((a 0), .inr (8, [.ref (a 1), .ref (a 2), .ref (a 3), .ref (a 4), .ref (a 5), .int (nI tx), .int fp, .int (nI t0), .long wd, .int (nI we), .int nu, .int na, .int (nI rd), .ref (a 14), .ref (a 15), .ref (a 16), .int ts, .ref (a 18), .ref (a 19), .ref (a 20), .ref (a 21), .ref (a 22), .ref (a 23), .int (nI ru), .ref (a 25), .ref (a 26), .ref (a 27), .ref (a 28), .ref (a 29), .ref (a 30), .int (nI rw), .ref (a 32), .ref (a 33), .ref (a 34), .int (nI ca), .ref (a 36), .ref (a 37), .int df, .int db, .ref (a 40), .ref (a 41), .int sd, .ref (a 43), .ref (a 44)])), ((a 1), .inl (k 1, 3, .inl (nF dn))), ((a 4), .inl (k 1, 27, .inl (sg se tm gs))), ((a 3), .inl (k 1, 72, .inl fprices)), ((a 36), .inl (k 1, 4, .inl fwalks)), ((a 37), .inl (k 1, 4, .inl (nF br_))), ((a 40), .inl (k 1, 4, .inl fdoorsOf_))]) := by
  intro sz
  refine Met.ofW (cc := cX8_isAtRest) (maxL := 5) (ret := (some .boolean)) (by decide) rfl ?_
  intro p e s m args below meth c s₁ B hml hv
  obtain ⟨rfl, hsz, hlo, hP, hK, hDL, hZ⟩ := hv
  have hx := B.exec
  have hb := B.bytes
  have hr := B.returns
  have hts := WS_ts B.pre
  have hown : s.vm.findClass RX8 = some m.cls := findClass_of_methodNamed B.named
  have hlocks := B.notSynchronized
  subst hsz
  have hD := hDL.self (sz := s.heap.size)
  have hAlo := A_lo hDL hlo
  generalize hAe : va_A [((a 0), .inr (8, [.ref (a 1), .ref (a 2), .ref (a 3), .ref (a 4), .ref (a 5), .int (nI tx), .int fp, .int (nI t0), .long wd, .int (nI we), .int nu, .int na, .int (nI rd), .ref (a 14), .ref (a 15), .ref (a 16), .int ts, .ref (a 18), .ref (a 19), .ref (a 20), .ref (a 21), .ref (a 22), .ref (a 23), .int (nI ru), .ref (a 25), .ref (a 26), .ref (a 27), .ref (a 28), .ref (a 29), .ref (a 30), .int (nI rw), .ref (a 32), .ref (a 33), .ref (a 34), .int (nI ca), .ref (a 36), .ref (a 37), .int df, .int db, .ref (a 40), .ref (a 41), .int sd, .ref (a 43), .ref (a 44)])), ((a 1), .inl (k 1, 3, .inl (nF dn))), ((a 4), .inl (k 1, 27, .inl (sg se tm gs))), ((a 3), .inl (k 1, 72, .inl fprices)), ((a 36), .inl (k 1, 4, .inl fwalks)), ((a 37), .inl (k 1, 4, .inl (nF br))), ((a 40), .inl (k 1, 4, .inl fdoorsOf))] s.heap.size = A at hD hAlo ⊢
  have hA : ∀ q : Nat, s.heap.size ≤ q → A q := fun q h => by rw [← hAe]; exact Or.inr h
  have hS : va_S A s.heap s.heap [] := va_S.rf
  have hl := lv_entry ([.ref (a 0), .int (nI sn), .int p1]) (n := 5) (Nat.le_of_ble_eq_true rfl)
  rw [lg_entry_eq]
  generalize (lg_sl ([.ref (a 0), .int (nI sn), .int p1]) ++ List.replicate (5 - (lg_sl ([.ref (a 0), .int (nI sn), .int p1])).length) Slot.unset).toArray = ls at hl ⊢
  have hl : lv_has ls 5 [(0, .ref (a 0)), (1, .int (nI sn)), (2, .int p1)] := hl
  refine lv_iconst (v := 1) hx hb dX8_isAtRest_0 (by decide) ?_
  refine lv_istore_n (lv' := [(3, .int 1), (0, .ref (a 0)), (1, .int (nI sn)), (2, .int p1)]) hx hb dX8_isAtRest_1 rfl hl (by decide) rfl (fun ls hl => ?_)
  refine lv_iconst (v := 0) hx hb dX8_isAtRest_2 (by decide) ?_
  refine lv_istore (lv' := [(4, .int 0), (3, .int 1), (0, .ref (a 0)), (1, .int (nI sn)), (2, .int p1)]) hx hb dX8_isAtRest_3 hl (by decide) rfl (fun ls hl => ?_)
  refine W_loop (σ := Nat × Int32 × (Nat → Nat) × (Nat → Int32)) (fun (n_ : Nat) (x_ : Nat × Int32 × (Nat → Nat) × (Nat → Int32)) (H : Heap) (locs : List Loc) (ls : Array Slot) => match x_ with | (cc_1, is_1, b2_1, fd_1) => n_ = 4 - cc_1 ∧ ((cc_1 ≤ 4 ∧ (is_1 = 1 ∨ is_1 = 0)) ∧ (∀ j, b2_1 j ≤ 24) ∧ dvOK fd_1) ∧ va_P D classes [((a 0), .inr (8, [.ref (a 1), .ref (a 2), .ref (a 3), .ref (a 4), .ref (a 5), .int (nI tx), .int fp, .int (nI t0), .long wd, .int (nI we), .int nu, .int na, .int (nI rd), .ref (a 14), .ref (a 15), .ref (a 16), .int ts, .ref (a 18), .ref (a 19), .ref (a 20), .ref (a 21), .ref (a 22), .ref (a 23), .int (nI ru), .ref (a 25), .ref (a 26), .ref (a 27), .ref (a 28), .ref (a 29), .ref (a 30), .int (nI rw), .ref (a 32), .ref (a 33), .ref (a 34), .int (nI ca), .ref (a 36), .ref (a 37), .int df, .int db, .ref (a 40), .ref (a 41), .int sd, .ref (a 43), .ref (a 44)])), ((a 1), .inl (k 1, 3, .inl (nF dn))), ((a 4), .inl (k 1, 27, .inl (sg se tm gs))), ((a 3), .inl (k 1, 72, .inl fprices)), ((a 36), .inl (k 1, 4, .inl fwalks)), ((a 37), .inl (k 1, 4, .inl (nF b2_1))), ((a 40), .inl (k 1, 4, .inl fd_1))] H ∧ va_D A [((a 0), .inr (8, [.ref (a 1), .ref (a 2), .ref (a 3), .ref (a 4), .ref (a 5), .int (nI tx), .int fp, .int (nI t0), .long wd, .int (nI we), .int nu, .int na, .int (nI rd), .ref (a 14), .ref (a 15), .ref (a 16), .int ts, .ref (a 18), .ref (a 19), .ref (a 20), .ref (a 21), .ref (a 22), .ref (a 23), .int (nI ru), .ref (a 25), .ref (a 26), .ref (a 27), .ref (a 28), .ref (a 29), .ref (a 30), .int (nI rw), .ref (a 32), .ref (a 33), .ref (a 34), .int (nI ca), .ref (a 36), .ref (a 37), .int df, .int db, .ref (a 40), .ref (a 41), .int sd, .ref (a 43), .ref (a 44)])), ((a 1), .inl (k 1, 3, .inl (nF dn))), ((a 4), .inl (k 1, 27, .inl (sg se tm gs))), ((a 3), .inl (k 1, 72, .inl fprices)), ((a 36), .inl (k 1, 4, .inl fwalks)), ((a 37), .inl (k 1, 4, .inl (nF b2_1))), ((a 40), .inl (k 1, 4, .inl fd_1))] ∧ va_S A s.heap H locs ∧ lv_has ls 5 [(4, .int (nI cc_1)), (3, .int is_1), (0, .ref (a 0)), (1, .int (nI sn)), (2, .int p1)]) (fun n_1 x_1 H locs ls hI ih_1 => ?_) _ (0, 1, br, fdoorsOf) ⟨rfl, ⟨⟨by omega, .inl rfl⟩, hbr, hdv⟩, hP, hD, hS, (lv_sub hl [0, 1, 2, 3, 4] rfl)⟩
  obtain ⟨cc_1, is_1, b2_1, fd_1⟩ := x_1
  obtain ⟨hm_1, hv_1, hP, hD, hS, hl⟩ := hI
  subst hm_1
  have hbl_1 := hv_1.2.1
  have hdvl_1 := hv_1.2.2
  refine lv_iload hx hb dX8_isAtRest_5 (lv_at hl 0 rfl) ?_
  refine lv_aload_n hx hb dX8_isAtRest_7 rfl (lv_at hl 2 rfl) ?_
  refine va_get (D := D) (ci := 8) (v := .int (nI ca)) (C := RX8) (T := TX8) (N := 44) hx hb hts inX8 hown hK hP 0 rfl rfl 34 (by decide) (hts _ tw_1007) (fun _ h9 => h9) rfl dX8_isAtRest_8 ?_
  refine lv_icmp_ge (tgt := 48) hx hb dX8_isAtRest_11 (by decide) (fun c_2 => ?_) (fun c_2 => ?_)
  · have c_2 := (nI_leI (a := ca) (b := cc_1) (by omega) (by omega)).mp c_2
    refine lv_iload_n hx hb dX8_isAtRest_48 rfl (lv_at hl 1 rfl) ?_
    rcases hv_1.1.2 with hE_9 | hE_9
    · refine lv_ti (y := 1) hE_9 ?_
      have hP9 := hP.sub (ws' := [((a 0), .inr (8, [.ref (a 1), .ref (a 2), .ref (a 3), .ref (a 4), .ref (a 5), .int (nI tx), .int fp, .int (nI t0), .long wd, .int (nI we), .int nu, .int na, .int (nI rd), .ref (a 14), .ref (a 15), .ref (a 16), .int ts, .ref (a 18), .ref (a 19), .ref (a 20), .ref (a 21), .ref (a 22), .ref (a 23), .int (nI ru), .ref (a 25), .ref (a 26), .ref (a 27), .ref (a 28), .ref (a 29), .ref (a 30), .int (nI rw), .ref (a 32), .ref (a 33), .ref (a 34), .int (nI ca), .ref (a 36), .ref (a 37), .int df, .int db, .ref (a 40), .ref (a 41), .int sd, .ref (a 43), .ref (a 44)])), ((a 1), .inl (k 1, 3, .inl (nF dn))), ((a 4), .inl (k 1, 27, .inl (sg se tm gs))), ((a 3), .inl (k 1, 72, .inl fprices)), ((a 36), .inl (k 1, 4, .inl fwalks)), ((a 37), .inl (k 1, 4, .inl (nF b2_1))), ((a 40), .inl (k 1, 4, .inl fd_1))]) [0, 1, 2, 3, 4, 5, 6] rfl
      have hD9 := hD.sub (ws' := [((a 0), .inr (8, [.ref (a 1), .ref (a 2), .ref (a 3), .ref (a 4), .ref (a 5), .int (nI tx), .int fp, .int (nI t0), .long wd, .int (nI we), .int nu, .int na, .int (nI rd), .ref (a 14), .ref (a 15), .ref (a 16), .int ts, .ref (a 18), .ref (a 19), .ref (a 20), .ref (a 21), .ref (a 22), .ref (a 23), .int (nI ru), .ref (a 25), .ref (a 26), .ref (a 27), .ref (a 28), .ref (a 29), .ref (a 30), .int (nI rw), .ref (a 32), .ref (a 33), .ref (a 34), .int (nI ca), .ref (a 36), .ref (a 37), .int df, .int db, .ref (a 40), .ref (a 41), .int sd, .ref (a 43), .ref (a 44)])), ((a 1), .inl (k 1, 3, .inl (nF dn))), ((a 4), .inl (k 1, 27, .inl (sg se tm gs))), ((a 3), .inl (k 1, 72, .inl fprices)), ((a 36), .inl (k 1, 4, .inl fwalks)), ((a 37), .inl (k 1, 4, .inl (nF b2_1))), ((a 40), .inl (k 1, 4, .inl fd_1))]) [0, 1, 2, 3, 4, 5, 6] (by decide) rfl
      exact W.zret (v := 1) (ty := .boolean) hx hb hr rfl (fun t ht hW => ⟨⟨1, (b2_1, fd_1), rfl, ⟨hbl_1, hdvl_1⟩, by rw [ht]; exact hP9, hD9⟩, hS.F ht⟩) hS.2.2 dX8_isAtRest_49
    · refine lv_ti (y := 0) hE_9 ?_
      have hP9 := hP.sub (ws' := [((a 0), .inr (8, [.ref (a 1), .ref (a 2), .ref (a 3), .ref (a 4), .ref (a 5), .int (nI tx), .int fp, .int (nI t0), .long wd, .int (nI we), .int nu, .int na, .int (nI rd), .ref (a 14), .ref (a 15), .ref (a 16), .int ts, .ref (a 18), .ref (a 19), .ref (a 20), .ref (a 21), .ref (a 22), .ref (a 23), .int (nI ru), .ref (a 25), .ref (a 26), .ref (a 27), .ref (a 28), .ref (a 29), .ref (a 30), .int (nI rw), .ref (a 32), .ref (a 33), .ref (a 34), .int (nI ca), .ref (a 36), .ref (a 37), .int df, .int db, .ref (a 40), .ref (a 41), .int sd, .ref (a 43), .ref (a 44)])), ((a 1), .inl (k 1, 3, .inl (nF dn))), ((a 4), .inl (k 1, 27, .inl (sg se tm gs))), ((a 3), .inl (k 1, 72, .inl fprices)), ((a 36), .inl (k 1, 4, .inl fwalks)), ((a 37), .inl (k 1, 4, .inl (nF b2_1))), ((a 40), .inl (k 1, 4, .inl fd_1))]) [0, 1, 2, 3, 4, 5, 6] rfl
      have hD9 := hD.sub (ws' := [((a 0), .inr (8, [.ref (a 1), .ref (a 2), .ref (a 3), .ref (a 4), .ref (a 5), .int (nI tx), .int fp, .int (nI t0), .long wd, .int (nI we), .int nu, .int na, .int (nI rd), .ref (a 14), .ref (a 15), .ref (a 16), .int ts, .ref (a 18), .ref (a 19), .ref (a 20), .ref (a 21), .ref (a 22), .ref (a 23), .int (nI ru), .ref (a 25), .ref (a 26), .ref (a 27), .ref (a 28), .ref (a 29), .ref (a 30), .int (nI rw), .ref (a 32), .ref (a 33), .ref (a 34), .int (nI ca), .ref (a 36), .ref (a 37), .int df, .int db, .ref (a 40), .ref (a 41), .int sd, .ref (a 43), .ref (a 44)])), ((a 1), .inl (k 1, 3, .inl (nF dn))), ((a 4), .inl (k 1, 27, .inl (sg se tm gs))), ((a 3), .inl (k 1, 72, .inl fprices)), ((a 36), .inl (k 1, 4, .inl fwalks)), ((a 37), .inl (k 1, 4, .inl (nF b2_1))), ((a 40), .inl (k 1, 4, .inl fd_1))]) [0, 1, 2, 3, 4, 5, 6] (by decide) rfl
      exact W.zret (v := 0) (ty := .boolean) hx hb hr rfl (fun t ht hW => ⟨⟨0, (b2_1, fd_1), rfl, ⟨hbl_1, hdvl_1⟩, by rw [ht]; exact hP9, hD9⟩, hS.F ht⟩) hS.2.2 dX8_isAtRest_49
  · have c_2 : ¬ (ca ≤ cc_1) := fun h => c_2 ((nI_leI (a := ca) (b := cc_1) (by omega) (by omega)).mpr h)
    refine lv_iload_n hx hb dX8_isAtRest_14 rfl (lv_at hl 1 rfl) ?_
    refine lv_if_eq (tgt := 48) hx hb dX8_isAtRest_15 (by decide) (fun c_3 => ?_) (fun c_3 => ?_)
    · refine lv_iload_n hx hb dX8_isAtRest_48 rfl (lv_at hl 1 rfl) ?_
      rcases hv_1.1.2 with hE_9 | hE_9
      · refine lv_ti (y := 1) hE_9 ?_
        have hP9 := hP.sub (ws' := [((a 0), .inr (8, [.ref (a 1), .ref (a 2), .ref (a 3), .ref (a 4), .ref (a 5), .int (nI tx), .int fp, .int (nI t0), .long wd, .int (nI we), .int nu, .int na, .int (nI rd), .ref (a 14), .ref (a 15), .ref (a 16), .int ts, .ref (a 18), .ref (a 19), .ref (a 20), .ref (a 21), .ref (a 22), .ref (a 23), .int (nI ru), .ref (a 25), .ref (a 26), .ref (a 27), .ref (a 28), .ref (a 29), .ref (a 30), .int (nI rw), .ref (a 32), .ref (a 33), .ref (a 34), .int (nI ca), .ref (a 36), .ref (a 37), .int df, .int db, .ref (a 40), .ref (a 41), .int sd, .ref (a 43), .ref (a 44)])), ((a 1), .inl (k 1, 3, .inl (nF dn))), ((a 4), .inl (k 1, 27, .inl (sg se tm gs))), ((a 3), .inl (k 1, 72, .inl fprices)), ((a 36), .inl (k 1, 4, .inl fwalks)), ((a 37), .inl (k 1, 4, .inl (nF b2_1))), ((a 40), .inl (k 1, 4, .inl fd_1))]) [0, 1, 2, 3, 4, 5, 6] rfl
        have hD9 := hD.sub (ws' := [((a 0), .inr (8, [.ref (a 1), .ref (a 2), .ref (a 3), .ref (a 4), .ref (a 5), .int (nI tx), .int fp, .int (nI t0), .long wd, .int (nI we), .int nu, .int na, .int (nI rd), .ref (a 14), .ref (a 15), .ref (a 16), .int ts, .ref (a 18), .ref (a 19), .ref (a 20), .ref (a 21), .ref (a 22), .ref (a 23), .int (nI ru), .ref (a 25), .ref (a 26), .ref (a 27), .ref (a 28), .ref (a 29), .ref (a 30), .int (nI rw), .ref (a 32), .ref (a 33), .ref (a 34), .int (nI ca), .ref (a 36), .ref (a 37), .int df, .int db, .ref (a 40), .ref (a 41), .int sd, .ref (a 43), .ref (a 44)])), ((a 1), .inl (k 1, 3, .inl (nF dn))), ((a 4), .inl (k 1, 27, .inl (sg se tm gs))), ((a 3), .inl (k 1, 72, .inl fprices)), ((a 36), .inl (k 1, 4, .inl fwalks)), ((a 37), .inl (k 1, 4, .inl (nF b2_1))), ((a 40), .inl (k 1, 4, .inl fd_1))]) [0, 1, 2, 3, 4, 5, 6] (by decide) rfl
        exact W.zret (v := 1) (ty := .boolean) hx hb hr rfl (fun t ht hW => ⟨⟨1, (b2_1, fd_1), rfl, ⟨hbl_1, hdvl_1⟩, by rw [ht]; exact hP9, hD9⟩, hS.F ht⟩) hS.2.2 dX8_isAtRest_49
      · refine lv_ti (y := 0) hE_9 ?_
        have hP9 := hP.sub (ws' := [((a 0), .inr (8, [.ref (a 1), .ref (a 2), .ref (a 3), .ref (a 4), .ref (a 5), .int (nI tx), .int fp, .int (nI t0), .long wd, .int (nI we), .int nu, .int na, .int (nI rd), .ref (a 14), .ref (a 15), .ref (a 16), .int ts, .ref (a 18), .ref (a 19), .ref (a 20), .ref (a 21), .ref (a 22), .ref (a 23), .int (nI ru), .ref (a 25), .ref (a 26), .ref (a 27), .ref (a 28), .ref (a 29), .ref (a 30), .int (nI rw), .ref (a 32), .ref (a 33), .ref (a 34), .int (nI ca), .ref (a 36), .ref (a 37), .int df, .int db, .ref (a 40), .ref (a 41), .int sd, .ref (a 43), .ref (a 44)])), ((a 1), .inl (k 1, 3, .inl (nF dn))), ((a 4), .inl (k 1, 27, .inl (sg se tm gs))), ((a 3), .inl (k 1, 72, .inl fprices)), ((a 36), .inl (k 1, 4, .inl fwalks)), ((a 37), .inl (k 1, 4, .inl (nF b2_1))), ((a 40), .inl (k 1, 4, .inl fd_1))]) [0, 1, 2, 3, 4, 5, 6] rfl
        have hD9 := hD.sub (ws' := [((a 0), .inr (8, [.ref (a 1), .ref (a 2), .ref (a 3), .ref (a 4), .ref (a 5), .int (nI tx), .int fp, .int (nI t0), .long wd, .int (nI we), .int nu, .int na, .int (nI rd), .ref (a 14), .ref (a 15), .ref (a 16), .int ts, .ref (a 18), .ref (a 19), .ref (a 20), .ref (a 21), .ref (a 22), .ref (a 23), .int (nI ru), .ref (a 25), .ref (a 26), .ref (a 27), .ref (a 28), .ref (a 29), .ref (a 30), .int (nI rw), .ref (a 32), .ref (a 33), .ref (a 34), .int (nI ca), .ref (a 36), .ref (a 37), .int df, .int db, .ref (a 40), .ref (a 41), .int sd, .ref (a 43), .ref (a 44)])), ((a 1), .inl (k 1, 3, .inl (nF dn))), ((a 4), .inl (k 1, 27, .inl (sg se tm gs))), ((a 3), .inl (k 1, 72, .inl fprices)), ((a 36), .inl (k 1, 4, .inl fwalks)), ((a 37), .inl (k 1, 4, .inl (nF b2_1))), ((a 40), .inl (k 1, 4, .inl fd_1))]) [0, 1, 2, 3, 4, 5, 6] (by decide) rfl
        exact W.zret (v := 0) (ty := .boolean) hx hb hr rfl (fun t ht hW => ⟨⟨0, (b2_1, fd_1), rfl, ⟨hbl_1, hdvl_1⟩, by rw [ht]; exact hP9, hD9⟩, hS.F ht⟩) hS.2.2 dX8_isAtRest_49
    · refine lv_aload_n hx hb dX8_isAtRest_18 rfl (lv_at hl 2 rfl) ?_
      refine lv_iload_n hx hb dX8_isAtRest_19 rfl (lv_at hl 3 rfl) ?_
      refine lv_iload_n hx hb dX8_isAtRest_20 rfl (lv_at hl 4 rfl) ?_
      refine lv_iload hx hb dX8_isAtRest_21 (lv_at hl 0 rfl) ?_
      refine rw_i (D := D) (wr := []) (va_runV (As := [.int (nI sn), .int p1, .int (nI cc_1)]) (rest := []) ⟨hx, hb, hml, hown, hts⟩ ((m_bestBar l D k st lo a tx t0 we rd ru rw ca fp wd nu na ts df db sd dn se tm gs fprices fwalks b2_1 fd_1 sn cc_1 p1 hdn (by omega) hbl_1 (by omega) (by omega) hdvl_1) H.size) (cwV 3 hts (gV tw_1414 tw_1416 tw_69 tw_87 tw_1417) rfl rfl rfl (by decide +kernel) ⟨Nat.le_of_ble_eq_true rfl, Nat.le_of_ble_eq_true rfl⟩) (pV hS hAlo hlo hP hK (va_Dlo hD hAlo) hZ [0, 1, 2, 3, 4, 5, 6] (by decide) rfl (ci := 8) (q0 := 0) rfl rfl) rfl rfl hl.1 rfl (lv_room (Nat.le_of_ble_eq_true rfl)) dX8_isAtRest_23 ⟨Nat.le_of_ble_eq_true rfl, Nat.le_of_ble_eq_true rfl⟩) hS hA hP hD [0, 1, 2, 3, 4, 5, 6] [] rfl rfl (by decide) (by decide) (fun r_4 u H locs hw_4 hP hD hS => ?_)
      obtain ⟨br__4, fdoorsOf__4, er_4⟩ := u
      replace hP : va_P D classes [((a 0), .inr (8, [.ref (a 1), .ref (a 2), .ref (a 3), .ref (a 4), .ref (a 5), .int (nI tx), .int fp, .int (nI t0), .long wd, .int (nI we), .int nu, .int na, .int (nI rd), .ref (a 14), .ref (a 15), .ref (a 16), .int ts, .ref (a 18), .ref (a 19), .ref (a 20), .ref (a 21), .ref (a 22), .ref (a 23), .int (nI ru), .ref (a 25), .ref (a 26), .ref (a 27), .ref (a 28), .ref (a 29), .ref (a 30), .int (nI rw), .ref (a 32), .ref (a 33), .ref (a 34), .int (nI ca), .ref (a 36), .ref (a 37), .int df, .int db, .ref (a 40), .ref (a 41), .int sd, .ref (a 43), .ref (a 44)])), ((a 1), .inl (k 1, 3, .inl (nF dn))), ((a 4), .inl (k 1, 27, .inl (sg se tm gs))), ((a 3), .inl (k 1, 72, .inl fprices)), ((a 36), .inl (k 1, 4, .inl fwalks)), ((a 37), .inl (k 1, 4, .inl (nF br__4))), ((a 40), .inl (k 1, 4, .inl fdoorsOf__4))] H := hP
      replace hD : va_D A [((a 0), .inr (8, [.ref (a 1), .ref (a 2), .ref (a 3), .ref (a 4), .ref (a 5), .int (nI tx), .int fp, .int (nI t0), .long wd, .int (nI we), .int nu, .int na, .int (nI rd), .ref (a 14), .ref (a 15), .ref (a 16), .int ts, .ref (a 18), .ref (a 19), .ref (a 20), .ref (a 21), .ref (a 22), .ref (a 23), .int (nI ru), .ref (a 25), .ref (a 26), .ref (a 27), .ref (a 28), .ref (a 29), .ref (a 30), .int (nI rw), .ref (a 32), .ref (a 33), .ref (a 34), .int (nI ca), .ref (a 36), .ref (a 37), .int df, .int db, .ref (a 40), .ref (a 41), .int sd, .ref (a 43), .ref (a 44)])), ((a 1), .inl (k 1, 3, .inl (nF dn))), ((a 4), .inl (k 1, 27, .inl (sg se tm gs))), ((a 3), .inl (k 1, 72, .inl fprices)), ((a 36), .inl (k 1, 4, .inl fwalks)), ((a 37), .inl (k 1, 4, .inl (nF br__4))), ((a 40), .inl (k 1, 4, .inl fdoorsOf__4))] := hD
      try dsimp only at hw_4
      obtain ⟨rfl, hw_4⟩ := hw_4
      refine lv_aload_n hx hb dX8_isAtRest_26 rfl (lv_at hl 2 rfl) ?_
      refine va_get (D := D) (ci := 8) (v := .ref (a 37)) (C := RX8) (T := TX8) (N := 44) hx hb hts inX8 hown hK hP 0 rfl rfl 36 (by decide) (hts _ tw_1009) (fun _ h9 => h9) rfl dX8_isAtRest_27 ?_
      refine lv_iload hx hb dX8_isAtRest_30 (lv_at hl 0 rfl) ?_
      refine va_iald hx hb hK hP 5 1 rfl rfl (vp_in_nI (by omega) (by decide)) dX8_isAtRest_32 ?_
      have hq_5 := hw_4.2.1 cc_1
      refine lv_ti (y := (nI (br__4 cc_1))) (by rw [nI_clamp (by omega)]; rfl) ?_
      refine lv_icmp_ne (tgt := 40) hx hb dX8_isAtRest_33 (by decide) (fun c_6 => ?_) (fun c_6 => ?_)
      · have c_6 : ¬ (er_4 = (br__4 cc_1)) := fun h => c_6 ((nI_eq (a := er_4) (b := (br__4 cc_1)) (by omega) (by omega)).mpr h)
        refine lv_iconst (v := 0) hx hb dX8_isAtRest_40 (by decide) ?_
        refine lv_istore_n (lv' := [(3, .int 0), (4, .int (nI cc_1)), (0, .ref (a 0)), (1, .int (nI sn)), (2, .int p1)]) hx hb dX8_isAtRest_41 rfl hl (by decide) rfl (fun ls hl => ?_)
        refine lv_iinc (v := (nI (cc_1 + 1))) (lv' := [(4, .int (nI (cc_1 + 1))), (3, .int 0), (0, .ref (a 0)), (1, .int (nI sn)), (2, .int p1)]) hx hb dX8_isAtRest_42 hl (k := 1) rfl (nI_add cc_1 1) (by decide) rfl (fun ls hl => ?_)
        refine lv_goto (tgt := 5) hx hb dX8_isAtRest_45 (by decide) ?_
        exact ih_1 _ (cc_1 + 1, 0, br__4, fdoorsOf__4) _ _ _ (by omega) ⟨rfl, ⟨⟨by omega, .inr rfl⟩, hw_4.2.1, hw_4.2.2⟩, hP, hD, hS, (lv_sub hl [0, 1, 2, 3, 4] rfl)⟩
      · have c_6 := (nI_eq (a := er_4) (b := (br__4 cc_1)) (by omega) (by omega)).mp c_6
        refine lv_iconst (v := 1) hx hb dX8_isAtRest_36 (by decide) ?_
        refine lv_goto (tgt := 41) hx hb dX8_isAtRest_37 (by decide) ?_
        refine lv_istore_n (lv' := [(3, .int 1), (4, .int (nI cc_1)), (0, .ref (a 0)), (1, .int (nI sn)), (2, .int p1)]) hx hb dX8_isAtRest_41 rfl hl (by decide) rfl (fun ls hl => ?_)
        refine lv_iinc (v := (nI (cc_1 + 1))) (lv' := [(4, .int (nI (cc_1 + 1))), (3, .int 1), (0, .ref (a 0)), (1, .int (nI sn)), (2, .int p1)]) hx hb dX8_isAtRest_42 hl (k := 1) rfl (nI_add cc_1 1) (by decide) rfl (fun ls hl => ?_)
        refine lv_goto (tgt := 5) hx hb dX8_isAtRest_45 (by decide) ?_
        exact ih_1 _ (cc_1 + 1, 1, br__4, fdoorsOf__4) _ _ _ (by omega) ⟨rfl, ⟨⟨by omega, .inl rfl⟩, hw_4.2.1, hw_4.2.2⟩, hP, hD, hS, (lv_sub hl [0, 1, 2, 3, 4] rfl)⟩


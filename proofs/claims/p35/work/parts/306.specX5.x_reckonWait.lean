theorem dX2_reckonWait_0 : decode cX2_reckonWait 0 = .ok (.aload_n 0, 1) := by decide +kernel
theorem dX2_reckonWait_1 : decode cX2_reckonWait 1 = .ok (.iconst 0, 1) := by decide +kernel
theorem dX2_reckonWait_2 : decode cX2_reckonWait 2 = .ok (.putfield 21, 3) := by decide +kernel
theorem dX2_reckonWait_5 : decode cX2_reckonWait 5 = .ok (.aload_n 0, 1) := by decide +kernel
theorem dX2_reckonWait_6 : decode cX2_reckonWait 6 = .ok (.iload_n 1, 1) := by decide +kernel
theorem dX2_reckonWait_7 : decode cX2_reckonWait 7 = .ok (.putfield 25, 3) := by decide +kernel
theorem dX2_reckonWait_10 : decode cX2_reckonWait 10 = .ok (.iload_n 1, 1) := by decide +kernel
theorem dX2_reckonWait_11 : decode cX2_reckonWait 11 = .ok (.istore 5, 2) := by decide +kernel
theorem dX2_reckonWait_13 : decode cX2_reckonWait 13 = .ok (.iconst 1, 1) := by decide +kernel
theorem dX2_reckonWait_14 : decode cX2_reckonWait 14 = .ok (.istore 6, 2) := by decide +kernel
theorem dX2_reckonWait_16 : decode cX2_reckonWait 16 = .ok (.iload 6, 2) := by decide +kernel
theorem dX2_reckonWait_18 : decode cX2_reckonWait 18 = .ok (.bipush 20, 2) := by decide +kernel
theorem dX2_reckonWait_20 : decode cX2_reckonWait 20 = .ok (.if_icmp .gt 46, 3) := by decide +kernel
theorem dX2_reckonWait_23 : decode cX2_reckonWait 23 = .ok (.sipush 1000, 3) := by decide +kernel
theorem dX2_reckonWait_26 : decode cX2_reckonWait 26 = .ok (.iload 4, 2) := by decide +kernel
theorem dX2_reckonWait_28 : decode cX2_reckonWait 28 = .ok (.imul, 1) := by decide +kernel
theorem dX2_reckonWait_29 : decode cX2_reckonWait 29 = .ok (.iload_n 3, 1) := by decide +kernel
theorem dX2_reckonWait_30 : decode cX2_reckonWait 30 = .ok (.iload_n 2, 1) := by decide +kernel
theorem dX2_reckonWait_31 : decode cX2_reckonWait 31 = .ok (.iload 5, 2) := by decide +kernel
theorem dX2_reckonWait_33 : decode cX2_reckonWait 33 = .ok (.invokestatic 78, 3) := by decide +kernel
theorem dX2_reckonWait_36 : decode cX2_reckonWait 36 = .ok (.iadd, 1) := by decide +kernel
theorem dX2_reckonWait_37 : decode cX2_reckonWait 37 = .ok (.istore 5, 2) := by decide +kernel
theorem dX2_reckonWait_39 : decode cX2_reckonWait 39 = .ok (.iload 5, 2) := by decide +kernel
theorem dX2_reckonWait_41 : decode cX2_reckonWait 41 = .ok (.aload_n 0, 1) := by decide +kernel
theorem dX2_reckonWait_42 : decode cX2_reckonWait 42 = .ok (.getfield 25, 3) := by decide +kernel
theorem dX2_reckonWait_45 : decode cX2_reckonWait 45 = .ok (.if_icmp .ge 15, 3) := by decide +kernel
theorem dX2_reckonWait_48 : decode cX2_reckonWait 48 = .ok (.aload_n 0, 1) := by decide +kernel
theorem dX2_reckonWait_49 : decode cX2_reckonWait 49 = .ok (.iload 5, 2) := by decide +kernel
theorem dX2_reckonWait_51 : decode cX2_reckonWait 51 = .ok (.putfield 25, 3) := by decide +kernel
theorem dX2_reckonWait_54 : decode cX2_reckonWait 54 = .ok (.aload_n 0, 1) := by decide +kernel
theorem dX2_reckonWait_55 : decode cX2_reckonWait 55 = .ok (.iload 6, 2) := by decide +kernel
theorem dX2_reckonWait_57 : decode cX2_reckonWait 57 = .ok (.putfield 21, 3) := by decide +kernel
theorem dX2_reckonWait_60 : decode cX2_reckonWait 60 = .ok (.iinc 6 1, 3) := by decide +kernel
theorem dX2_reckonWait_63 : decode cX2_reckonWait 63 = .ok (.goto (-47), 3) := by decide +kernel
theorem dX2_reckonWait_66 : decode cX2_reckonWait 66 = .ok (.return_, 1) := by decide +kernel
set_option maxHeartbeats 4000000 in
set_option maxRecDepth 100000 in
theorem x_reckonWait (l : Launch) (D : va_G) (k : Nat → ClassId) (st : Nat → Nat) (lo : Nat) (y0 : Nat) (y1 : Nat) (y2 : Nat) (y3 : Nat) (wt : Int32) (wc : Int32) (p0 : Int32) (p1 : Int32) (p2 : Int32) (p3 : Int32)  : CWv l D k st lo yX2_reckonWait cX2_reckonWait 7 none ({ frames := 1, cells := 0, slots := 0, locals := 22 }) 0 0 [.ref y0, .int p0, .int p1, .int p2, .int p3] [(y0, .inr (2, [.ref y1, .ref y2, .ref y3, .int wt, .int wc]))] (fun (u : Int32 × Int32) => match u with | (wt_, wc_) => True) (fun (u : Int32 × Int32) => match u with | (wt_, wc_) => [(y0, .inr (2, [.ref y1, .ref y2, .ref y3, .int wt_, .int wc_]))]) := by
  intro sz
  refine Met.ofW (cc := cX2_reckonWait) (maxL := 7) (ret := none) (by decide) rfl ?_
  intro p e s m args below meth c s₁ B hml hv
  obtain ⟨rfl, hsz, hlo, hP, hK, hDL, hZ⟩ := hv
  have hx := B.exec
  have hb := B.bytes
  have hr := B.returns
  have hts := WS_ts B.pre
  have hown : s.vm.findClass RX2 = some m.cls := findClass_of_methodNamed B.named
  have hlocks := B.notSynchronized
  subst hsz
  have hD := hDL.self (sz := s.heap.size)
  have hAlo := A_lo hDL hlo
  generalize hAe : va_A [(y0, .inr (2, [.ref y1, .ref y2, .ref y3, .int wt, .int wc]))] s.heap.size = A at hD hAlo ⊢
  have hA : ∀ q : Nat, s.heap.size ≤ q → A q := fun q h => by rw [← hAe]; exact Or.inr h
  have hS : va_S A s.heap s.heap [] := va_S.rf
  have hl := lv_entry ([.ref y0, .int p0, .int p1, .int p2, .int p3]) (n := 7) (Nat.le_of_ble_eq_true rfl)
  rw [lg_entry_eq]
  generalize (lg_sl ([.ref y0, .int p0, .int p1, .int p2, .int p3]) ++ List.replicate (7 - (lg_sl ([.ref y0, .int p0, .int p1, .int p2, .int p3])).length) Slot.unset).toArray = ls at hl ⊢
  have hl : lv_has ls 7 [(0, .ref y0), (1, .int p0), (2, .int p1), (3, .int p2), (4, .int p3)] := hl
  refine lv_aload_n hx hb dX2_reckonWait_0 rfl (lv_at hl 0 rfl) ?_
  refine lv_iconst (v := 0) hx hb dX2_reckonWait_1 (by decide) ?_
  refine va_put (D := D) (ci := 2) (v := .int 0) (ty := .int) (C := RX2) (T := TX2) (N := 5) hx hb hts inX2 tyX2 tyX2_ok nmX2 hown hK hP hD hS 0 rfl rfl 3 (by decide) (hts _ tw_213) (fun _ h9 => h9) rfl (by decide +kernel) rfl rfl (Nat.le_of_ble_eq_true rfl) dX2_reckonWait_2 (fun H locs hP hD hS => ?_)
  replace hP : va_P D classes [(y0, .inr (2, [.ref y1, .ref y2, .ref y3, .int 0, .int wc]))] H := hP
  replace hD : va_D A [(y0, .inr (2, [.ref y1, .ref y2, .ref y3, .int 0, .int wc]))] := hD
  refine lv_aload_n hx hb dX2_reckonWait_5 rfl (lv_at hl 0 rfl) ?_
  refine lv_iload_n hx hb dX2_reckonWait_6 rfl (lv_at hl 1 rfl) ?_
  refine va_put (D := D) (ci := 2) (v := .int p0) (ty := .int) (C := RX2) (T := TX2) (N := 5) hx hb hts inX2 tyX2 tyX2_ok nmX2 hown hK hP hD hS 0 rfl rfl 4 (by decide) (hts _ tw_215) (fun _ h9 => h9) rfl (by decide +kernel) rfl rfl (Nat.le_of_ble_eq_true rfl) dX2_reckonWait_7 (fun H locs hP hD hS => ?_)
  replace hP : va_P D classes [(y0, .inr (2, [.ref y1, .ref y2, .ref y3, .int 0, .int p0]))] H := hP
  replace hD : va_D A [(y0, .inr (2, [.ref y1, .ref y2, .ref y3, .int 0, .int p0]))] := hD
  refine lv_iload_n hx hb dX2_reckonWait_10 rfl (lv_at hl 1 rfl) ?_
  refine lv_istore (lv' := [(5, .int p0), (0, .ref y0), (1, .int p0), (2, .int p1), (3, .int p2), (4, .int p3)]) hx hb dX2_reckonWait_11 hl (by decide) rfl (fun ls hl => ?_)
  refine lv_iconst (v := 1) hx hb dX2_reckonWait_13 (by decide) ?_
  refine lv_istore (lv' := [(6, .int 1), (5, .int p0), (0, .ref y0), (1, .int p0), (2, .int p1), (3, .int p2), (4, .int p3)]) hx hb dX2_reckonWait_14 hl (by decide) rfl (fun ls hl => ?_)
  refine W_loop (σ := Nat × Int32 × Int32 × Int32) (fun (n_ : Nat) (x_ : Nat × Int32 × Int32 × Int32) (H : Heap) (locs : List Loc) (ls : Array Slot) => match x_ with | (mm_1, co_1, wt2_1, wc2_1) => n_ = 22 - mm_1 ∧ (mm_1 ≤ 21) ∧ va_P D classes [(y0, .inr (2, [.ref y1, .ref y2, .ref y3, .int wt2_1, .int wc2_1]))] H ∧ va_D A [(y0, .inr (2, [.ref y1, .ref y2, .ref y3, .int wt2_1, .int wc2_1]))] ∧ va_S A s.heap H locs ∧ lv_has ls 7 [(6, .int (nI mm_1)), (5, .int co_1), (0, .ref y0), (1, .int p0), (2, .int p1), (3, .int p2), (4, .int p3)]) (fun n_1 x_1 H locs ls hI ih_1 => ?_) _ (1, p0, 0, p0) ⟨rfl, (by omega), hP, hD, hS, (lv_sub hl [0, 1, 2, 3, 4, 5, 6] rfl)⟩
  obtain ⟨mm_1, co_1, wt2_1, wc2_1⟩ := x_1
  obtain ⟨hm_1, hv_1, hP, hD, hS, hl⟩ := hI
  subst hm_1
  refine lv_iload hx hb dX2_reckonWait_16 (lv_at hl 0 rfl) ?_
  refine lv_bipush (v := 20) hx hb dX2_reckonWait_18 (by decide) ?_
  refine lv_icmp_gt (tgt := 66) hx hb dX2_reckonWait_20 (by decide) (fun c_2 => ?_) (fun c_2 => ?_)
  · have c_2 := (nI_ltI (a := 20) (b := mm_1) (by omega) (by omega)).mp c_2
    have hP9 := hP.sub (ws' := [(y0, .inr (2, [.ref y1, .ref y2, .ref y3, .int wt2_1, .int wc2_1]))]) [0] rfl
    have hD9 := hD.sub (ws' := [(y0, .inr (2, [.ref y1, .ref y2, .ref y3, .int wt2_1, .int wc2_1]))]) [0] (by decide) rfl
    exact W.vret hx hb hr (fun t ht hW => ⟨⟨(wt2_1, wc2_1), rfl, trivial, by rw [ht]; exact hP9, hD9⟩, hS.F ht⟩) hS.2.2 dX2_reckonWait_66
  · have c_2 : ¬ (20 < mm_1) := fun h => c_2 ((nI_ltI (a := 20) (b := mm_1) (by omega) (by omega)).mpr h)
    refine lv_sipush (v := 1000) hx hb dX2_reckonWait_23 (by decide) ?_
    refine lv_iload hx hb dX2_reckonWait_26 (lv_at hl 6 rfl) ?_
    refine lv_imul hx hb dX2_reckonWait_28 ?_
    refine lv_topi (fun x_3 ex_3 => ?_)
    refine lv_iload_n hx hb dX2_reckonWait_29 rfl (lv_at hl 5 rfl) ?_
    refine lv_iload_n hx hb dX2_reckonWait_30 rfl (lv_at hl 4 rfl) ?_
    refine lv_iload hx hb dX2_reckonWait_31 (lv_at hl 1 rfl) ?_
    refine ro_i (D := D) (va_runSN (As := [.int p2, .int p1, .int co_1]) (rest := [.int x_3]) ⟨hx, hb, hml, hown, hts⟩ ((x_mixed l D k st lo p2 p1 co_1) H.size) ⟨va_cnB 3 hts (gLW tw_570) rfl rfl rfl (hZ.2.2.2.2.2.2.2.2.1.1 (RX2, 78, yX7_mixed, RX7) (List.mem_of_getElem? (i := 6) rfl)) (hts _ tw_79) (by decide +kernel) ⟨Nat.le_of_ble_eq_true rfl, Nat.le_of_ble_eq_true rfl⟩, hts _ tw_569, trivial⟩ (pS hS hAlo hlo hP hK (va_Dlo hD hAlo) hZ [] (by decide) rfl) rfl rfl hl.1 rfl (lv_room (Nat.le_of_ble_eq_true rfl)) dX2_reckonWait_33 ⟨Nat.le_of_ble_eq_true rfl, Nat.le_of_ble_eq_true rfl⟩) hS hA hP (fun r_4 H locs hw_4 hP hS => ?_)
    try dsimp only at hw_4
    refine lv_iadd hx hb dX2_reckonWait_36 ?_
    refine lv_topi (fun x_5 ex_5 => ?_)
    refine lv_istore (lv' := [(5, .int x_5), (6, .int (nI mm_1)), (0, .ref y0), (1, .int p0), (2, .int p1), (3, .int p2), (4, .int p3)]) hx hb dX2_reckonWait_37 hl (by decide) rfl (fun ls hl => ?_)
    refine lv_iload hx hb dX2_reckonWait_39 (lv_at hl 0 rfl) ?_
    refine lv_aload_n hx hb dX2_reckonWait_41 rfl (lv_at hl 2 rfl) ?_
    refine va_get (D := D) (ci := 2) (v := .int wc2_1) (C := RX2) (T := TX2) (N := 5) hx hb hts inX2 hown hK hP 0 rfl rfl 4 (by decide) (hts _ tw_215) (fun _ h9 => h9) rfl dX2_reckonWait_42 ?_
    refine lv_icmp_ge (tgt := 60) hx hb dX2_reckonWait_45 (by decide) (fun c_6 => ?_) (fun c_6 => ?_)
    · refine lv_iinc (v := (nI (mm_1 + 1))) (lv' := [(6, .int (nI (mm_1 + 1))), (5, .int x_5), (0, .ref y0), (1, .int p0), (2, .int p1), (3, .int p2), (4, .int p3)]) hx hb dX2_reckonWait_60 hl (k := 1) rfl (nI_add mm_1 1) (by decide) rfl (fun ls hl => ?_)
      refine lv_goto (tgt := 16) hx hb dX2_reckonWait_63 (by decide) ?_
      exact ih_1 _ (mm_1 + 1, x_5, wt2_1, wc2_1) _ _ _ (by omega) ⟨rfl, (by omega), hP, hD, hS, (lv_sub hl [0, 1, 2, 3, 4, 5, 6] rfl)⟩
    · refine lv_aload_n hx hb dX2_reckonWait_48 rfl (lv_at hl 2 rfl) ?_
      refine lv_iload hx hb dX2_reckonWait_49 (lv_at hl 0 rfl) ?_
      refine va_put (D := D) (ci := 2) (v := .int x_5) (ty := .int) (C := RX2) (T := TX2) (N := 5) hx hb hts inX2 tyX2 tyX2_ok nmX2 hown hK hP hD hS 0 rfl rfl 4 (by decide) (hts _ tw_215) (fun _ h9 => h9) rfl (by decide +kernel) rfl rfl (Nat.le_of_ble_eq_true rfl) dX2_reckonWait_51 (fun H locs hP hD hS => ?_)
      replace hP : va_P D classes [(y0, .inr (2, [.ref y1, .ref y2, .ref y3, .int wt2_1, .int x_5]))] H := hP
      replace hD : va_D A [(y0, .inr (2, [.ref y1, .ref y2, .ref y3, .int wt2_1, .int x_5]))] := hD
      refine lv_aload_n hx hb dX2_reckonWait_54 rfl (lv_at hl 2 rfl) ?_
      refine lv_iload hx hb dX2_reckonWait_55 (lv_at hl 1 rfl) ?_
      refine va_put (D := D) (ci := 2) (v := .int (nI mm_1)) (ty := .int) (C := RX2) (T := TX2) (N := 5) hx hb hts inX2 tyX2 tyX2_ok nmX2 hown hK hP hD hS 0 rfl rfl 3 (by decide) (hts _ tw_213) (fun _ h9 => h9) rfl (by decide +kernel) rfl rfl (Nat.le_of_ble_eq_true rfl) dX2_reckonWait_57 (fun H locs hP hD hS => ?_)
      replace hP : va_P D classes [(y0, .inr (2, [.ref y1, .ref y2, .ref y3, .int (nI mm_1), .int x_5]))] H := hP
      replace hD : va_D A [(y0, .inr (2, [.ref y1, .ref y2, .ref y3, .int (nI mm_1), .int x_5]))] := hD
      refine lv_iinc (v := (nI (mm_1 + 1))) (lv' := [(6, .int (nI (mm_1 + 1))), (5, .int x_5), (0, .ref y0), (1, .int p0), (2, .int p1), (3, .int p2), (4, .int p3)]) hx hb dX2_reckonWait_60 hl (k := 1) rfl (nI_add mm_1 1) (by decide) rfl (fun ls hl => ?_)
      refine lv_goto (tgt := 16) hx hb dX2_reckonWait_63 (by decide) ?_
      exact ih_1 _ (mm_1 + 1, x_5, (nI mm_1), x_5) _ _ _ (by omega) ⟨rfl, (by omega), hP, hD, hS, (lv_sub hl [0, 1, 2, 3, 4, 5, 6] rfl)⟩


theorem f_x_append_rows : True := trivial
theorem dX6_append_0 : decode cX6_append 0 = .ok (.aload_n 0, 1) := by decide +kernel
theorem dX6_append_1 : decode cX6_append 1 = .ok (.getfield 15, 3) := by decide +kernel
theorem dX6_append_4 : decode cX6_append 4 = .ok (.sipush 240, 3) := by decide +kernel
theorem dX6_append_7 : decode cX6_append 7 = .ok (.if_icmp .ge 23, 3) := by decide +kernel
theorem dX6_append_10 : decode cX6_append 10 = .ok (.aload_n 0, 1) := by decide +kernel
theorem dX6_append_11 : decode cX6_append 11 = .ok (.getfield 9, 3) := by decide +kernel
theorem dX6_append_14 : decode cX6_append 14 = .ok (.aload_n 0, 1) := by decide +kernel
theorem dX6_append_15 : decode cX6_append 15 = .ok (.getfield 15, 3) := by decide +kernel
theorem dX6_append_18 : decode cX6_append 18 = .ok (.iload_n 1, 1) := by decide +kernel
theorem dX6_append_19 : decode cX6_append 19 = .ok (.bastore, 1) := by decide +kernel
theorem dX6_append_20 : decode cX6_append 20 = .ok (.aload_n 0, 1) := by decide +kernel
theorem dX6_append_21 : decode cX6_append 21 = .ok (.dup, 1) := by decide +kernel
theorem dX6_append_22 : decode cX6_append 22 = .ok (.getfield 15, 3) := by decide +kernel
theorem dX6_append_25 : decode cX6_append 25 = .ok (.iconst 1, 1) := by decide +kernel
theorem dX6_append_26 : decode cX6_append 26 = .ok (.iadd, 1) := by decide +kernel
theorem dX6_append_27 : decode cX6_append 27 = .ok (.putfield 15, 3) := by decide +kernel
theorem dX6_append_30 : decode cX6_append 30 = .ok (.return_, 1) := by decide +kernel
theorem dX6_rewind_0 : decode cX6_rewind 0 = .ok (.aload_n 0, 1) := by decide +kernel
theorem dX6_rewind_1 : decode cX6_rewind 1 = .ok (.iconst 0, 1) := by decide +kernel
theorem dX6_rewind_2 : decode cX6_rewind 2 = .ok (.putfield 19, 3) := by decide +kernel
theorem dX6_rewind_5 : decode cX6_rewind 5 = .ok (.aload_n 0, 1) := by decide +kernel
theorem dX6_rewind_6 : decode cX6_rewind 6 = .ok (.iconst 0, 1) := by decide +kernel
theorem dX6_rewind_7 : decode cX6_rewind 7 = .ok (.putfield 22, 3) := by decide +kernel
theorem dX6_rewind_10 : decode cX6_rewind 10 = .ok (.aload_n 0, 1) := by decide +kernel
theorem dX6_rewind_11 : decode cX6_rewind 11 = .ok (.iconst 0, 1) := by decide +kernel
theorem dX6_rewind_12 : decode cX6_rewind 12 = .ok (.putfield 25, 3) := by decide +kernel
theorem dX6_rewind_15 : decode cX6_rewind 15 = .ok (.aload_n 0, 1) := by decide +kernel
theorem dX6_rewind_16 : decode cX6_rewind 16 = .ok (.iconst 0, 1) := by decide +kernel
theorem dX6_rewind_17 : decode cX6_rewind 17 = .ok (.putfield 28, 3) := by decide +kernel
theorem dX6_rewind_20 : decode cX6_rewind 20 = .ok (.return_, 1) := by decide +kernel
set_option maxHeartbeats 4000000 in
set_option maxRecDepth 100000 in
theorem x_rewind (l : Launch) (D : va_G) (k : Nat → ClassId) (st : Nat → Nat) (lo : Nat) (x0 : Nat) (x1 : Nat) (tz : Nat) (ta : Int32) (na : Int32) (fn : Int32) (fb : Int32) (fx : Nat → Int32)  : CWv l D k st lo yX6_rewind cX6_rewind 1 none ({ frames := 0, cells := 0, slots := 0, locals := 0 }) 0 0 [.ref x0] [(x0, .inr (6, (fX6 x1 (nI tz) ta na fn fb))), (aB k x1 240 fx)] (fun (u : Int32 × Int32 × Int32 × Int32) => match u with | (ta_, na_, fn_, fb_) => ta_ = 0 ∧ fn_ = 0) (fun (u : Int32 × Int32 × Int32 × Int32) => match u with | (ta_, na_, fn_, fb_) => [(x0, .inr (6, (fX6 x1 (nI tz) ta_ na_ fn_ fb_))), (aB k x1 240 fx)]) := by
  intro sz
  refine Met.ofW (cc := cX6_rewind) (maxL := 1) (ret := none) (by decide) rfl ?_
  intro p e s m args below meth c s₁ B hml hv
  obtain ⟨rfl, hsz, hlo, hP, hK, hDL, hZ⟩ := hv
  have hx := B.exec
  have hb := B.bytes
  have hr := B.returns
  have hts := WS_ts B.pre
  have hown : s.vm.findClass RX6 = some m.cls := findClass_of_methodNamed B.named
  have hlocks := B.notSynchronized
  subst hsz
  have hD := hDL.self (sz := s.heap.size)
  have hAlo := A_lo hDL hlo
  generalize hAe : va_A [(x0, .inr (6, (fX6 x1 (nI tz) ta na fn fb))), (aB k x1 240 fx)] s.heap.size = A at hD hAlo ⊢
  have hA : ∀ q : Nat, s.heap.size ≤ q → A q := fun q h => by rw [← hAe]; exact Or.inr h
  have hS : va_S A s.heap s.heap [] := va_S.rf
  have hl := lv_entry ([.ref x0]) (n := 1) (Nat.le_of_ble_eq_true rfl)
  rw [lg_entry_eq]
  generalize (lg_sl ([.ref x0]) ++ List.replicate (1 - (lg_sl ([.ref x0])).length) Slot.unset).toArray = ls at hl ⊢
  have hl : lv_has ls 1 [(0, .ref x0)] := hl
  refine lv_aload_n hx hb dX6_rewind_0 rfl (lv_at hl 0 rfl) ?_
  refine lv_iconst (v := 0) hx hb dX6_rewind_1 (by decide) ?_
  refine va_put (D := D) (ci := 6) (v := .int 0) (ty := .int) (C := RX6) (T := TX6) (N := 6) hx hb hts inX6 tyX6 tyX6_ok nmX6 hown hK hP hD hS 0 rfl rfl 2 (by decide) (hts _ tw_113) (fun _ h9 => h9) rfl (by decide +kernel) rfl rfl (Nat.le_of_ble_eq_true rfl) dX6_rewind_2 (fun H locs hP hD hS => ?_)
  replace hP : va_P D classes [(x0, .inr (6, (fX6 x1 (nI tz) 0 na fn fb))), (aB k x1 240 fx)] H := hP
  replace hD : va_D A [(x0, .inr (6, (fX6 x1 (nI tz) 0 na fn fb))), (aB k x1 240 fx)] := hD
  refine lv_aload_n hx hb dX6_rewind_5 rfl (lv_at hl 0 rfl) ?_
  refine lv_iconst (v := 0) hx hb dX6_rewind_6 (by decide) ?_
  refine va_put (D := D) (ci := 6) (v := .int 0) (ty := .int) (C := RX6) (T := TX6) (N := 6) hx hb hts inX6 tyX6 tyX6_ok nmX6 hown hK hP hD hS 0 rfl rfl 3 (by decide) (hts _ tw_116) (fun _ h9 => h9) rfl (by decide +kernel) rfl rfl (Nat.le_of_ble_eq_true rfl) dX6_rewind_7 (fun H locs hP hD hS => ?_)
  replace hP : va_P D classes [(x0, .inr (6, (fX6 x1 (nI tz) 0 0 fn fb))), (aB k x1 240 fx)] H := hP
  replace hD : va_D A [(x0, .inr (6, (fX6 x1 (nI tz) 0 0 fn fb))), (aB k x1 240 fx)] := hD
  refine lv_aload_n hx hb dX6_rewind_10 rfl (lv_at hl 0 rfl) ?_
  refine lv_iconst (v := 0) hx hb dX6_rewind_11 (by decide) ?_
  refine va_put (D := D) (ci := 6) (v := .int 0) (ty := .int) (C := RX6) (T := TX6) (N := 6) hx hb hts inX6 tyX6 tyX6_ok nmX6 hown hK hP hD hS 0 rfl rfl 4 (by decide) (hts _ tw_119) (fun _ h9 => h9) rfl (by decide +kernel) rfl rfl (Nat.le_of_ble_eq_true rfl) dX6_rewind_12 (fun H locs hP hD hS => ?_)
  replace hP : va_P D classes [(x0, .inr (6, (fX6 x1 (nI tz) 0 0 0 fb))), (aB k x1 240 fx)] H := hP
  replace hD : va_D A [(x0, .inr (6, (fX6 x1 (nI tz) 0 0 0 fb))), (aB k x1 240 fx)] := hD
  refine lv_aload_n hx hb dX6_rewind_15 rfl (lv_at hl 0 rfl) ?_
  refine lv_iconst (v := 0) hx hb dX6_rewind_16 (by decide) ?_
  refine va_put (D := D) (ci := 6) (v := .int 0) (ty := .int) (C := RX6) (T := TX6) (N := 6) hx hb hts inX6 tyX6 tyX6_ok nmX6 hown hK hP hD hS 0 rfl rfl 5 (by decide) (hts _ tw_121) (fun _ h9 => h9) rfl (by decide +kernel) rfl rfl (Nat.le_of_ble_eq_true rfl) dX6_rewind_17 (fun H locs hP hD hS => ?_)
  replace hP : va_P D classes [(x0, .inr (6, (fX6 x1 (nI tz) 0 0 0 0))), (aB k x1 240 fx)] H := hP
  replace hD : va_D A [(x0, .inr (6, (fX6 x1 (nI tz) 0 0 0 0))), (aB k x1 240 fx)] := hD
  have hP9 := hP.sub (ws' := [(x0, .inr (6, (fX6 x1 (nI tz) 0 0 0 0))), (aB k x1 240 fx)]) [0, 1] rfl
  have hD9 := hD.sub (ws' := [(x0, .inr (6, (fX6 x1 (nI tz) 0 0 0 0))), (aB k x1 240 fx)]) [0, 1] (by decide) rfl
  exact W.vret hx hb hr (fun t ht hW => ⟨⟨(0, 0, 0, 0), rfl, ⟨rfl, rfl⟩, by rw [ht]; exact hP9, hD9⟩, hS.F ht⟩) hS.2.2 dX6_rewind_20

theorem dX6_failed_0 : decode cX6_failed 0 = .ok (.aload_n 0, 1) := by decide +kernel
theorem dX6_failed_1 : decode cX6_failed 1 = .ok (.getfield 25, 3) := by decide +kernel
theorem dX6_failed_4 : decode cX6_failed 4 = .ok (.ifCond .eq 7, 3) := by decide +kernel
theorem dX6_failed_7 : decode cX6_failed 7 = .ok (.iconst 1, 1) := by decide +kernel
theorem dX6_failed_8 : decode cX6_failed 8 = .ok (.goto 4, 3) := by decide +kernel
theorem dX6_failed_11 : decode cX6_failed 11 = .ok (.iconst 0, 1) := by decide +kernel
theorem dX6_failed_12 : decode cX6_failed 12 = .ok (.ireturn, 1) := by decide +kernel
set_option maxHeartbeats 4000000 in
set_option maxRecDepth 100000 in
theorem x_failed (l : Launch) (D : va_G) (k : Nat → ClassId) (st : Nat → Nat) (lo : Nat) (x0 : Nat) (x1 : Nat) (tz : Nat) (ta : Nat) (na : Int32) (fn : Int32) (fb : Int32)  : CRi l D k st lo yX6_failed cX6_failed 1 (some .boolean) ({ frames := 0, cells := 0, slots := 0, locals := 0 }) [.ref x0] [(x0, .inr (6, (fX6 x1 (nI tz) (nI ta) na fn fb)))] (fun r => (r = 1 ∧ ¬ fn = 0) ∨ (r = 0 ∧ fn = 0)) := by
  intro sz
  refine Met.ofW (cc := cX6_failed) (maxL := 1) (ret := (some .boolean)) (by decide) rfl ?_
  intro p e s m args below meth c s₁ B hml hv
  obtain ⟨rfl, hsz, hlo, hP, hK, hDL, hZ⟩ := hv
  have hx := B.exec
  have hb := B.bytes
  have hr := B.returns
  have hts := WS_ts B.pre
  have hown : s.vm.findClass RX6 = some m.cls := findClass_of_methodNamed B.named
  have hlocks := B.notSynchronized
  subst hsz
  have hA : ∀ q : Nat, s.heap.size ≤ q → (fun q : Nat => s.heap.size ≤ q) q := fun _ h => h
  have hAlo : ∀ q : Nat, (fun q : Nat => s.heap.size ≤ q) q → lo ≤ q := fun q h => Nat.le_trans hlo h
  have hS : va_S (fun q : Nat => s.heap.size ≤ q) s.heap s.heap [] := va_S.rf
  have hl := lv_entry ([.ref x0]) (n := 1) (Nat.le_of_ble_eq_true rfl)
  rw [lg_entry_eq]
  generalize (lg_sl ([.ref x0]) ++ List.replicate (1 - (lg_sl ([.ref x0])).length) Slot.unset).toArray = ls at hl ⊢
  have hl : lv_has ls 1 [(0, .ref x0)] := hl
  refine lv_aload_n hx hb dX6_failed_0 rfl (lv_at hl 0 rfl) ?_
  refine va_get (D := D) (ci := 6) (v := .int fn) (C := RX6) (T := TX6) (N := 6) hx hb hts inX6 hown hK hP 0 rfl rfl 4 (by decide) (hts _ tw_119) (fun _ h9 => h9) rfl dX6_failed_1 ?_
  refine lv_if_eq (tgt := 11) hx hb dX6_failed_4 (by decide) (fun c_1 => ?_) (fun c_1 => ?_)
  · refine lv_iconst (v := 0) hx hb dX6_failed_11 (by decide) ?_
    exact W.zret (v := 0) (ty := .boolean) hx hb hr rfl (fun t ht hW => ⟨⟨0, (), rfl, .inr ⟨rfl, c_1⟩, trivial⟩, hS.F ht⟩) hS.2.2 dX6_failed_12
  · refine lv_iconst (v := 1) hx hb dX6_failed_7 (by decide) ?_
    refine lv_goto (tgt := 12) hx hb dX6_failed_8 (by decide) ?_
    exact W.zret (v := 1) (ty := .boolean) hx hb hr rfl (fun t ht hW => ⟨⟨1, (), rfl, .inl ⟨rfl, c_1⟩, trivial⟩, hS.F ht⟩) hS.2.2 dX6_failed_12


set_option maxHeartbeats 4000000 in
set_option maxRecDepth 100000 in
theorem x_failed_r (l : Launch) (D : va_G) (k : Nat → ClassId) (st : Nat → Nat) (lo : Nat) (x0 : Nat) (x1 : Nat) (tz : Nat) (ta : Int32) (na : Int32) (fn : Int32) (fb : Int32)  : CRi l D k st lo yX6_failed cX6_failed 1 (some .boolean) ({ frames := 0, cells := 0, slots := 0, locals := 0 }) [.ref x0] [(x0, .inr (6, (fX6 x1 (nI tz) ta na fn fb)))] (fun r => (r = 1 ∧ ¬ fn = 0) ∨ (r = 0 ∧ fn = 0)) := by
  intro sz
  refine Met.ofW (cc := cX6_failed) (maxL := 1) (ret := (some .boolean)) (by decide) rfl ?_
  intro p e s m args below meth c s₁ B hml hv
  obtain ⟨rfl, hsz, hlo, hP, hK, hDL, hZ⟩ := hv
  have hx := B.exec
  have hb := B.bytes
  have hr := B.returns
  have hts := WS_ts B.pre
  have hown : s.vm.findClass RX6 = some m.cls := findClass_of_methodNamed B.named
  have hlocks := B.notSynchronized
  subst hsz
  have hA : ∀ q : Nat, s.heap.size ≤ q → (fun q : Nat => s.heap.size ≤ q) q := fun _ h => h
  have hAlo : ∀ q : Nat, (fun q : Nat => s.heap.size ≤ q) q → lo ≤ q := fun q h => Nat.le_trans hlo h
  have hS : va_S (fun q : Nat => s.heap.size ≤ q) s.heap s.heap [] := va_S.rf
  have hl := lv_entry ([.ref x0]) (n := 1) (Nat.le_of_ble_eq_true rfl)
  rw [lg_entry_eq]
  generalize (lg_sl ([.ref x0]) ++ List.replicate (1 - (lg_sl ([.ref x0])).length) Slot.unset).toArray = ls at hl ⊢
  have hl : lv_has ls 1 [(0, .ref x0)] := hl
  refine lv_aload_n hx hb dX6_failed_0 rfl (lv_at hl 0 rfl) ?_
  refine va_get (D := D) (ci := 6) (v := .int fn) (C := RX6) (T := TX6) (N := 6) hx hb hts inX6 hown hK hP 0 rfl rfl 4 (by decide) (hts _ tw_119) (fun _ h9 => h9) rfl dX6_failed_1 ?_
  refine lv_if_eq (tgt := 11) hx hb dX6_failed_4 (by decide) (fun c_1 => ?_) (fun c_1 => ?_)
  · refine lv_iconst (v := 0) hx hb dX6_failed_11 (by decide) ?_
    exact W.zret (v := 0) (ty := .boolean) hx hb hr rfl (fun t ht hW => ⟨⟨0, (), rfl, .inr ⟨rfl, c_1⟩, trivial⟩, hS.F ht⟩) hS.2.2 dX6_failed_12
  · refine lv_iconst (v := 1) hx hb dX6_failed_7 (by decide) ?_
    refine lv_goto (tgt := 12) hx hb dX6_failed_8 (by decide) ?_
    exact W.zret (v := 1) (ty := .boolean) hx hb hr rfl (fun t ht hW => ⟨⟨1, (), rfl, .inl ⟨rfl, c_1⟩, trivial⟩, hS.F ht⟩) hS.2.2 dX6_failed_12

theorem f_x_fail_rows : True := trivial
theorem dX6_fail_0 : decode cX6_fail 0 = .ok (.aload_n 0, 1) := by decide +kernel
theorem dX6_fail_1 : decode cX6_fail 1 = .ok (.getfield 25, 3) := by decide +kernel
theorem dX6_fail_4 : decode cX6_fail 4 = .ok (.ifCond .ne 13, 3) := by decide +kernel
theorem dX6_fail_7 : decode cX6_fail 7 = .ok (.aload_n 0, 1) := by decide +kernel
theorem dX6_fail_8 : decode cX6_fail 8 = .ok (.iload_n 1, 1) := by decide +kernel
theorem dX6_fail_9 : decode cX6_fail 9 = .ok (.putfield 25, 3) := by decide +kernel
theorem dX6_fail_12 : decode cX6_fail 12 = .ok (.aload_n 0, 1) := by decide +kernel
theorem dX6_fail_13 : decode cX6_fail 13 = .ok (.iload_n 2, 1) := by decide +kernel
theorem dX6_fail_14 : decode cX6_fail 14 = .ok (.putfield 28, 3) := by decide +kernel
theorem dX6_fail_17 : decode cX6_fail 17 = .ok (.return_, 1) := by decide +kernel
theorem f_x_byteAt_rows : True := trivial
theorem dX6_byteAt_0 : decode cX6_byteAt 0 = .ok (.iload_n 1, 1) := by decide +kernel
theorem dX6_byteAt_1 : decode cX6_byteAt 1 = .ok (.ifCond .lt 24, 3) := by decide +kernel
theorem dX6_byteAt_4 : decode cX6_byteAt 4 = .ok (.iload_n 1, 1) := by decide +kernel
theorem dX6_byteAt_5 : decode cX6_byteAt 5 = .ok (.aload_n 0, 1) := by decide +kernel
theorem dX6_byteAt_6 : decode cX6_byteAt 6 = .ok (.getfield 15, 3) := by decide +kernel
theorem dX6_byteAt_9 : decode cX6_byteAt 9 = .ok (.if_icmp .ge 16, 3) := by decide +kernel
theorem dX6_byteAt_12 : decode cX6_byteAt 12 = .ok (.aload_n 0, 1) := by decide +kernel
theorem dX6_byteAt_13 : decode cX6_byteAt 13 = .ok (.getfield 9, 3) := by decide +kernel
theorem dX6_byteAt_16 : decode cX6_byteAt 16 = .ok (.iload_n 1, 1) := by decide +kernel
theorem dX6_byteAt_17 : decode cX6_byteAt 17 = .ok (.baload, 1) := by decide +kernel
theorem dX6_byteAt_18 : decode cX6_byteAt 18 = .ok (.sipush 255, 3) := by decide +kernel
theorem dX6_byteAt_21 : decode cX6_byteAt 21 = .ok (.iand, 1) := by decide +kernel
theorem dX6_byteAt_22 : decode cX6_byteAt 22 = .ok (.goto 4, 3) := by decide +kernel
theorem dX6_byteAt_25 : decode cX6_byteAt 25 = .ok (.iconst (-1), 1) := by decide +kernel
theorem dX6_byteAt_26 : decode cX6_byteAt 26 = .ok (.ireturn, 1) := by decide +kernel
theorem f_x_skip_rows : True := trivial
theorem dX6_skipBlanks_0 : decode cX6_skipBlanks 0 = .ok (.aload_n 0, 1) := by decide +kernel
theorem dX6_skipBlanks_1 : decode cX6_skipBlanks 1 = .ok (.getfield 19, 3) := by decide +kernel
theorem dX6_skipBlanks_4 : decode cX6_skipBlanks 4 = .ok (.aload_n 0, 1) := by decide +kernel
theorem dX6_skipBlanks_5 : decode cX6_skipBlanks 5 = .ok (.getfield 15, 3) := by decide +kernel
theorem dX6_skipBlanks_8 : decode cX6_skipBlanks 8 = .ok (.if_icmp .ge 29, 3) := by decide +kernel
theorem dX6_skipBlanks_11 : decode cX6_skipBlanks 11 = .ok (.aload_n 0, 1) := by decide +kernel
theorem dX6_skipBlanks_12 : decode cX6_skipBlanks 12 = .ok (.aload_n 0, 1) := by decide +kernel
theorem dX6_skipBlanks_13 : decode cX6_skipBlanks 13 = .ok (.getfield 19, 3) := by decide +kernel
theorem dX6_skipBlanks_16 : decode cX6_skipBlanks 16 = .ok (.invokevirtual 31, 3) := by decide +kernel
theorem dX6_skipBlanks_19 : decode cX6_skipBlanks 19 = .ok (.bipush 32, 2) := by decide +kernel
theorem dX6_skipBlanks_21 : decode cX6_skipBlanks 21 = .ok (.if_icmp .ne 16, 3) := by decide +kernel
theorem dX6_skipBlanks_24 : decode cX6_skipBlanks 24 = .ok (.aload_n 0, 1) := by decide +kernel
theorem dX6_skipBlanks_25 : decode cX6_skipBlanks 25 = .ok (.dup, 1) := by decide +kernel
theorem dX6_skipBlanks_26 : decode cX6_skipBlanks 26 = .ok (.getfield 19, 3) := by decide +kernel
theorem dX6_skipBlanks_29 : decode cX6_skipBlanks 29 = .ok (.iconst 1, 1) := by decide +kernel
theorem dX6_skipBlanks_30 : decode cX6_skipBlanks 30 = .ok (.iadd, 1) := by decide +kernel
theorem dX6_skipBlanks_31 : decode cX6_skipBlanks 31 = .ok (.putfield 19, 3) := by decide +kernel
theorem dX6_skipBlanks_34 : decode cX6_skipBlanks 34 = .ok (.goto (-34), 3) := by decide +kernel
theorem dX6_skipBlanks_37 : decode cX6_skipBlanks 37 = .ok (.return_, 1) := by decide +kernel
theorem f_x_isAtEnd_rows : True := trivial
theorem dX6_isAtEnd_0 : decode cX6_isAtEnd 0 = .ok (.aload_n 0, 1) := by decide +kernel
theorem dX6_isAtEnd_1 : decode cX6_isAtEnd 1 = .ok (.invokevirtual 35, 3) := by decide +kernel
theorem dX6_isAtEnd_4 : decode cX6_isAtEnd 4 = .ok (.aload_n 0, 1) := by decide +kernel
theorem dX6_isAtEnd_5 : decode cX6_isAtEnd 5 = .ok (.getfield 19, 3) := by decide +kernel
theorem dX6_isAtEnd_8 : decode cX6_isAtEnd 8 = .ok (.aload_n 0, 1) := by decide +kernel
theorem dX6_isAtEnd_9 : decode cX6_isAtEnd 9 = .ok (.getfield 15, 3) := by decide +kernel
theorem dX6_isAtEnd_12 : decode cX6_isAtEnd 12 = .ok (.if_icmp .lt 7, 3) := by decide +kernel
theorem dX6_isAtEnd_15 : decode cX6_isAtEnd 15 = .ok (.iconst 1, 1) := by decide +kernel
theorem dX6_isAtEnd_16 : decode cX6_isAtEnd 16 = .ok (.goto 4, 3) := by decide +kernel
theorem dX6_isAtEnd_19 : decode cX6_isAtEnd 19 = .ok (.iconst 0, 1) := by decide +kernel
theorem dX6_isAtEnd_20 : decode cX6_isAtEnd 20 = .ok (.ireturn, 1) := by decide +kernel
theorem f_x_isLetterAt_rows : True := trivial
theorem dX6_isLetterAt_0 : decode cX6_isLetterAt 0 = .ok (.aload_n 0, 1) := by decide +kernel
theorem dX6_isLetterAt_1 : decode cX6_isLetterAt 1 = .ok (.iload_n 1, 1) := by decide +kernel
theorem dX6_isLetterAt_2 : decode cX6_isLetterAt 2 = .ok (.invokevirtual 31, 3) := by decide +kernel
theorem dX6_isLetterAt_5 : decode cX6_isLetterAt 5 = .ok (.istore_n 2, 1) := by decide +kernel
theorem dX6_isLetterAt_6 : decode cX6_isLetterAt 6 = .ok (.iload_n 2, 1) := by decide +kernel
theorem dX6_isLetterAt_7 : decode cX6_isLetterAt 7 = .ok (.bipush 97, 2) := by decide +kernel
theorem dX6_isLetterAt_9 : decode cX6_isLetterAt 9 = .ok (.if_icmp .lt 13, 3) := by decide +kernel
theorem dX6_isLetterAt_12 : decode cX6_isLetterAt 12 = .ok (.iload_n 2, 1) := by decide +kernel
theorem dX6_isLetterAt_13 : decode cX6_isLetterAt 13 = .ok (.bipush 122, 2) := by decide +kernel
theorem dX6_isLetterAt_15 : decode cX6_isLetterAt 15 = .ok (.if_icmp .gt 7, 3) := by decide +kernel
theorem dX6_isLetterAt_18 : decode cX6_isLetterAt 18 = .ok (.iconst 1, 1) := by decide +kernel
theorem dX6_isLetterAt_19 : decode cX6_isLetterAt 19 = .ok (.goto 4, 3) := by decide +kernel
theorem dX6_isLetterAt_22 : decode cX6_isLetterAt 22 = .ok (.iconst 0, 1) := by decide +kernel
theorem dX6_isLetterAt_23 : decode cX6_isLetterAt 23 = .ok (.ireturn, 1) := by decide +kernel
theorem f_x_isFigureAt_rows : True := trivial
theorem dX6_isFigureAt_0 : decode cX6_isFigureAt 0 = .ok (.aload_n 0, 1) := by decide +kernel
theorem dX6_isFigureAt_1 : decode cX6_isFigureAt 1 = .ok (.iload_n 1, 1) := by decide +kernel
theorem dX6_isFigureAt_2 : decode cX6_isFigureAt 2 = .ok (.invokevirtual 31, 3) := by decide +kernel
theorem dX6_isFigureAt_5 : decode cX6_isFigureAt 5 = .ok (.istore_n 2, 1) := by decide +kernel
theorem dX6_isFigureAt_6 : decode cX6_isFigureAt 6 = .ok (.iload_n 2, 1) := by decide +kernel
theorem dX6_isFigureAt_7 : decode cX6_isFigureAt 7 = .ok (.bipush 48, 2) := by decide +kernel
theorem dX6_isFigureAt_9 : decode cX6_isFigureAt 9 = .ok (.if_icmp .lt 13, 3) := by decide +kernel
theorem dX6_isFigureAt_12 : decode cX6_isFigureAt 12 = .ok (.iload_n 2, 1) := by decide +kernel
theorem dX6_isFigureAt_13 : decode cX6_isFigureAt 13 = .ok (.bipush 57, 2) := by decide +kernel
theorem dX6_isFigureAt_15 : decode cX6_isFigureAt 15 = .ok (.if_icmp .gt 7, 3) := by decide +kernel
theorem dX6_isFigureAt_18 : decode cX6_isFigureAt 18 = .ok (.iconst 1, 1) := by decide +kernel
theorem dX6_isFigureAt_19 : decode cX6_isFigureAt 19 = .ok (.goto 4, 3) := by decide +kernel
theorem dX6_isFigureAt_22 : decode cX6_isFigureAt 22 = .ok (.iconst 0, 1) := by decide +kernel
theorem dX6_isFigureAt_23 : decode cX6_isFigureAt 23 = .ok (.ireturn, 1) := by decide +kernel
theorem f_x_takeWord_rows : True := trivial
theorem dX6_takeWord_0 : decode cX6_takeWord 0 = .ok (.aload_n 0, 1) := by decide +kernel
theorem dX6_takeWord_1 : decode cX6_takeWord 1 = .ok (.invokevirtual 35, 3) := by decide +kernel
theorem dX6_takeWord_4 : decode cX6_takeWord 4 = .ok (.aload_n 0, 1) := by decide +kernel
theorem dX6_takeWord_5 : decode cX6_takeWord 5 = .ok (.getfield 19, 3) := by decide +kernel
theorem dX6_takeWord_8 : decode cX6_takeWord 8 = .ok (.aload_n 1, 1) := by decide +kernel
theorem dX6_takeWord_9 : decode cX6_takeWord 9 = .ok (.invokevirtual 38, 3) := by decide +kernel
theorem dX6_takeWord_12 : decode cX6_takeWord 12 = .ok (.iadd, 1) := by decide +kernel
theorem dX6_takeWord_13 : decode cX6_takeWord 13 = .ok (.istore_n 2, 1) := by decide +kernel
theorem dX6_takeWord_14 : decode cX6_takeWord 14 = .ok (.iconst 0, 1) := by decide +kernel
theorem dX6_takeWord_15 : decode cX6_takeWord 15 = .ok (.istore_n 3, 1) := by decide +kernel
theorem dX6_takeWord_16 : decode cX6_takeWord 16 = .ok (.iload_n 3, 1) := by decide +kernel
theorem dX6_takeWord_17 : decode cX6_takeWord 17 = .ok (.aload_n 1, 1) := by decide +kernel
theorem dX6_takeWord_18 : decode cX6_takeWord 18 = .ok (.invokevirtual 38, 3) := by decide +kernel
theorem dX6_takeWord_21 : decode cX6_takeWord 21 = .ok (.if_icmp .ge 29, 3) := by decide +kernel
theorem dX6_takeWord_24 : decode cX6_takeWord 24 = .ok (.aload_n 0, 1) := by decide +kernel
theorem dX6_takeWord_25 : decode cX6_takeWord 25 = .ok (.aload_n 0, 1) := by decide +kernel
theorem dX6_takeWord_26 : decode cX6_takeWord 26 = .ok (.getfield 19, 3) := by decide +kernel
theorem dX6_takeWord_29 : decode cX6_takeWord 29 = .ok (.iload_n 3, 1) := by decide +kernel
theorem dX6_takeWord_30 : decode cX6_takeWord 30 = .ok (.iadd, 1) := by decide +kernel
theorem dX6_takeWord_31 : decode cX6_takeWord 31 = .ok (.invokevirtual 31, 3) := by decide +kernel
theorem dX6_takeWord_34 : decode cX6_takeWord 34 = .ok (.aload_n 1, 1) := by decide +kernel
theorem dX6_takeWord_35 : decode cX6_takeWord 35 = .ok (.iload_n 3, 1) := by decide +kernel
theorem dX6_takeWord_36 : decode cX6_takeWord 36 = .ok (.invokevirtual 44, 3) := by decide +kernel
theorem dX6_takeWord_39 : decode cX6_takeWord 39 = .ok (.if_icmp .eq 5, 3) := by decide +kernel
theorem dX6_takeWord_42 : decode cX6_takeWord 42 = .ok (.iconst 0, 1) := by decide +kernel
theorem dX6_takeWord_43 : decode cX6_takeWord 43 = .ok (.ireturn, 1) := by decide +kernel
theorem dX6_takeWord_44 : decode cX6_takeWord 44 = .ok (.iinc 3 1, 3) := by decide +kernel
theorem dX6_takeWord_47 : decode cX6_takeWord 47 = .ok (.goto (-31), 3) := by decide +kernel
theorem dX6_takeWord_50 : decode cX6_takeWord 50 = .ok (.aload_n 0, 1) := by decide +kernel
theorem dX6_takeWord_51 : decode cX6_takeWord 51 = .ok (.iload_n 2, 1) := by decide +kernel
theorem dX6_takeWord_52 : decode cX6_takeWord 52 = .ok (.invokevirtual 48, 3) := by decide +kernel
theorem dX6_takeWord_55 : decode cX6_takeWord 55 = .ok (.ifCond .eq 5, 3) := by decide +kernel
theorem dX6_takeWord_58 : decode cX6_takeWord 58 = .ok (.iconst 0, 1) := by decide +kernel
theorem dX6_takeWord_59 : decode cX6_takeWord 59 = .ok (.ireturn, 1) := by decide +kernel
theorem dX6_takeWord_60 : decode cX6_takeWord 60 = .ok (.aload_n 0, 1) := by decide +kernel
theorem dX6_takeWord_61 : decode cX6_takeWord 61 = .ok (.iload_n 2, 1) := by decide +kernel
theorem dX6_takeWord_62 : decode cX6_takeWord 62 = .ok (.putfield 19, 3) := by decide +kernel
theorem dX6_takeWord_65 : decode cX6_takeWord 65 = .ok (.iconst 1, 1) := by decide +kernel
theorem dX6_takeWord_66 : decode cX6_takeWord 66 = .ok (.ireturn, 1) := by decide +kernel
theorem f_x_needWord_rows : True := trivial
theorem dX6_needWord_0 : decode cX6_needWord 0 = .ok (.aload_n 0, 1) := by decide +kernel
theorem dX6_needWord_1 : decode cX6_needWord 1 = .ok (.invokevirtual 52, 3) := by decide +kernel
theorem dX6_needWord_4 : decode cX6_needWord 4 = .ok (.ifCond .ne 20, 3) := by decide +kernel
theorem dX6_needWord_7 : decode cX6_needWord 7 = .ok (.aload_n 0, 1) := by decide +kernel
theorem dX6_needWord_8 : decode cX6_needWord 8 = .ok (.aload_n 1, 1) := by decide +kernel
theorem dX6_needWord_9 : decode cX6_needWord 9 = .ok (.invokevirtual 56, 3) := by decide +kernel
theorem dX6_needWord_12 : decode cX6_needWord 12 = .ok (.ifCond .ne 12, 3) := by decide +kernel
theorem dX6_needWord_15 : decode cX6_needWord 15 = .ok (.aload_n 0, 1) := by decide +kernel
theorem dX6_needWord_16 : decode cX6_needWord 16 = .ok (.iconst 1, 1) := by decide +kernel
theorem dX6_needWord_17 : decode cX6_needWord 17 = .ok (.aload_n 0, 1) := by decide +kernel
theorem dX6_needWord_18 : decode cX6_needWord 18 = .ok (.getfield 19, 3) := by decide +kernel
theorem dX6_needWord_21 : decode cX6_needWord 21 = .ok (.invokevirtual 60, 3) := by decide +kernel
theorem dX6_needWord_24 : decode cX6_needWord 24 = .ok (.return_, 1) := by decide +kernel
theorem f_x_needSemicolon_rows : True := trivial
theorem dX6_needSemicolon_0 : decode cX6_needSemicolon 0 = .ok (.aload_n 0, 1) := by decide +kernel
theorem dX6_needSemicolon_1 : decode cX6_needSemicolon 1 = .ok (.invokevirtual 35, 3) := by decide +kernel
theorem dX6_needSemicolon_4 : decode cX6_needSemicolon 4 = .ok (.aload_n 0, 1) := by decide +kernel
theorem dX6_needSemicolon_5 : decode cX6_needSemicolon 5 = .ok (.aload_n 0, 1) := by decide +kernel
theorem dX6_needSemicolon_6 : decode cX6_needSemicolon 6 = .ok (.getfield 19, 3) := by decide +kernel
theorem dX6_needSemicolon_9 : decode cX6_needSemicolon 9 = .ok (.invokevirtual 31, 3) := by decide +kernel
theorem dX6_needSemicolon_12 : decode cX6_needSemicolon 12 = .ok (.bipush 59, 2) := by decide +kernel
theorem dX6_needSemicolon_14 : decode cX6_needSemicolon 14 = .ok (.if_icmp .ne 16, 3) := by decide +kernel
theorem dX6_needSemicolon_17 : decode cX6_needSemicolon 17 = .ok (.aload_n 0, 1) := by decide +kernel
theorem dX6_needSemicolon_18 : decode cX6_needSemicolon 18 = .ok (.dup, 1) := by decide +kernel
theorem dX6_needSemicolon_19 : decode cX6_needSemicolon 19 = .ok (.getfield 19, 3) := by decide +kernel
theorem dX6_needSemicolon_22 : decode cX6_needSemicolon 22 = .ok (.iconst 1, 1) := by decide +kernel
theorem dX6_needSemicolon_23 : decode cX6_needSemicolon 23 = .ok (.iadd, 1) := by decide +kernel
theorem dX6_needSemicolon_24 : decode cX6_needSemicolon 24 = .ok (.putfield 19, 3) := by decide +kernel
theorem dX6_needSemicolon_27 : decode cX6_needSemicolon 27 = .ok (.goto 12, 3) := by decide +kernel
theorem dX6_needSemicolon_30 : decode cX6_needSemicolon 30 = .ok (.aload_n 0, 1) := by decide +kernel
theorem dX6_needSemicolon_31 : decode cX6_needSemicolon 31 = .ok (.iconst 1, 1) := by decide +kernel
theorem dX6_needSemicolon_32 : decode cX6_needSemicolon 32 = .ok (.aload_n 0, 1) := by decide +kernel
theorem dX6_needSemicolon_33 : decode cX6_needSemicolon 33 = .ok (.getfield 19, 3) := by decide +kernel
theorem dX6_needSemicolon_36 : decode cX6_needSemicolon 36 = .ok (.invokevirtual 60, 3) := by decide +kernel
theorem dX6_needSemicolon_39 : decode cX6_needSemicolon 39 = .ok (.return_, 1) := by decide +kernel
theorem f_x_needNumber_rows : True := trivial
theorem dX6_needNumber_0 : decode cX6_needNumber 0 = .ok (.aload_n 0, 1) := by decide +kernel
theorem dX6_needNumber_1 : decode cX6_needNumber 1 = .ok (.invokevirtual 52, 3) := by decide +kernel
theorem dX6_needNumber_4 : decode cX6_needNumber 4 = .ok (.ifCond .eq 5, 3) := by decide +kernel
theorem dX6_needNumber_7 : decode cX6_needNumber 7 = .ok (.iload_n 1, 1) := by decide +kernel
theorem dX6_needNumber_8 : decode cX6_needNumber 8 = .ok (.ireturn, 1) := by decide +kernel
theorem dX6_needNumber_9 : decode cX6_needNumber 9 = .ok (.aload_n 0, 1) := by decide +kernel
theorem dX6_needNumber_10 : decode cX6_needNumber 10 = .ok (.invokevirtual 35, 3) := by decide +kernel
theorem dX6_needNumber_13 : decode cX6_needNumber 13 = .ok (.aload_n 0, 1) := by decide +kernel
theorem dX6_needNumber_14 : decode cX6_needNumber 14 = .ok (.aload_n 0, 1) := by decide +kernel
theorem dX6_needNumber_15 : decode cX6_needNumber 15 = .ok (.getfield 19, 3) := by decide +kernel
theorem dX6_needNumber_18 : decode cX6_needNumber 18 = .ok (.putfield 22, 3) := by decide +kernel
theorem dX6_needNumber_21 : decode cX6_needNumber 21 = .ok (.iload_n 1, 1) := by decide +kernel
theorem dX6_needNumber_22 : decode cX6_needNumber 22 = .ok (.ifCond .ge 20, 3) := by decide +kernel
theorem dX6_needNumber_25 : decode cX6_needNumber 25 = .ok (.aload_n 0, 1) := by decide +kernel
theorem dX6_needNumber_26 : decode cX6_needNumber 26 = .ok (.aload_n 0, 1) := by decide +kernel
theorem dX6_needNumber_27 : decode cX6_needNumber 27 = .ok (.getfield 19, 3) := by decide +kernel
theorem dX6_needNumber_30 : decode cX6_needNumber 30 = .ok (.invokevirtual 31, 3) := by decide +kernel
theorem dX6_needNumber_33 : decode cX6_needNumber 33 = .ok (.bipush 45, 2) := by decide +kernel
theorem dX6_needNumber_35 : decode cX6_needNumber 35 = .ok (.if_icmp .ne 7, 3) := by decide +kernel
theorem dX6_needNumber_38 : decode cX6_needNumber 38 = .ok (.iconst 1, 1) := by decide +kernel
theorem dX6_needNumber_39 : decode cX6_needNumber 39 = .ok (.goto 4, 3) := by decide +kernel
theorem dX6_needNumber_42 : decode cX6_needNumber 42 = .ok (.iconst 0, 1) := by decide +kernel
theorem dX6_needNumber_43 : decode cX6_needNumber 43 = .ok (.istore_n 3, 1) := by decide +kernel
theorem dX6_needNumber_44 : decode cX6_needNumber 44 = .ok (.iload_n 3, 1) := by decide +kernel
theorem dX6_needNumber_45 : decode cX6_needNumber 45 = .ok (.ifCond .eq 13, 3) := by decide +kernel
theorem dX6_needNumber_48 : decode cX6_needNumber 48 = .ok (.aload_n 0, 1) := by decide +kernel
theorem dX6_needNumber_49 : decode cX6_needNumber 49 = .ok (.dup, 1) := by decide +kernel
theorem dX6_needNumber_50 : decode cX6_needNumber 50 = .ok (.getfield 19, 3) := by decide +kernel
theorem dX6_needNumber_53 : decode cX6_needNumber 53 = .ok (.iconst 1, 1) := by decide +kernel
theorem dX6_needNumber_54 : decode cX6_needNumber 54 = .ok (.iadd, 1) := by decide +kernel
theorem dX6_needNumber_55 : decode cX6_needNumber 55 = .ok (.putfield 19, 3) := by decide +kernel
theorem dX6_needNumber_58 : decode cX6_needNumber 58 = .ok (.aload_n 0, 1) := by decide +kernel
theorem dX6_needNumber_59 : decode cX6_needNumber 59 = .ok (.getfield 19, 3) := by decide +kernel
theorem dX6_needNumber_62 : decode cX6_needNumber 62 = .ok (.istore 4, 2) := by decide +kernel
theorem dX6_needNumber_64 : decode cX6_needNumber 64 = .ok (.iconst 0, 1) := by decide +kernel
theorem dX6_needNumber_65 : decode cX6_needNumber 65 = .ok (.istore 5, 2) := by decide +kernel
theorem dX6_needNumber_67 : decode cX6_needNumber 67 = .ok (.aload_n 0, 1) := by decide +kernel
theorem dX6_needNumber_68 : decode cX6_needNumber 68 = .ok (.getfield 19, 3) := by decide +kernel
theorem dX6_needNumber_71 : decode cX6_needNumber 71 = .ok (.aload_n 0, 1) := by decide +kernel
theorem dX6_needNumber_72 : decode cX6_needNumber 72 = .ok (.getfield 15, 3) := by decide +kernel
theorem dX6_needNumber_75 : decode cX6_needNumber 75 = .ok (.if_icmp .ge 57, 3) := by decide +kernel
theorem dX6_needNumber_78 : decode cX6_needNumber 78 = .ok (.aload_n 0, 1) := by decide +kernel
theorem dX6_needNumber_79 : decode cX6_needNumber 79 = .ok (.aload_n 0, 1) := by decide +kernel
theorem dX6_needNumber_80 : decode cX6_needNumber 80 = .ok (.getfield 19, 3) := by decide +kernel
theorem dX6_needNumber_83 : decode cX6_needNumber 83 = .ok (.invokevirtual 64, 3) := by decide +kernel
theorem dX6_needNumber_86 : decode cX6_needNumber 86 = .ok (.ifCond .eq 46, 3) := by decide +kernel
theorem dX6_needNumber_89 : decode cX6_needNumber 89 = .ok (.aload_n 0, 1) := by decide +kernel
theorem dX6_needNumber_90 : decode cX6_needNumber 90 = .ok (.getfield 19, 3) := by decide +kernel
theorem dX6_needNumber_93 : decode cX6_needNumber 93 = .ok (.iload 4, 2) := by decide +kernel
theorem dX6_needNumber_95 : decode cX6_needNumber 95 = .ok (.isub, 1) := by decide +kernel
theorem dX6_needNumber_96 : decode cX6_needNumber 96 = .ok (.iconst 3, 1) := by decide +kernel
theorem dX6_needNumber_97 : decode cX6_needNumber 97 = .ok (.if_icmp .ge 22, 3) := by decide +kernel
theorem dX6_needNumber_100 : decode cX6_needNumber 100 = .ok (.iload 5, 2) := by decide +kernel
theorem dX6_needNumber_102 : decode cX6_needNumber 102 = .ok (.bipush 10, 2) := by decide +kernel
theorem dX6_needNumber_104 : decode cX6_needNumber 104 = .ok (.imul, 1) := by decide +kernel
theorem dX6_needNumber_105 : decode cX6_needNumber 105 = .ok (.aload_n 0, 1) := by decide +kernel
theorem dX6_needNumber_106 : decode cX6_needNumber 106 = .ok (.aload_n 0, 1) := by decide +kernel
theorem dX6_needNumber_107 : decode cX6_needNumber 107 = .ok (.getfield 19, 3) := by decide +kernel
theorem dX6_needNumber_110 : decode cX6_needNumber 110 = .ok (.invokevirtual 31, 3) := by decide +kernel
theorem dX6_needNumber_113 : decode cX6_needNumber 113 = .ok (.iadd, 1) := by decide +kernel
theorem dX6_needNumber_114 : decode cX6_needNumber 114 = .ok (.bipush 48, 2) := by decide +kernel
theorem dX6_needNumber_116 : decode cX6_needNumber 116 = .ok (.isub, 1) := by decide +kernel
theorem dX6_needNumber_117 : decode cX6_needNumber 117 = .ok (.istore 5, 2) := by decide +kernel
theorem dX6_needNumber_119 : decode cX6_needNumber 119 = .ok (.aload_n 0, 1) := by decide +kernel
theorem dX6_needNumber_120 : decode cX6_needNumber 120 = .ok (.dup, 1) := by decide +kernel
theorem dX6_needNumber_121 : decode cX6_needNumber 121 = .ok (.getfield 19, 3) := by decide +kernel
theorem dX6_needNumber_124 : decode cX6_needNumber 124 = .ok (.iconst 1, 1) := by decide +kernel
theorem dX6_needNumber_125 : decode cX6_needNumber 125 = .ok (.iadd, 1) := by decide +kernel
theorem dX6_needNumber_126 : decode cX6_needNumber 126 = .ok (.putfield 19, 3) := by decide +kernel
theorem dX6_needNumber_129 : decode cX6_needNumber 129 = .ok (.goto (-62), 3) := by decide +kernel
theorem dX6_needNumber_132 : decode cX6_needNumber 132 = .ok (.iload_n 3, 1) := by decide +kernel
theorem dX6_needNumber_133 : decode cX6_needNumber 133 = .ok (.ifCond .eq 8, 3) := by decide +kernel
theorem dX6_needNumber_136 : decode cX6_needNumber 136 = .ok (.iload 5, 2) := by decide +kernel
theorem dX6_needNumber_138 : decode cX6_needNumber 138 = .ok (.ineg, 1) := by decide +kernel
theorem dX6_needNumber_139 : decode cX6_needNumber 139 = .ok (.istore 5, 2) := by decide +kernel
theorem dX6_needNumber_141 : decode cX6_needNumber 141 = .ok (.aload_n 0, 1) := by decide +kernel
theorem dX6_needNumber_142 : decode cX6_needNumber 142 = .ok (.getfield 19, 3) := by decide +kernel
theorem dX6_needNumber_145 : decode cX6_needNumber 145 = .ok (.iload 4, 2) := by decide +kernel
theorem dX6_needNumber_147 : decode cX6_needNumber 147 = .ok (.if_icmp .ne 15, 3) := by decide +kernel
theorem dX6_needNumber_150 : decode cX6_needNumber 150 = .ok (.aload_n 0, 1) := by decide +kernel
theorem dX6_needNumber_151 : decode cX6_needNumber 151 = .ok (.iconst 1, 1) := by decide +kernel
theorem dX6_needNumber_152 : decode cX6_needNumber 152 = .ok (.aload_n 0, 1) := by decide +kernel
theorem dX6_needNumber_153 : decode cX6_needNumber 153 = .ok (.getfield 19, 3) := by decide +kernel
theorem dX6_needNumber_156 : decode cX6_needNumber 156 = .ok (.invokevirtual 60, 3) := by decide +kernel
theorem dX6_needNumber_159 : decode cX6_needNumber 159 = .ok (.goto 35, 3) := by decide +kernel
theorem dX6_needNumber_162 : decode cX6_needNumber 162 = .ok (.aload_n 0, 1) := by decide +kernel
theorem dX6_needNumber_163 : decode cX6_needNumber 163 = .ok (.getfield 19, 3) := by decide +kernel
theorem dX6_needNumber_166 : decode cX6_needNumber 166 = .ok (.iload 4, 2) := by decide +kernel
theorem dX6_needNumber_168 : decode cX6_needNumber 168 = .ok (.isub, 1) := by decide +kernel
theorem dX6_needNumber_169 : decode cX6_needNumber 169 = .ok (.iconst 3, 1) := by decide +kernel
theorem dX6_needNumber_170 : decode cX6_needNumber 170 = .ok (.if_icmp .gt 15, 3) := by decide +kernel
theorem dX6_needNumber_173 : decode cX6_needNumber 173 = .ok (.iload 5, 2) := by decide +kernel
theorem dX6_needNumber_175 : decode cX6_needNumber 175 = .ok (.iload_n 1, 1) := by decide +kernel
theorem dX6_needNumber_176 : decode cX6_needNumber 176 = .ok (.if_icmp .lt 9, 3) := by decide +kernel
theorem dX6_needNumber_179 : decode cX6_needNumber 179 = .ok (.iload 5, 2) := by decide +kernel
theorem dX6_needNumber_181 : decode cX6_needNumber 181 = .ok (.iload_n 2, 1) := by decide +kernel
theorem dX6_needNumber_182 : decode cX6_needNumber 182 = .ok (.if_icmp .le 12, 3) := by decide +kernel
theorem dX6_needNumber_185 : decode cX6_needNumber 185 = .ok (.aload_n 0, 1) := by decide +kernel
theorem dX6_needNumber_186 : decode cX6_needNumber 186 = .ok (.iconst 2, 1) := by decide +kernel
theorem dX6_needNumber_187 : decode cX6_needNumber 187 = .ok (.aload_n 0, 1) := by decide +kernel
theorem dX6_needNumber_188 : decode cX6_needNumber 188 = .ok (.getfield 22, 3) := by decide +kernel
theorem dX6_needNumber_191 : decode cX6_needNumber 191 = .ok (.invokevirtual 60, 3) := by decide +kernel
theorem dX6_needNumber_194 : decode cX6_needNumber 194 = .ok (.aload_n 0, 1) := by decide +kernel
theorem dX6_needNumber_195 : decode cX6_needNumber 195 = .ok (.invokevirtual 52, 3) := by decide +kernel
theorem dX6_needNumber_198 : decode cX6_needNumber 198 = .ok (.ifCond .eq 7, 3) := by decide +kernel
theorem dX6_needNumber_201 : decode cX6_needNumber 201 = .ok (.iload_n 1, 1) := by decide +kernel
theorem dX6_needNumber_202 : decode cX6_needNumber 202 = .ok (.goto 5, 3) := by decide +kernel
theorem dX6_needNumber_205 : decode cX6_needNumber 205 = .ok (.iload 5, 2) := by decide +kernel
theorem dX6_needNumber_207 : decode cX6_needNumber 207 = .ok (.ireturn, 1) := by decide +kernel

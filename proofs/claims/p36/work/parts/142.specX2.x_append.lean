theorem dX6_append_0 : decode cX6_append 0 = .ok (.aload_n 0, 1) := by decide +kernel
theorem dX6_append_1 : decode cX6_append 1 = .ok (.getfield 15, 3) := by decide +kernel
theorem dX6_append_4 : decode cX6_append 4 = .ok (.sipush 240, 3) := by decide +kernel
theorem dX6_append_7 : decode cX6_append 7 = .ok (.if_icmp .ge 23, 3) := by decide +kernel
theorem dX6_append_10 : decode cX6_append 10 = .ok (.aload_n 0, 1) := by decide +kernel
theorem dX6_append_11 : decode cX6_append 11 = .ok (.getfield 9, 3) := by decide +kernel
theorem dX6_append_14 : decode cX6_append 14 = .ok (.aload_n 0, 1) := by decide +kernel
theorem dX6_append_15 : decode cX6_append 15 = .ok (.getfield 15, 3) := by decide +kernel
theorem dX6_append_18 : decode cX6_append 18 = .ok (.iload_n 1, 1) := by decide +kernel
theorem dX6_append_19 : decode cX6_append 19 = .ok (.bastore, 1) := by decide +kernel
theorem dX6_append_20 : decode cX6_append 20 = .ok (.aload_n 0, 1) := by decide +kernel
theorem dX6_append_21 : decode cX6_append 21 = .ok (.dup, 1) := by decide +kernel
theorem dX6_append_22 : decode cX6_append 22 = .ok (.getfield 15, 3) := by decide +kernel
theorem dX6_append_25 : decode cX6_append 25 = .ok (.iconst 1, 1) := by decide +kernel
theorem dX6_append_26 : decode cX6_append 26 = .ok (.iadd, 1) := by decide +kernel
theorem dX6_append_27 : decode cX6_append 27 = .ok (.putfield 15, 3) := by decide +kernel
theorem dX6_append_30 : decode cX6_append 30 = .ok (.return_, 1) := by decide +kernel
set_option maxHeartbeats 4000000 in
set_option maxRecDepth 100000 in
theorem x_append (l : Launch) (D : va_G) (k : Nat → ClassId) (st : Nat → Nat) (lo : Nat) (x0 : Nat) (x1 : Nat) (tz : Nat) (ta : Int32) (na : Int32) (fn : Int32) (fb : Int32) (fx : Nat → Int32) (p0 : Int32) (hz : tz ≤ 240) : CWv l D k st lo yX6_append cX6_append 2 none ({ frames := 0, cells := 0, slots := 0, locals := 0 }) 0 0 [.ref x0, .int p0] [(x0, .inr (6, (fX6 x1 (nI tz) ta na fn fb))), (aB k x1 240 fx)] (fun (u : Nat × (Nat → Int32)) => match u with | (tz_, fx_) => tz ≤ tz_ ∧ tz_ ≤ 240) (fun (u : Nat × (Nat → Int32)) => match u with | (tz_, fx_) => [(x0, .inr (6, (fX6 x1 (nI tz_) ta na fn fb))), (aB k x1 240 fx_)]) := by
  intro sz
  refine Met.ofW (cc := cX6_append) (maxL := 2) (ret := none) (by decide) rfl ?_
  intro p e s m args below meth c s₁ B hml hv
  obtain ⟨rfl, hsz, hlo, hP, hK, hDL, hZ⟩ := hv
  have hx := B.exec
  have hb := B.bytes
  have hr := B.returns
  have hts := WS_ts B.pre
  have hown : s.vm.findClass RX6 = some m.cls := findClass_of_methodNamed B.named
  have hlocks := B.notSynchronized
  subst hsz
  have hD := hDL.self (sz := s.heap.size)
  have hAlo := A_lo hDL hlo
  generalize hAe : va_A [(x0, .inr (6, (fX6 x1 (nI tz) ta na fn fb))), (aB k x1 240 fx)] s.heap.size = A at hD hAlo ⊢
  have hA : ∀ q : Nat, s.heap.size ≤ q → A q := fun q h => by rw [← hAe]; exact Or.inr h
  have hS : va_S A s.heap s.heap [] := va_S.rf
  have hl := lv_entry ([.ref x0, .int p0]) (n := 2) (Nat.le_of_ble_eq_true rfl)
  rw [lg_entry_eq]
  generalize (lg_sl ([.ref x0, .int p0]) ++ List.replicate (2 - (lg_sl ([.ref x0, .int p0])).length) Slot.unset).toArray = ls at hl ⊢
  have hl : lv_has ls 2 [(0, .ref x0), (1, .int p0)] := hl
  refine lv_aload_n hx hb dX6_append_0 rfl (lv_at hl 0 rfl) ?_
  refine va_get (D := D) (ci := 6) (v := .int (nI tz)) (C := RX6) (T := TX6) (N := 6) hx hb hts inX6 hown hK hP 0 rfl rfl 1 (by decide) (hts _ tw_110) (fun _ h9 => h9) rfl dX6_append_1 ?_
  refine lv_sipush (v := 240) hx hb dX6_append_4 (by decide) ?_
  refine lv_icmp_ge (tgt := 30) hx hb dX6_append_7 (by decide) (fun c_1 => ?_) (fun c_1 => ?_)
  · have c_1 := (nI_leI (a := 240) (b := tz) (by omega) (by omega)).mp c_1
    have hP9 := hP.sub (ws' := [(x0, .inr (6, (fX6 x1 (nI tz) ta na fn fb))), (aB k x1 240 fx)]) [0, 1] rfl
    have hD9 := hD.sub (ws' := [(x0, .inr (6, (fX6 x1 (nI tz) ta na fn fb))), (aB k x1 240 fx)]) [0, 1] (by decide) rfl
    exact W.vret hx hb hr (fun t ht hW => ⟨⟨(tz, fx), rfl, ⟨by omega, by omega⟩, by rw [ht]; exact hP9, hD9⟩, hS.F ht⟩) hS.2.2 dX6_append_30
  · have c_1 : ¬ (240 ≤ tz) := fun h => c_1 ((nI_leI (a := 240) (b := tz) (by omega) (by omega)).mpr h)
    refine lv_aload_n hx hb dX6_append_10 rfl (lv_at hl 0 rfl) ?_
    refine va_get (D := D) (ci := 6) (v := .ref x1) (C := RX6) (T := TX6) (N := 6) hx hb hts inX6 hown hK hP 0 rfl rfl 0 (by decide) (hts _ tw_109) (fun _ h9 => h9) rfl dX6_append_11 ?_
    refine lv_aload_n hx hb dX6_append_14 rfl (lv_at hl 0 rfl) ?_
    refine va_get (D := D) (ci := 6) (v := .int (nI tz)) (C := RX6) (T := TX6) (N := 6) hx hb hts inX6 hown hK hP 0 rfl rfl 1 (by decide) (hts _ tw_110) (fun _ h9 => h9) rfl dX6_append_15 ?_
    refine lv_iload_n hx hb dX6_append_18 rfl (lv_at hl 1 rfl) ?_
    refine va_bast hx hb hK hP hD hS 1 0 rfl rfl (vp_in_nI (by omega) (by decide)) dX6_append_19 (fun H locs hP hD hS => ?_)
    replace hP : va_P D classes [(x0, .inr (6, (fX6 x1 (nI tz) ta na fn fb))), (aB k x1 240 (upd fx (Int32.toNatClampNeg (nI tz)) (vp_nar .byte p0)))] H := hP
    replace hD : va_D A [(x0, .inr (6, (fX6 x1 (nI tz) ta na fn fb))), (aB k x1 240 (upd fx (Int32.toNatClampNeg (nI tz)) (vp_nar .byte p0)))] := hD
    generalize (upd fx (Int32.toNatClampNeg (nI tz)) (vp_nar .byte p0)) = f_2 at hP hD
    refine lv_aload_n hx hb dX6_append_20 rfl (lv_at hl 0 rfl) ?_
    refine lv_dup hx hb dX6_append_21 rfl ?_
    refine va_get (D := D) (ci := 6) (v := .int (nI tz)) (C := RX6) (T := TX6) (N := 6) hx hb hts inX6 hown hK hP 0 rfl rfl 1 (by decide) (hts _ tw_110) (fun _ h9 => h9) rfl dX6_append_22 ?_
    refine lv_iconst (v := 1) hx hb dX6_append_25 (by decide) ?_
    refine lv_iadd hx hb dX6_append_26 ?_
    refine lv_ti (y := (nI (tz + 1))) (nI_add tz 1) ?_
    refine va_put (D := D) (ci := 6) (v := .int (nI (tz + 1))) (ty := .int) (C := RX6) (T := TX6) (N := 6) hx hb hts inX6 tyX6 tyX6_ok nmX6 hown hK hP hD hS 0 rfl rfl 1 (by decide) (hts _ tw_110) (fun _ h9 => h9) rfl (by decide +kernel) rfl rfl (Nat.le_of_ble_eq_true rfl) dX6_append_27 (fun H locs hP hD hS => ?_)
    replace hP : va_P D classes [(x0, .inr (6, (fX6 x1 (nI (tz + 1)) ta na fn fb))), (aB k x1 240 f_2)] H := hP
    replace hD : va_D A [(x0, .inr (6, (fX6 x1 (nI (tz + 1)) ta na fn fb))), (aB k x1 240 f_2)] := hD
    have hP9 := hP.sub (ws' := [(x0, .inr (6, (fX6 x1 (nI (tz + 1)) ta na fn fb))), (aB k x1 240 f_2)]) [0, 1] rfl
    have hD9 := hD.sub (ws' := [(x0, .inr (6, (fX6 x1 (nI (tz + 1)) ta na fn fb))), (aB k x1 240 f_2)]) [0, 1] (by decide) rfl
    exact W.vret hx hb hr (fun t ht hW => ⟨⟨((tz + 1), f_2), rfl, ⟨by omega, by omega⟩, by rw [ht]; exact hP9, hD9⟩, hS.F ht⟩) hS.2.2 dX6_append_30

theorem dX6_rewind_0 : decode cX6_rewind 0 = .ok (.aload_n 0, 1) := by decide +kernel
theorem dX6_rewind_1 : decode cX6_rewind 1 = .ok (.iconst 0, 1) := by decide +kernel
theorem dX6_rewind_2 : decode cX6_rewind 2 = .ok (.putfield 19, 3) := by decide +kernel
theorem dX6_rewind_5 : decode cX6_rewind 5 = .ok (.aload_n 0, 1) := by decide +kernel
theorem dX6_rewind_6 : decode cX6_rewind 6 = .ok (.iconst 0, 1) := by decide +kernel
theorem dX6_rewind_7 : decode cX6_rewind 7 = .ok (.putfield 22, 3) := by decide +kernel
theorem dX6_rewind_10 : decode cX6_rewind 10 = .ok (.aload_n 0, 1) := by decide +kernel
theorem dX6_rewind_11 : decode cX6_rewind 11 = .ok (.iconst 0, 1) := by decide +kernel
theorem dX6_rewind_12 : decode cX6_rewind 12 = .ok (.putfield 25, 3) := by decide +kernel
theorem dX6_rewind_15 : decode cX6_rewind 15 = .ok (.aload_n 0, 1) := by decide +kernel
theorem dX6_rewind_16 : decode cX6_rewind 16 = .ok (.iconst 0, 1) := by decide +kernel
theorem dX6_rewind_17 : decode cX6_rewind 17 = .ok (.putfield 28, 3) := by decide +kernel
theorem dX6_rewind_20 : decode cX6_rewind 20 = .ok (.return_, 1) := by decide +kernel
set_option maxHeartbeats 4000000 in
set_option maxRecDepth 100000 in
theorem x_rewind (l : Launch) (D : va_G) (k : Nat → ClassId) (st : Nat → Nat) (lo : Nat) (x0 : Nat) (x1 : Nat) (tz : Nat) (ta : Int32) (na : Int32) (fn : Int32) (fb : Int32) (fx : Nat → Int32)  : CWv l D k st lo yX6_rewind cX6_rewind 1 none ({ frames := 0, cells := 0, slots := 0, locals := 0 }) 0 0 [.ref x0] [(x0, .inr (6, (fX6 x1 (nI tz) ta na fn fb))), (aB k x1 240 fx)] (fun (u : Int32 × Int32 × Int32 × Int32) => match u with | (ta_, na_, fn_, fb_) => ta_ = 0 ∧ fn_ = 0) (fun (u : Int32 × Int32 × Int32 × Int32) => match u with | (ta_, na_, fn_, fb_) => [(x0, .inr (6, (fX6 x1 (nI tz) ta_ na_ fn_ fb_))), (aB k x1 240 fx)]) := by
  intro sz
  refine Met.ofW (cc := cX6_rewind) (maxL := 1) (ret := none) (by decide) rfl ?_
  intro p e s m args below meth c s₁ B hml hv
  obtain ⟨rfl, hsz, hlo, hP, hK, hDL, hZ⟩ := hv
  have hx := B.exec
  have hb := B.bytes
  have hr := B.returns
  have hts := WS_ts B.pre
  have hown : s.vm.findClass RX6 = some m.cls := findClass_of_methodNamed B.named
  have hlocks := B.notSynchronized
  subst hsz
  have hD := hDL.self (sz := s.heap.size)
  have hAlo := A_lo hDL hlo
  generalize hAe : va_A [(x0, .inr (6, (fX6 x1 (nI tz) ta na fn fb))), (aB k x1 240 fx)] s.heap.size = A at hD hAlo ⊢
  have hA : ∀ q : Nat, s.heap.size ≤ q → A q := fun q h => by rw [← hAe]; exact Or.inr h
  have hS : va_S A s.heap s.heap [] := va_S.rf
  have hl := lv_entry ([.ref x0]) (n := 1) (Nat.le_of_ble_eq_true rfl)
  rw [lg_entry_eq]
  generalize (lg_sl ([.ref x0]) ++ List.replicate (1 - (lg_sl ([.ref x0])).length) Slot.unset).toArray = ls at hl ⊢
  have hl : lv_has ls 1 [(0, .ref x0)] := hl
  refine lv_aload_n hx hb dX6_rewind_0 rfl (lv_at hl 0 rfl) ?_
  refine lv_iconst (v := 0) hx hb dX6_rewind_1 (by decide) ?_
  refine va_put (D := D) (ci := 6) (v := .int 0) (ty := .int) (C := RX6) (T := TX6) (N := 6) hx hb hts inX6 tyX6 tyX6_ok nmX6 hown hK hP hD hS 0 rfl rfl 2 (by decide) (hts _ tw_113) (fun _ h9 => h9) rfl (by decide +kernel) rfl rfl (Nat.le_of_ble_eq_true rfl) dX6_rewind_2 (fun H locs hP hD hS => ?_)
  replace hP : va_P D classes [(x0, .inr (6, (fX6 x1 (nI tz) 0 na fn fb))), (aB k x1 240 fx)] H := hP
  replace hD : va_D A [(x0, .inr (6, (fX6 x1 (nI tz) 0 na fn fb))), (aB k x1 240 fx)] := hD
  refine lv_aload_n hx hb dX6_rewind_5 rfl (lv_at hl 0 rfl) ?_
  refine lv_iconst (v := 0) hx hb dX6_rewind_6 (by decide) ?_
  refine va_put (D := D) (ci := 6) (v := .int 0) (ty := .int) (C := RX6) (T := TX6) (N := 6) hx hb hts inX6 tyX6 tyX6_ok nmX6 hown hK hP hD hS 0 rfl rfl 3 (by decide) (hts _ tw_116) (fun _ h9 => h9) rfl (by decide +kernel) rfl rfl (Nat.le_of_ble_eq_true rfl) dX6_rewind_7 (fun H locs hP hD hS => ?_)
  replace hP : va_P D classes [(x0, .inr (6, (fX6 x1 (nI tz) 0 0 fn fb))), (aB k x1 240 fx)] H := hP
  replace hD : va_D A [(x0, .inr (6, (fX6 x1 (nI tz) 0 0 fn fb))), (aB k x1 240 fx)] := hD
  refine lv_aload_n hx hb dX6_rewind_10 rfl (lv_at hl 0 rfl) ?_
  refine lv_iconst (v := 0) hx hb dX6_rewind_11 (by decide) ?_
  refine va_put (D := D) (ci := 6) (v := .int 0) (ty := .int) (C := RX6) (T := TX6) (N := 6) hx hb hts inX6 tyX6 tyX6_ok nmX6 hown hK hP hD hS 0 rfl rfl 4 (by decide) (hts _ tw_119) (fun _ h9 => h9) rfl (by decide +kernel) rfl rfl (Nat.le_of_ble_eq_true rfl) dX6_rewind_12 (fun H locs hP hD hS => ?_)
  replace hP : va_P D classes [(x0, .inr (6, (fX6 x1 (nI tz) 0 0 0 fb))), (aB k x1 240 fx)] H := hP
  replace hD : va_D A [(x0, .inr (6, (fX6 x1 (nI tz) 0 0 0 fb))), (aB k x1 240 fx)] := hD
  refine lv_aload_n hx hb dX6_rewind_15 rfl (lv_at hl 0 rfl) ?_
  refine lv_iconst (v := 0) hx hb dX6_rewind_16 (by decide) ?_
  refine va_put (D := D) (ci := 6) (v := .int 0) (ty := .int) (C := RX6) (T := TX6) (N := 6) hx hb hts inX6 tyX6 tyX6_ok nmX6 hown hK hP hD hS 0 rfl rfl 5 (by decide) (hts _ tw_121) (fun _ h9 => h9) rfl (by decide +kernel) rfl rfl (Nat.le_of_ble_eq_true rfl) dX6_rewind_17 (fun H locs hP hD hS => ?_)
  replace hP : va_P D classes [(x0, .inr (6, (fX6 x1 (nI tz) 0 0 0 0))), (aB k x1 240 fx)] H := hP
  replace hD : va_D A [(x0, .inr (6, (fX6 x1 (nI tz) 0 0 0 0))), (aB k x1 240 fx)] := hD
  have hP9 := hP.sub (ws' := [(x0, .inr (6, (fX6 x1 (nI tz) 0 0 0 0))), (aB k x1 240 fx)]) [0, 1] rfl
  have hD9 := hD.sub (ws' := [(x0, .inr (6, (fX6 x1 (nI tz) 0 0 0 0))), (aB k x1 240 fx)]) [0, 1] (by decide) rfl
  exact W.vret hx hb hr (fun t ht hW => ⟨⟨(0, 0, 0, 0), rfl, ⟨rfl, rfl⟩, by rw [ht]; exact hP9, hD9⟩, hS.F ht⟩) hS.2.2 dX6_rewind_20

theorem dX6_failed_0 : decode cX6_failed 0 = .ok (.aload_n 0, 1) := by decide +kernel
theorem dX6_failed_1 : decode cX6_failed 1 = .ok (.getfield 25, 3) := by decide +kernel
theorem dX6_failed_4 : decode cX6_failed 4 = .ok (.ifCond .eq 7, 3) := by decide +kernel
theorem dX6_failed_7 : decode cX6_failed 7 = .ok (.iconst 1, 1) := by decide +kernel
theorem dX6_failed_8 : decode cX6_failed 8 = .ok (.goto 4, 3) := by decide +kernel
theorem dX6_failed_11 : decode cX6_failed 11 = .ok (.iconst 0, 1) := by decide +kernel
theorem dX6_failed_12 : decode cX6_failed 12 = .ok (.ireturn, 1) := by decide +kernel
set_option maxHeartbeats 4000000 in
set_option maxRecDepth 100000 in
theorem x_failed (l : Launch) (D : va_G) (k : Nat → ClassId) (st : Nat → Nat) (lo : Nat) (x0 : Nat) (x1 : Nat) (tz : Nat) (ta : Nat) (na : Int32) (fn : Int32) (fb : Int32)  : CRi l D k st lo yX6_failed cX6_failed 1 (some .boolean) ({ frames := 0, cells := 0, slots := 0, locals := 0 }) [.ref x0] [(x0, .inr (6, (fX6 x1 (nI tz) (nI ta) na fn fb)))] (fun r => (r = 1 ∧ ¬ fn = 0) ∨ (r = 0 ∧ fn = 0)) := by
  intro sz
  refine Met.ofW (cc := cX6_failed) (maxL := 1) (ret := (some .boolean)) (by decide) rfl ?_
  intro p e s m args below meth c s₁ B hml hv
  obtain ⟨rfl, hsz, hlo, hP, hK, hDL, hZ⟩ := hv
  have hx := B.exec
  have hb := B.bytes
  have hr := B.returns
  have hts := WS_ts B.pre
  have hown : s.vm.findClass RX6 = some m.cls := findClass_of_methodNamed B.named
  have hlocks := B.notSynchronized
  subst hsz
  have hA : ∀ q : Nat, s.heap.size ≤ q → (fun q : Nat => s.heap.size ≤ q) q := fun _ h => h
  have hAlo : ∀ q : Nat, (fun q : Nat => s.heap.size ≤ q) q → lo ≤ q := fun q h => Nat.le_trans hlo h
  have hS : va_S (fun q : Nat => s.heap.size ≤ q) s.heap s.heap [] := va_S.rf
  have hl := lv_entry ([.ref x0]) (n := 1) (Nat.le_of_ble_eq_true rfl)
  rw [lg_entry_eq]
  generalize (lg_sl ([.ref x0]) ++ List.replicate (1 - (lg_sl ([.ref x0])).length) Slot.unset).toArray = ls at hl ⊢
  have hl : lv_has ls 1 [(0, .ref x0)] := hl
  refine lv_aload_n hx hb dX6_failed_0 rfl (lv_at hl 0 rfl) ?_
  refine va_get (D := D) (ci := 6) (v := .int fn) (C := RX6) (T := TX6) (N := 6) hx hb hts inX6 hown hK hP 0 rfl rfl 4 (by decide) (hts _ tw_119) (fun _ h9 => h9) rfl dX6_failed_1 ?_
  refine lv_if_eq (tgt := 11) hx hb dX6_failed_4 (by decide) (fun c_1 => ?_) (fun c_1 => ?_)
  · refine lv_iconst (v := 0) hx hb dX6_failed_11 (by decide) ?_
    exact W.zret (v := 0) (ty := .boolean) hx hb hr rfl (fun t ht hW => ⟨⟨0, (), rfl, .inr ⟨rfl, c_1⟩, trivial⟩, hS.F ht⟩) hS.2.2 dX6_failed_12
  · refine lv_iconst (v := 1) hx hb dX6_failed_7 (by decide) ?_
    refine lv_goto (tgt := 12) hx hb dX6_failed_8 (by decide) ?_
    exact W.zret (v := 1) (ty := .boolean) hx hb hr rfl (fun t ht hW => ⟨⟨1, (), rfl, .inl ⟨rfl, c_1⟩, trivial⟩, hS.F ht⟩) hS.2.2 dX6_failed_12


set_option maxHeartbeats 4000000 in
set_option maxRecDepth 100000 in
theorem x_failed_r (l : Launch) (D : va_G) (k : Nat → ClassId) (st : Nat → Nat) (lo : Nat) (x0 : Nat) (x1 : Nat) (tz : Nat) (ta : Int32) (na : Int32) (fn : Int32) (fb : Int32)  : CRi l D k st lo yX6_failed cX6_failed 1 (some .boolean) ({ frames := 0, cells := 0, slots := 0, locals := 0 }) [.ref x0] [(x0, .inr (6, (fX6 x1 (nI tz) ta na fn fb)))] (fun r => (r = 1 ∧ ¬ fn = 0) ∨ (r = 0 ∧ fn = 0)) := by
  intro sz
  refine Met.ofW (cc := cX6_failed) (maxL := 1) (ret := (some .boolean)) (by decide) rfl ?_
  intro p e s m args below meth c s₁ B hml hv
  obtain ⟨rfl, hsz, hlo, hP, hK, hDL, hZ⟩ := hv
  have hx := B.exec
  have hb := B.bytes
  have hr := B.returns
  have hts := WS_ts B.pre
  have hown : s.vm.findClass RX6 = some m.cls := findClass_of_methodNamed B.named
  have hlocks := B.notSynchronized
  subst hsz
  have hA : ∀ q : Nat, s.heap.size ≤ q → (fun q : Nat => s.heap.size ≤ q) q := fun _ h => h
  have hAlo : ∀ q : Nat, (fun q : Nat => s.heap.size ≤ q) q → lo ≤ q := fun q h => Nat.le_trans hlo h
  have hS : va_S (fun q : Nat => s.heap.size ≤ q) s.heap s.heap [] := va_S.rf
  have hl := lv_entry ([.ref x0]) (n := 1) (Nat.le_of_ble_eq_true rfl)
  rw [lg_entry_eq]
  generalize (lg_sl ([.ref x0]) ++ List.replicate (1 - (lg_sl ([.ref x0])).length) Slot.unset).toArray = ls at hl ⊢
  have hl : lv_has ls 1 [(0, .ref x0)] := hl
  refine lv_aload_n hx hb dX6_failed_0 rfl (lv_at hl 0 rfl) ?_
  refine va_get (D := D) (ci := 6) (v := .int fn) (C := RX6) (T := TX6) (N := 6) hx hb hts inX6 hown hK hP 0 rfl rfl 4 (by decide) (hts _ tw_119) (fun _ h9 => h9) rfl dX6_failed_1 ?_
  refine lv_if_eq (tgt := 11) hx hb dX6_failed_4 (by decide) (fun c_1 => ?_) (fun c_1 => ?_)
  · refine lv_iconst (v := 0) hx hb dX6_failed_11 (by decide) ?_
    exact W.zret (v := 0) (ty := .boolean) hx hb hr rfl (fun t ht hW => ⟨⟨0, (), rfl, .inr ⟨rfl, c_1⟩, trivial⟩, hS.F ht⟩) hS.2.2 dX6_failed_12
  · refine lv_iconst (v := 1) hx hb dX6_failed_7 (by decide) ?_
    refine lv_goto (tgt := 12) hx hb dX6_failed_8 (by decide) ?_
    exact W.zret (v := 1) (ty := .boolean) hx hb hr rfl (fun t ht hW => ⟨⟨1, (), rfl, .inl ⟨rfl, c_1⟩, trivial⟩, hS.F ht⟩) hS.2.2 dX6_failed_12

theorem dX6_fail_0 : decode cX6_fail 0 = .ok (.aload_n 0, 1) := by decide +kernel
theorem dX6_fail_1 : decode cX6_fail 1 = .ok (.getfield 25, 3) := by decide +kernel
theorem dX6_fail_4 : decode cX6_fail 4 = .ok (.ifCond .ne 13, 3) := by decide +kernel
theorem dX6_fail_7 : decode cX6_fail 7 = .ok (.aload_n 0, 1) := by decide +kernel
theorem dX6_fail_8 : decode cX6_fail 8 = .ok (.iload_n 1, 1) := by decide +kernel
theorem dX6_fail_9 : decode cX6_fail 9 = .ok (.putfield 25, 3) := by decide +kernel
theorem dX6_fail_12 : decode cX6_fail 12 = .ok (.aload_n 0, 1) := by decide +kernel
theorem dX6_fail_13 : decode cX6_fail 13 = .ok (.iload_n 2, 1) := by decide +kernel
theorem dX6_fail_14 : decode cX6_fail 14 = .ok (.putfield 28, 3) := by decide +kernel
theorem dX6_fail_17 : decode cX6_fail 17 = .ok (.return_, 1) := by decide +kernel
set_option maxHeartbeats 4000000 in
set_option maxRecDepth 100000 in
theorem x_fail (l : Launch) (D : va_G) (k : Nat → ClassId) (st : Nat → Nat) (lo : Nat) (x0 : Nat) (x1 : Nat) (tz : Nat) (ta : Nat) (na : Int32) (fn : Int32) (fb : Int32) (p0 : Int32) (p1 : Int32) (hp0 : ¬ p0 = 0) : CWv l D k st lo yX6_fail cX6_fail 3 none ({ frames := 0, cells := 0, slots := 0, locals := 0 }) 0 0 [.ref x0, .int p0, .int p1] [(x0, .inr (6, (fX6 x1 (nI tz) (nI ta) na fn fb)))] (fun (u : Int32 × Int32) => match u with | (fn_, fb_) => ¬ fn_ = 0) (fun (u : Int32 × Int32) => match u with | (fn_, fb_) => [(x0, .inr (6, (fX6 x1 (nI tz) (nI ta) na fn_ fb_)))]) := by
  intro sz
  refine Met.ofW (cc := cX6_fail) (maxL := 3) (ret := none) (by decide) rfl ?_
  intro p e s m args below meth c s₁ B hml hv
  obtain ⟨rfl, hsz, hlo, hP, hK, hDL, hZ⟩ := hv
  have hx := B.exec
  have hb := B.bytes
  have hr := B.returns
  have hts := WS_ts B.pre
  have hown : s.vm.findClass RX6 = some m.cls := findClass_of_methodNamed B.named
  have hlocks := B.notSynchronized
  subst hsz
  have hD := hDL.self (sz := s.heap.size)
  have hAlo := A_lo hDL hlo
  generalize hAe : va_A [(x0, .inr (6, (fX6 x1 (nI tz) (nI ta) na fn fb)))] s.heap.size = A at hD hAlo ⊢
  have hA : ∀ q : Nat, s.heap.size ≤ q → A q := fun q h => by rw [← hAe]; exact Or.inr h
  have hS : va_S A s.heap s.heap [] := va_S.rf
  have hl := lv_entry ([.ref x0, .int p0, .int p1]) (n := 3) (Nat.le_of_ble_eq_true rfl)
  rw [lg_entry_eq]
  generalize (lg_sl ([.ref x0, .int p0, .int p1]) ++ List.replicate (3 - (lg_sl ([.ref x0, .int p0, .int p1])).length) Slot.unset).toArray = ls at hl ⊢
  have hl : lv_has ls 3 [(0, .ref x0), (1, .int p0), (2, .int p1)] := hl
  refine lv_aload_n hx hb dX6_fail_0 rfl (lv_at hl 0 rfl) ?_
  refine va_get (D := D) (ci := 6) (v := .int fn) (C := RX6) (T := TX6) (N := 6) hx hb hts inX6 hown hK hP 0 rfl rfl 4 (by decide) (hts _ tw_119) (fun _ h9 => h9) rfl dX6_fail_1 ?_
  refine lv_if_ne (tgt := 17) hx hb dX6_fail_4 (by decide) (fun c_1 => ?_) (fun c_1 => ?_)
  · have hP9 := hP.sub (ws' := [(x0, .inr (6, (fX6 x1 (nI tz) (nI ta) na fn fb)))]) [0] rfl
    have hD9 := hD.sub (ws' := [(x0, .inr (6, (fX6 x1 (nI tz) (nI ta) na fn fb)))]) [0] (by decide) rfl
    exact W.vret hx hb hr (fun t ht hW => ⟨⟨(fn, fb), rfl, c_1, by rw [ht]; exact hP9, hD9⟩, hS.F ht⟩) hS.2.2 dX6_fail_17
  · refine lv_aload_n hx hb dX6_fail_7 rfl (lv_at hl 0 rfl) ?_
    refine lv_iload_n hx hb dX6_fail_8 rfl (lv_at hl 1 rfl) ?_
    refine va_put (D := D) (ci := 6) (v := .int p0) (ty := .int) (C := RX6) (T := TX6) (N := 6) hx hb hts inX6 tyX6 tyX6_ok nmX6 hown hK hP hD hS 0 rfl rfl 4 (by decide) (hts _ tw_119) (fun _ h9 => h9) rfl (by decide +kernel) rfl rfl (Nat.le_of_ble_eq_true rfl) dX6_fail_9 (fun H locs hP hD hS => ?_)
    replace hP : va_P D classes [(x0, .inr (6, (fX6 x1 (nI tz) (nI ta) na p0 fb)))] H := hP
    replace hD : va_D A [(x0, .inr (6, (fX6 x1 (nI tz) (nI ta) na p0 fb)))] := hD
    refine lv_aload_n hx hb dX6_fail_12 rfl (lv_at hl 0 rfl) ?_
    refine lv_iload_n hx hb dX6_fail_13 rfl (lv_at hl 2 rfl) ?_
    refine va_put (D := D) (ci := 6) (v := .int p1) (ty := .int) (C := RX6) (T := TX6) (N := 6) hx hb hts inX6 tyX6 tyX6_ok nmX6 hown hK hP hD hS 0 rfl rfl 5 (by decide) (hts _ tw_121) (fun _ h9 => h9) rfl (by decide +kernel) rfl rfl (Nat.le_of_ble_eq_true rfl) dX6_fail_14 (fun H locs hP hD hS => ?_)
    replace hP : va_P D classes [(x0, .inr (6, (fX6 x1 (nI tz) (nI ta) na p0 p1)))] H := hP
    replace hD : va_D A [(x0, .inr (6, (fX6 x1 (nI tz) (nI ta) na p0 p1)))] := hD
    have hP9 := hP.sub (ws' := [(x0, .inr (6, (fX6 x1 (nI tz) (nI ta) na p0 p1)))]) [0] rfl
    have hD9 := hD.sub (ws' := [(x0, .inr (6, (fX6 x1 (nI tz) (nI ta) na p0 p1)))]) [0] (by decide) rfl
    exact W.vret hx hb hr (fun t ht hW => ⟨⟨(p0, p1), rfl, hp0, by rw [ht]; exact hP9, hD9⟩, hS.F ht⟩) hS.2.2 dX6_fail_17

theorem dX6_byteAt_0 : decode cX6_byteAt 0 = .ok (.iload_n 1, 1) := by decide +kernel
theorem dX6_byteAt_1 : decode cX6_byteAt 1 = .ok (.ifCond .lt 24, 3) := by decide +kernel
theorem dX6_byteAt_4 : decode cX6_byteAt 4 = .ok (.iload_n 1, 1) := by decide +kernel
theorem dX6_byteAt_5 : decode cX6_byteAt 5 = .ok (.aload_n 0, 1) := by decide +kernel
theorem dX6_byteAt_6 : decode cX6_byteAt 6 = .ok (.getfield 15, 3) := by decide +kernel
theorem dX6_byteAt_9 : decode cX6_byteAt 9 = .ok (.if_icmp .ge 16, 3) := by decide +kernel
theorem dX6_byteAt_12 : decode cX6_byteAt 12 = .ok (.aload_n 0, 1) := by decide +kernel
theorem dX6_byteAt_13 : decode cX6_byteAt 13 = .ok (.getfield 9, 3) := by decide +kernel
theorem dX6_byteAt_16 : decode cX6_byteAt 16 = .ok (.iload_n 1, 1) := by decide +kernel
theorem dX6_byteAt_17 : decode cX6_byteAt 17 = .ok (.baload, 1) := by decide +kernel
theorem dX6_byteAt_18 : decode cX6_byteAt 18 = .ok (.sipush 255, 3) := by decide +kernel
theorem dX6_byteAt_21 : decode cX6_byteAt 21 = .ok (.iand, 1) := by decide +kernel
theorem dX6_byteAt_22 : decode cX6_byteAt 22 = .ok (.goto 4, 3) := by decide +kernel
theorem dX6_byteAt_25 : decode cX6_byteAt 25 = .ok (.iconst (-1), 1) := by decide +kernel
theorem dX6_byteAt_26 : decode cX6_byteAt 26 = .ok (.ireturn, 1) := by decide +kernel
set_option maxHeartbeats 4000000 in
set_option maxRecDepth 100000 in
theorem x_byteAt (l : Launch) (D : va_G) (k : Nat → ClassId) (st : Nat → Nat) (lo : Nat) (x0 : Nat) (x1 : Nat) (tz : Nat) (ta : Nat) (na : Int32) (fn : Int32) (fb : Int32) (fx : Nat → Int32) (i : Nat) (hz : tz ≤ 240) (hi : i < 2 ^ 31) : CRi l D k st lo yX6_byteAt cX6_byteAt 2 (some .int) ({ frames := 0, cells := 0, slots := 0, locals := 0 }) [.ref x0, .int (nI i)] [(x0, .inr (6, (fX6 x1 (nI tz) (nI ta) na fn fb))), (aB k x1 240 fx)] (fun r => r = -1 ∨ i < tz) := by
  intro sz
  refine Met.ofW (cc := cX6_byteAt) (maxL := 2) (ret := (some .int)) (by decide) rfl ?_
  intro p e s m args below meth c s₁ B hml hv
  obtain ⟨rfl, hsz, hlo, hP, hK, hDL, hZ⟩ := hv
  have hx := B.exec
  have hb := B.bytes
  have hr := B.returns
  have hts := WS_ts B.pre
  have hown : s.vm.findClass RX6 = some m.cls := findClass_of_methodNamed B.named
  have hlocks := B.notSynchronized
  subst hsz
  have hA : ∀ q : Nat, s.heap.size ≤ q → (fun q : Nat => s.heap.size ≤ q) q := fun _ h => h
  have hAlo : ∀ q : Nat, (fun q : Nat => s.heap.size ≤ q) q → lo ≤ q := fun q h => Nat.le_trans hlo h
  have hS : va_S (fun q : Nat => s.heap.size ≤ q) s.heap s.heap [] := va_S.rf
  have hl := lv_entry ([.ref x0, .int (nI i)]) (n := 2) (Nat.le_of_ble_eq_true rfl)
  rw [lg_entry_eq]
  generalize (lg_sl ([.ref x0, .int (nI i)]) ++ List.replicate (2 - (lg_sl ([.ref x0, .int (nI i)])).length) Slot.unset).toArray = ls at hl ⊢
  have hl : lv_has ls 2 [(0, .ref x0), (1, .int (nI i))] := hl
  refine lv_iload_n hx hb dX6_byteAt_0 rfl (lv_at hl 1 rfl) ?_
  refine lv_if_lt (tgt := 25) hx hb dX6_byteAt_1 (by decide) (fun h => absurd h (nI_pos0 (by omega))) (fun _ => ?_)
  refine lv_iload_n hx hb dX6_byteAt_4 rfl (lv_at hl 1 rfl) ?_
  refine lv_aload_n hx hb dX6_byteAt_5 rfl (lv_at hl 0 rfl) ?_
  refine va_get (D := D) (ci := 6) (v := .int (nI tz)) (C := RX6) (T := TX6) (N := 6) hx hb hts inX6 hown hK hP 0 rfl rfl 1 (by decide) (hts _ tw_110) (fun _ h9 => h9) rfl dX6_byteAt_6 ?_
  refine lv_icmp_ge (tgt := 25) hx hb dX6_byteAt_9 (by decide) (fun c_1 => ?_) (fun c_1 => ?_)
  · have c_1 := (nI_leI (a := tz) (b := i) (by omega) (by omega)).mp c_1
    refine lv_iconst (v := (-1)) hx hb dX6_byteAt_25 (by decide) ?_
    exact W.iret (v := (-1)) hx hb hr (fun t ht hW => ⟨⟨(-1), (), rfl, .inl rfl, trivial⟩, hS.F ht⟩) hS.2.2 dX6_byteAt_26
  · have c_1 : ¬ (tz ≤ i) := fun h => c_1 ((nI_leI (a := tz) (b := i) (by omega) (by omega)).mpr h)
    refine lv_aload_n hx hb dX6_byteAt_12 rfl (lv_at hl 0 rfl) ?_
    refine va_get (D := D) (ci := 6) (v := .ref x1) (C := RX6) (T := TX6) (N := 6) hx hb hts inX6 hown hK hP 0 rfl rfl 0 (by decide) (hts _ tw_109) (fun _ h9 => h9) rfl dX6_byteAt_13 ?_
    refine lv_iload_n hx hb dX6_byteAt_16 rfl (lv_at hl 1 rfl) ?_
    refine va_bald hx hb hK hP 1 0 rfl rfl (vp_in_nI (by omega) (by decide)) dX6_byteAt_17 ?_
    refine lv_ti (y := (fx i)) (by rw [nI_clamp (by omega)]) ?_
    refine lv_sipush (v := 255) hx hb dX6_byteAt_18 (by decide) ?_
    refine lv_iand hx hb dX6_byteAt_21 ?_
    refine lv_topi (fun x_2 ex_2 => ?_)
    refine lv_goto (tgt := 26) hx hb dX6_byteAt_22 (by decide) ?_
    exact W.iret (v := x_2) hx hb hr (fun t ht hW => ⟨⟨x_2, (), rfl, .inr (by omega), trivial⟩, hS.F ht⟩) hS.2.2 dX6_byteAt_26

theorem dX6_skipBlanks_0 : decode cX6_skipBlanks 0 = .ok (.aload_n 0, 1) := by decide +kernel
theorem dX6_skipBlanks_1 : decode cX6_skipBlanks 1 = .ok (.getfield 19, 3) := by decide +kernel
theorem dX6_skipBlanks_4 : decode cX6_skipBlanks 4 = .ok (.aload_n 0, 1) := by decide +kernel
theorem dX6_skipBlanks_5 : decode cX6_skipBlanks 5 = .ok (.getfield 15, 3) := by decide +kernel
theorem dX6_skipBlanks_8 : decode cX6_skipBlanks 8 = .ok (.if_icmp .ge 29, 3) := by decide +kernel
theorem dX6_skipBlanks_11 : decode cX6_skipBlanks 11 = .ok (.aload_n 0, 1) := by decide +kernel
theorem dX6_skipBlanks_12 : decode cX6_skipBlanks 12 = .ok (.aload_n 0, 1) := by decide +kernel
theorem dX6_skipBlanks_13 : decode cX6_skipBlanks 13 = .ok (.getfield 19, 3) := by decide +kernel
theorem dX6_skipBlanks_16 : decode cX6_skipBlanks 16 = .ok (.invokevirtual 31, 3) := by decide +kernel
theorem dX6_skipBlanks_19 : decode cX6_skipBlanks 19 = .ok (.bipush 32, 2) := by decide +kernel
theorem dX6_skipBlanks_21 : decode cX6_skipBlanks 21 = .ok (.if_icmp .ne 16, 3) := by decide +kernel
theorem dX6_skipBlanks_24 : decode cX6_skipBlanks 24 = .ok (.aload_n 0, 1) := by decide +kernel
theorem dX6_skipBlanks_25 : decode cX6_skipBlanks 25 = .ok (.dup, 1) := by decide +kernel
theorem dX6_skipBlanks_26 : decode cX6_skipBlanks 26 = .ok (.getfield 19, 3) := by decide +kernel
theorem dX6_skipBlanks_29 : decode cX6_skipBlanks 29 = .ok (.iconst 1, 1) := by decide +kernel
theorem dX6_skipBlanks_30 : decode cX6_skipBlanks 30 = .ok (.iadd, 1) := by decide +kernel
theorem dX6_skipBlanks_31 : decode cX6_skipBlanks 31 = .ok (.putfield 19, 3) := by decide +kernel
theorem dX6_skipBlanks_34 : decode cX6_skipBlanks 34 = .ok (.goto (-34), 3) := by decide +kernel
theorem dX6_skipBlanks_37 : decode cX6_skipBlanks 37 = .ok (.return_, 1) := by decide +kernel
set_option maxHeartbeats 4000000 in
set_option maxRecDepth 100000 in
theorem x_skip (l : Launch) (D : va_G) (k : Nat → ClassId) (st : Nat → Nat) (lo : Nat) (x0 : Nat) (x1 : Nat) (tz : Nat) (ta : Nat) (na : Int32) (fn : Int32) (fb : Int32) (fx : Nat → Int32) (ht : ta ≤ tz) (hz : tz ≤ 240) : CWv l D k st lo yX6_skipBlanks cX6_skipBlanks 1 none ({ frames := 1, cells := 0, slots := 0, locals := 21 }) 0 0 [.ref x0] [(x0, .inr (6, (fX6 x1 (nI tz) (nI ta) na fn fb))), (aB k x1 240 fx)] (fun (ta_ : Nat) => ta ≤ ta_ ∧ ta_ ≤ tz) (fun (ta_ : Nat) => [(x0, .inr (6, (fX6 x1 (nI tz) (nI ta_) na fn fb))), (aB k x1 240 fx)]) := by
  intro sz
  refine Met.ofW (cc := cX6_skipBlanks) (maxL := 1) (ret := none) (by decide) rfl ?_
  intro p e s m args below meth c s₁ B hml hv
  obtain ⟨rfl, hsz, hlo, hP, hK, hDL, hZ⟩ := hv
  have hx := B.exec
  have hb := B.bytes
  have hr := B.returns
  have hts := WS_ts B.pre
  have hown : s.vm.findClass RX6 = some m.cls := findClass_of_methodNamed B.named
  have hlocks := B.notSynchronized
  subst hsz
  have hD := hDL.self (sz := s.heap.size)
  have hAlo := A_lo hDL hlo
  generalize hAe : va_A [(x0, .inr (6, (fX6 x1 (nI tz) (nI ta) na fn fb))), (aB k x1 240 fx)] s.heap.size = A at hD hAlo ⊢
  have hA : ∀ q : Nat, s.heap.size ≤ q → A q := fun q h => by rw [← hAe]; exact Or.inr h
  have hS : va_S A s.heap s.heap [] := va_S.rf
  have hl := lv_entry ([.ref x0]) (n := 1) (Nat.le_of_ble_eq_true rfl)
  rw [lg_entry_eq]
  generalize (lg_sl ([.ref x0]) ++ List.replicate (1 - (lg_sl ([.ref x0])).length) Slot.unset).toArray = ls at hl ⊢
  have hl : lv_has ls 1 [(0, .ref x0)] := hl
  refine W_loop (σ := Nat) (fun (n_ : Nat) (t2_1 : Nat) (H : Heap) (locs : List Loc) (ls : Array Slot) => n_ = tz - t2_1 ∧ (ta ≤ t2_1 ∧ t2_1 ≤ tz) ∧ va_P D classes [(x0, .inr (6, (fX6 x1 (nI tz) (nI t2_1) na fn fb))), (aB k x1 240 fx)] H ∧ va_D A [(x0, .inr (6, (fX6 x1 (nI tz) (nI t2_1) na fn fb))), (aB k x1 240 fx)] ∧ va_S A s.heap H locs ∧ lv_has ls 1 [(0, .ref x0)]) (fun n_1 x_1 H locs ls hI ih_1 => ?_) _ ta ⟨rfl, ⟨by omega, by omega⟩, hP, hD, hS, (lv_sub hl [0] rfl)⟩
  obtain ⟨t2_1, rfl⟩ : ∃ z, z = x_1 := ⟨_, rfl⟩
  obtain ⟨hm_1, hv_1, hP, hD, hS, hl⟩ := hI
  subst hm_1
  refine lv_aload_n hx hb dX6_skipBlanks_0 rfl (lv_at hl 0 rfl) ?_
  refine va_get (D := D) (ci := 6) (v := .int (nI t2_1)) (C := RX6) (T := TX6) (N := 6) hx hb hts inX6 hown hK hP 0 rfl rfl 2 (by decide) (hts _ tw_113) (fun _ h9 => h9) rfl dX6_skipBlanks_1 ?_
  refine lv_aload_n hx hb dX6_skipBlanks_4 rfl (lv_at hl 0 rfl) ?_
  refine va_get (D := D) (ci := 6) (v := .int (nI tz)) (C := RX6) (T := TX6) (N := 6) hx hb hts inX6 hown hK hP 0 rfl rfl 1 (by decide) (hts _ tw_110) (fun _ h9 => h9) rfl dX6_skipBlanks_5 ?_
  refine lv_icmp_ge (tgt := 37) hx hb dX6_skipBlanks_8 (by decide) (fun c_2 => ?_) (fun c_2 => ?_)
  · have c_2 := (nI_leI (a := tz) (b := t2_1) (by omega) (by omega)).mp c_2
    have hP9 := hP.sub (ws' := [(x0, .inr (6, (fX6 x1 (nI tz) (nI t2_1) na fn fb))), (aB k x1 240 fx)]) [0, 1] rfl
    have hD9 := hD.sub (ws' := [(x0, .inr (6, (fX6 x1 (nI tz) (nI t2_1) na fn fb))), (aB k x1 240 fx)]) [0, 1] (by decide) rfl
    exact W.vret hx hb hr (fun t ht hW => ⟨⟨t2_1, rfl, ⟨by omega, by omega⟩, by rw [ht]; exact hP9, hD9⟩, hS.F ht⟩) hS.2.2 dX6_skipBlanks_37
  · have c_2 : ¬ (tz ≤ t2_1) := fun h => c_2 ((nI_leI (a := tz) (b := t2_1) (by omega) (by omega)).mpr h)
    refine lv_aload_n hx hb dX6_skipBlanks_11 rfl (lv_at hl 0 rfl) ?_
    refine lv_aload_n hx hb dX6_skipBlanks_12 rfl (lv_at hl 0 rfl) ?_
    refine va_get (D := D) (ci := 6) (v := .int (nI t2_1)) (C := RX6) (T := TX6) (N := 6) hx hb hts inX6 hown hK hP 0 rfl rfl 2 (by decide) (hts _ tw_113) (fun _ h9 => h9) rfl dX6_skipBlanks_13 ?_
    refine ro_i (D := D) (va_runV (As := [.int (nI t2_1)]) (rest := []) ⟨hx, hb, hml, hown, hts⟩ ((x_byteAt l D k st lo x0 x1 tz t2_1 na fn fb fx t2_1 (by omega) (by omega)) H.size) (cwV 1 hts (gV tw_379 tw_380 tw_381 tw_80 tw_382) rfl rfl rfl (by decide +kernel) ⟨Nat.le_of_ble_eq_true rfl, Nat.le_of_ble_eq_true rfl⟩) (pV hS hAlo hlo hP hK (va_Dlo hD hAlo) hZ [0, 1] (by decide) rfl (ci := 6) (q := (RX6, TX6, 6)) (q0 := 0) rfl rfl) rfl rfl hl.1 rfl (lv_room (Nat.le_of_ble_eq_true rfl)) dX6_skipBlanks_16 ⟨Nat.le_of_ble_eq_true rfl, Nat.le_of_ble_eq_true rfl⟩) hS hA hP (fun r_3 H locs hw_3 hP hS => ?_)
    try dsimp only at hw_3
    refine lv_bipush (v := 32) hx hb dX6_skipBlanks_19 (by decide) ?_
    refine lv_icmp_ne (tgt := 37) hx hb dX6_skipBlanks_21 (by decide) (fun c_4 => ?_) (fun c_4 => ?_)
    · have hP9 := hP.sub (ws' := [(x0, .inr (6, (fX6 x1 (nI tz) (nI t2_1) na fn fb))), (aB k x1 240 fx)]) [0, 1] rfl
      have hD9 := hD.sub (ws' := [(x0, .inr (6, (fX6 x1 (nI tz) (nI t2_1) na fn fb))), (aB k x1 240 fx)]) [0, 1] (by decide) rfl
      exact W.vret hx hb hr (fun t ht hW => ⟨⟨t2_1, rfl, ⟨by omega, by omega⟩, by rw [ht]; exact hP9, hD9⟩, hS.F ht⟩) hS.2.2 dX6_skipBlanks_37
    · refine lv_aload_n hx hb dX6_skipBlanks_24 rfl (lv_at hl 0 rfl) ?_
      refine lv_dup hx hb dX6_skipBlanks_25 rfl ?_
      refine va_get (D := D) (ci := 6) (v := .int (nI t2_1)) (C := RX6) (T := TX6) (N := 6) hx hb hts inX6 hown hK hP 0 rfl rfl 2 (by decide) (hts _ tw_113) (fun _ h9 => h9) rfl dX6_skipBlanks_26 ?_
      refine lv_iconst (v := 1) hx hb dX6_skipBlanks_29 (by decide) ?_
      refine lv_iadd hx hb dX6_skipBlanks_30 ?_
      refine lv_ti (y := (nI (t2_1 + 1))) (nI_add t2_1 1) ?_
      refine va_put (D := D) (ci := 6) (v := .int (nI (t2_1 + 1))) (ty := .int) (C := RX6) (T := TX6) (N := 6) hx hb hts inX6 tyX6 tyX6_ok nmX6 hown hK hP hD hS 0 rfl rfl 2 (by decide) (hts _ tw_113) (fun _ h9 => h9) rfl (by decide +kernel) rfl rfl (Nat.le_of_ble_eq_true rfl) dX6_skipBlanks_31 (fun H locs hP hD hS => ?_)
      replace hP : va_P D classes [(x0, .inr (6, (fX6 x1 (nI tz) (nI (t2_1 + 1)) na fn fb))), (aB k x1 240 fx)] H := hP
      replace hD : va_D A [(x0, .inr (6, (fX6 x1 (nI tz) (nI (t2_1 + 1)) na fn fb))), (aB k x1 240 fx)] := hD
      refine lv_goto (tgt := 0) hx hb dX6_skipBlanks_34 (by decide) ?_
      exact ih_1 _ (t2_1 + 1) _ _ _ (by omega) ⟨rfl, ⟨by omega, by omega⟩, hP, hD, hS, (lv_sub hl [0] rfl)⟩

theorem dX6_isAtEnd_0 : decode cX6_isAtEnd 0 = .ok (.aload_n 0, 1) := by decide +kernel
theorem dX6_isAtEnd_1 : decode cX6_isAtEnd 1 = .ok (.invokevirtual 35, 3) := by decide +kernel
theorem dX6_isAtEnd_4 : decode cX6_isAtEnd 4 = .ok (.aload_n 0, 1) := by decide +kernel
theorem dX6_isAtEnd_5 : decode cX6_isAtEnd 5 = .ok (.getfield 19, 3) := by decide +kernel
theorem dX6_isAtEnd_8 : decode cX6_isAtEnd 8 = .ok (.aload_n 0, 1) := by decide +kernel
theorem dX6_isAtEnd_9 : decode cX6_isAtEnd 9 = .ok (.getfield 15, 3) := by decide +kernel
theorem dX6_isAtEnd_12 : decode cX6_isAtEnd 12 = .ok (.if_icmp .lt 7, 3) := by decide +kernel
theorem dX6_isAtEnd_15 : decode cX6_isAtEnd 15 = .ok (.iconst 1, 1) := by decide +kernel
theorem dX6_isAtEnd_16 : decode cX6_isAtEnd 16 = .ok (.goto 4, 3) := by decide +kernel
theorem dX6_isAtEnd_19 : decode cX6_isAtEnd 19 = .ok (.iconst 0, 1) := by decide +kernel
theorem dX6_isAtEnd_20 : decode cX6_isAtEnd 20 = .ok (.ireturn, 1) := by decide +kernel
set_option maxHeartbeats 4000000 in
set_option maxRecDepth 100000 in
theorem x_isAtEnd (l : Launch) (D : va_G) (k : Nat → ClassId) (st : Nat → Nat) (lo : Nat) (x0 : Nat) (x1 : Nat) (tz : Nat) (ta : Nat) (na : Int32) (fn : Int32) (fb : Int32) (fx : Nat → Int32) (ht : ta ≤ tz) (hz : tz ≤ 240) : CWi l D k st lo yX6_isAtEnd cX6_isAtEnd 1 (some .boolean) ({ frames := 2, cells := 0, slots := 0, locals := 41 }) 0 0 [.ref x0] [(x0, .inr (6, (fX6 x1 (nI tz) (nI ta) na fn fb))), (aB k x1 240 fx)] (fun (r : Int32) (ta_ : Nat) => (r = 1 ∨ r = 0) ∧ ta ≤ ta_ ∧ ta_ ≤ tz) (fun (ta_ : Nat) => [(x0, .inr (6, (fX6 x1 (nI tz) (nI ta_) na fn fb))), (aB k x1 240 fx)]) := by
  intro sz
  refine Met.ofW (cc := cX6_isAtEnd) (maxL := 1) (ret := (some .boolean)) (by decide) rfl ?_
  intro p e s m args below meth c s₁ B hml hv
  obtain ⟨rfl, hsz, hlo, hP, hK, hDL, hZ⟩ := hv
  have hx := B.exec
  have hb := B.bytes
  have hr := B.returns
  have hts := WS_ts B.pre
  have hown : s.vm.findClass RX6 = some m.cls := findClass_of_methodNamed B.named
  have hlocks := B.notSynchronized
  subst hsz
  have hD := hDL.self (sz := s.heap.size)
  have hAlo := A_lo hDL hlo
  generalize hAe : va_A [(x0, .inr (6, (fX6 x1 (nI tz) (nI ta) na fn fb))), (aB k x1 240 fx)] s.heap.size = A at hD hAlo ⊢
  have hA : ∀ q : Nat, s.heap.size ≤ q → A q := fun q h => by rw [← hAe]; exact Or.inr h
  have hS : va_S A s.heap s.heap [] := va_S.rf
  have hl := lv_entry ([.ref x0]) (n := 1) (Nat.le_of_ble_eq_true rfl)
  rw [lg_entry_eq]
  generalize (lg_sl ([.ref x0]) ++ List.replicate (1 - (lg_sl ([.ref x0])).length) Slot.unset).toArray = ls at hl ⊢
  have hl : lv_has ls 1 [(0, .ref x0)] := hl
  refine lv_aload_n hx hb dX6_isAtEnd_0 rfl (lv_at hl 0 rfl) ?_
  refine rw_v (D := D) (wr := []) (va_runV (As := []) (rest := []) ⟨hx, hb, hml, hown, hts⟩ ((x_skip l D k st lo x0 x1 tz ta na fn fb fx (by omega) (by omega)) s.heap.size) (cwV 0 hts (gV tw_375 tw_376 tw_377 tw_80 tw_378) rfl rfl rfl (by decide +kernel) ⟨Nat.le_of_ble_eq_true rfl, Nat.le_of_ble_eq_true rfl⟩) (pV hS hAlo hlo hP hK (va_Dlo hD hAlo) hZ [0, 1] (by decide) rfl (ci := 6) (q := (RX6, TX6, 6)) (q0 := 0) rfl rfl) rfl rfl hl.1 rfl (lv_room (Nat.le_of_ble_eq_true rfl)) dX6_isAtEnd_1 ⟨Nat.le_of_ble_eq_true rfl, Nat.le_of_ble_eq_true rfl⟩) hS hA hP hD [0, 1] [] rfl rfl (by decide) (by decide) (fun u H locs hw_1 hP hD hS => ?_)
  obtain ⟨ta__1, rfl⟩ : ∃ z, z = u := ⟨_, rfl⟩
  replace hP : va_P D classes [(x0, .inr (6, (fX6 x1 (nI tz) (nI ta__1) na fn fb))), (aB k x1 240 fx)] H := hP
  replace hD : va_D A [(x0, .inr (6, (fX6 x1 (nI tz) (nI ta__1) na fn fb))), (aB k x1 240 fx)] := hD
  try dsimp only at hw_1
  refine lv_aload_n hx hb dX6_isAtEnd_4 rfl (lv_at hl 0 rfl) ?_
  refine va_get (D := D) (ci := 6) (v := .int (nI ta__1)) (C := RX6) (T := TX6) (N := 6) hx hb hts inX6 hown hK hP 0 rfl rfl 2 (by decide) (hts _ tw_113) (fun _ h9 => h9) rfl dX6_isAtEnd_5 ?_
  refine lv_aload_n hx hb dX6_isAtEnd_8 rfl (lv_at hl 0 rfl) ?_
  refine va_get (D := D) (ci := 6) (v := .int (nI tz)) (C := RX6) (T := TX6) (N := 6) hx hb hts inX6 hown hK hP 0 rfl rfl 1 (by decide) (hts _ tw_110) (fun _ h9 => h9) rfl dX6_isAtEnd_9 ?_
  refine lv_icmp_lt (tgt := 19) hx hb dX6_isAtEnd_12 (by decide) (fun c_2 => ?_) (fun c_2 => ?_)
  · have c_2 := (nI_ltI (a := ta__1) (b := tz) (by omega) (by omega)).mp c_2
    refine lv_iconst (v := 0) hx hb dX6_isAtEnd_19 (by decide) ?_
    have hP9 := hP.sub (ws' := [(x0, .inr (6, (fX6 x1 (nI tz) (nI ta__1) na fn fb))), (aB k x1 240 fx)]) [0, 1] rfl
    have hD9 := hD.sub (ws' := [(x0, .inr (6, (fX6 x1 (nI tz) (nI ta__1) na fn fb))), (aB k x1 240 fx)]) [0, 1] (by decide) rfl
    exact W.zret (v := 0) (ty := .boolean) hx hb hr rfl (fun t ht hW => ⟨⟨0, ta__1, rfl, ⟨.inr rfl, by omega, by omega⟩, by rw [ht]; exact hP9, hD9⟩, hS.F ht⟩) hS.2.2 dX6_isAtEnd_20
  · have c_2 : ¬ (ta__1 < tz) := fun h => c_2 ((nI_ltI (a := ta__1) (b := tz) (by omega) (by omega)).mpr h)
    refine lv_iconst (v := 1) hx hb dX6_isAtEnd_15 (by decide) ?_
    refine lv_goto (tgt := 20) hx hb dX6_isAtEnd_16 (by decide) ?_
    have hP9 := hP.sub (ws' := [(x0, .inr (6, (fX6 x1 (nI tz) (nI ta__1) na fn fb))), (aB k x1 240 fx)]) [0, 1] rfl
    have hD9 := hD.sub (ws' := [(x0, .inr (6, (fX6 x1 (nI tz) (nI ta__1) na fn fb))), (aB k x1 240 fx)]) [0, 1] (by decide) rfl
    exact W.zret (v := 1) (ty := .boolean) hx hb hr rfl (fun t ht hW => ⟨⟨1, ta__1, rfl, ⟨.inl rfl, by omega, by omega⟩, by rw [ht]; exact hP9, hD9⟩, hS.F ht⟩) hS.2.2 dX6_isAtEnd_20

theorem dX6_isLetterAt_0 : decode cX6_isLetterAt 0 = .ok (.aload_n 0, 1) := by decide +kernel
theorem dX6_isLetterAt_1 : decode cX6_isLetterAt 1 = .ok (.iload_n 1, 1) := by decide +kernel
theorem dX6_isLetterAt_2 : decode cX6_isLetterAt 2 = .ok (.invokevirtual 31, 3) := by decide +kernel
theorem dX6_isLetterAt_5 : decode cX6_isLetterAt 5 = .ok (.istore_n 2, 1) := by decide +kernel
theorem dX6_isLetterAt_6 : decode cX6_isLetterAt 6 = .ok (.iload_n 2, 1) := by decide +kernel
theorem dX6_isLetterAt_7 : decode cX6_isLetterAt 7 = .ok (.bipush 97, 2) := by decide +kernel
theorem dX6_isLetterAt_9 : decode cX6_isLetterAt 9 = .ok (.if_icmp .lt 13, 3) := by decide +kernel
theorem dX6_isLetterAt_12 : decode cX6_isLetterAt 12 = .ok (.iload_n 2, 1) := by decide +kernel
theorem dX6_isLetterAt_13 : decode cX6_isLetterAt 13 = .ok (.bipush 122, 2) := by decide +kernel
theorem dX6_isLetterAt_15 : decode cX6_isLetterAt 15 = .ok (.if_icmp .gt 7, 3) := by decide +kernel
theorem dX6_isLetterAt_18 : decode cX6_isLetterAt 18 = .ok (.iconst 1, 1) := by decide +kernel
theorem dX6_isLetterAt_19 : decode cX6_isLetterAt 19 = .ok (.goto 4, 3) := by decide +kernel
theorem dX6_isLetterAt_22 : decode cX6_isLetterAt 22 = .ok (.iconst 0, 1) := by decide +kernel
theorem dX6_isLetterAt_23 : decode cX6_isLetterAt 23 = .ok (.ireturn, 1) := by decide +kernel
set_option maxHeartbeats 4000000 in
set_option maxRecDepth 100000 in
theorem x_isLetterAt (l : Launch) (D : va_G) (k : Nat → ClassId) (st : Nat → Nat) (lo : Nat) (x0 : Nat) (x1 : Nat) (tz : Nat) (ta : Nat) (na : Int32) (fn : Int32) (fb : Int32) (fx : Nat → Int32) (i : Nat) (hz : tz ≤ 240) (hi : i < 2 ^ 31) : CRi l D k st lo yX6_isLetterAt cX6_isLetterAt 3 (some .boolean) ({ frames := 1, cells := 0, slots := 0, locals := 21 }) [.ref x0, .int (nI i)] [(x0, .inr (6, (fX6 x1 (nI tz) (nI ta) na fn fb))), (aB k x1 240 fx)] (fun _ => True) := by
  intro sz
  refine Met.ofW (cc := cX6_isLetterAt) (maxL := 3) (ret := (some .boolean)) (by decide) rfl ?_
  intro p e s m args below meth c s₁ B hml hv
  obtain ⟨rfl, hsz, hlo, hP, hK, hDL, hZ⟩ := hv
  have hx := B.exec
  have hb := B.bytes
  have hr := B.returns
  have hts := WS_ts B.pre
  have hown : s.vm.findClass RX6 = some m.cls := findClass_of_methodNamed B.named
  have hlocks := B.notSynchronized
  subst hsz
  have hA : ∀ q : Nat, s.heap.size ≤ q → (fun q : Nat => s.heap.size ≤ q) q := fun _ h => h
  have hAlo : ∀ q : Nat, (fun q : Nat => s.heap.size ≤ q) q → lo ≤ q := fun q h => Nat.le_trans hlo h
  have hS : va_S (fun q : Nat => s.heap.size ≤ q) s.heap s.heap [] := va_S.rf
  have hl := lv_entry ([.ref x0, .int (nI i)]) (n := 3) (Nat.le_of_ble_eq_true rfl)
  rw [lg_entry_eq]
  generalize (lg_sl ([.ref x0, .int (nI i)]) ++ List.replicate (3 - (lg_sl ([.ref x0, .int (nI i)])).length) Slot.unset).toArray = ls at hl ⊢
  have hl : lv_has ls 3 [(0, .ref x0), (1, .int (nI i))] := hl
  refine lv_aload_n hx hb dX6_isLetterAt_0 rfl (lv_at hl 0 rfl) ?_
  refine lv_iload_n hx hb dX6_isLetterAt_1 rfl (lv_at hl 1 rfl) ?_
  refine ro_i (D := D) (va_runV (As := [.int (nI i)]) (rest := []) ⟨hx, hb, hml, hown, hts⟩ ((x_byteAt l D k st lo x0 x1 tz ta na fn fb fx i (by omega) (by omega)) s.heap.size) (cwV 1 hts (gV tw_379 tw_380 tw_381 tw_80 tw_382) rfl rfl rfl (by decide +kernel) ⟨Nat.le_of_ble_eq_true rfl, Nat.le_of_ble_eq_true rfl⟩) (pV hS hAlo hlo hP hK hDL hZ [0, 1] (by decide) rfl (ci := 6) (q := (RX6, TX6, 6)) (q0 := 0) rfl rfl) rfl rfl hl.1 rfl (lv_room (Nat.le_of_ble_eq_true rfl)) dX6_isLetterAt_2 ⟨Nat.le_of_ble_eq_true rfl, Nat.le_of_ble_eq_true rfl⟩) hS hA hP (fun r_1 H locs hw_1 hP hS => ?_)
  try dsimp only at hw_1
  refine lv_istore_n (lv' := [(2, .int r_1), (0, .ref x0), (1, .int (nI i))]) hx hb dX6_isLetterAt_5 rfl hl (by decide) rfl (fun ls hl => ?_)
  refine lv_iload_n hx hb dX6_isLetterAt_6 rfl (lv_at hl 0 rfl) ?_
  refine lv_bipush (v := 97) hx hb dX6_isLetterAt_7 (by decide) ?_
  refine lv_icmp_lt (tgt := 22) hx hb dX6_isLetterAt_9 (by decide) (fun c_2 => ?_) (fun c_2 => ?_)
  · refine lv_iconst (v := 0) hx hb dX6_isLetterAt_22 (by decide) ?_
    exact W.zret (v := 0) (ty := .boolean) hx hb hr rfl (fun t ht hW => ⟨⟨0, (), rfl, trivial, trivial⟩, hS.F ht⟩) hS.2.2 dX6_isLetterAt_23
  · refine lv_iload_n hx hb dX6_isLetterAt_12 rfl (lv_at hl 0 rfl) ?_
    refine lv_bipush (v := 122) hx hb dX6_isLetterAt_13 (by decide) ?_
    refine lv_icmp_gt (tgt := 22) hx hb dX6_isLetterAt_15 (by decide) (fun c_3 => ?_) (fun c_3 => ?_)
    · refine lv_iconst (v := 0) hx hb dX6_isLetterAt_22 (by decide) ?_
      exact W.zret (v := 0) (ty := .boolean) hx hb hr rfl (fun t ht hW => ⟨⟨0, (), rfl, trivial, trivial⟩, hS.F ht⟩) hS.2.2 dX6_isLetterAt_23
    · refine lv_iconst (v := 1) hx hb dX6_isLetterAt_18 (by decide) ?_
      refine lv_goto (tgt := 23) hx hb dX6_isLetterAt_19 (by decide) ?_
      exact W.zret (v := 1) (ty := .boolean) hx hb hr rfl (fun t ht hW => ⟨⟨1, (), rfl, trivial, trivial⟩, hS.F ht⟩) hS.2.2 dX6_isLetterAt_23

theorem dX6_isFigureAt_0 : decode cX6_isFigureAt 0 = .ok (.aload_n 0, 1) := by decide +kernel
theorem dX6_isFigureAt_1 : decode cX6_isFigureAt 1 = .ok (.iload_n 1, 1) := by decide +kernel
theorem dX6_isFigureAt_2 : decode cX6_isFigureAt 2 = .ok (.invokevirtual 31, 3) := by decide +kernel
theorem dX6_isFigureAt_5 : decode cX6_isFigureAt 5 = .ok (.istore_n 2, 1) := by decide +kernel
theorem dX6_isFigureAt_6 : decode cX6_isFigureAt 6 = .ok (.iload_n 2, 1) := by decide +kernel
theorem dX6_isFigureAt_7 : decode cX6_isFigureAt 7 = .ok (.bipush 48, 2) := by decide +kernel
theorem dX6_isFigureAt_9 : decode cX6_isFigureAt 9 = .ok (.if_icmp .lt 13, 3) := by decide +kernel
theorem dX6_isFigureAt_12 : decode cX6_isFigureAt 12 = .ok (.iload_n 2, 1) := by decide +kernel
theorem dX6_isFigureAt_13 : decode cX6_isFigureAt 13 = .ok (.bipush 57, 2) := by decide +kernel
theorem dX6_isFigureAt_15 : decode cX6_isFigureAt 15 = .ok (.if_icmp .gt 7, 3) := by decide +kernel
theorem dX6_isFigureAt_18 : decode cX6_isFigureAt 18 = .ok (.iconst 1, 1) := by decide +kernel
theorem dX6_isFigureAt_19 : decode cX6_isFigureAt 19 = .ok (.goto 4, 3) := by decide +kernel
theorem dX6_isFigureAt_22 : decode cX6_isFigureAt 22 = .ok (.iconst 0, 1) := by decide +kernel
theorem dX6_isFigureAt_23 : decode cX6_isFigureAt 23 = .ok (.ireturn, 1) := by decide +kernel
set_option maxHeartbeats 4000000 in
set_option maxRecDepth 100000 in
theorem x_isFigureAt (l : Launch) (D : va_G) (k : Nat → ClassId) (st : Nat → Nat) (lo : Nat) (x0 : Nat) (x1 : Nat) (tz : Nat) (ta : Nat) (na : Int32) (fn : Int32) (fb : Int32) (fx : Nat → Int32) (i : Nat) (hz : tz ≤ 240) (hi : i < 2 ^ 31) : CRi l D k st lo yX6_isFigureAt cX6_isFigureAt 3 (some .boolean) ({ frames := 1, cells := 0, slots := 0, locals := 21 }) [.ref x0, .int (nI i)] [(x0, .inr (6, (fX6 x1 (nI tz) (nI ta) na fn fb))), (aB k x1 240 fx)] (fun _ => True) := by
  intro sz
  refine Met.ofW (cc := cX6_isFigureAt) (maxL := 3) (ret := (some .boolean)) (by decide) rfl ?_
  intro p e s m args below meth c s₁ B hml hv
  obtain ⟨rfl, hsz, hlo, hP, hK, hDL, hZ⟩ := hv
  have hx := B.exec
  have hb := B.bytes
  have hr := B.returns
  have hts := WS_ts B.pre
  have hown : s.vm.findClass RX6 = some m.cls := findClass_of_methodNamed B.named
  have hlocks := B.notSynchronized
  subst hsz
  have hA : ∀ q : Nat, s.heap.size ≤ q → (fun q : Nat => s.heap.size ≤ q) q := fun _ h => h
  have hAlo : ∀ q : Nat, (fun q : Nat => s.heap.size ≤ q) q → lo ≤ q := fun q h => Nat.le_trans hlo h
  have hS : va_S (fun q : Nat => s.heap.size ≤ q) s.heap s.heap [] := va_S.rf
  have hl := lv_entry ([.ref x0, .int (nI i)]) (n := 3) (Nat.le_of_ble_eq_true rfl)
  rw [lg_entry_eq]
  generalize (lg_sl ([.ref x0, .int (nI i)]) ++ List.replicate (3 - (lg_sl ([.ref x0, .int (nI i)])).length) Slot.unset).toArray = ls at hl ⊢
  have hl : lv_has ls 3 [(0, .ref x0), (1, .int (nI i))] := hl
  refine lv_aload_n hx hb dX6_isFigureAt_0 rfl (lv_at hl 0 rfl) ?_
  refine lv_iload_n hx hb dX6_isFigureAt_1 rfl (lv_at hl 1 rfl) ?_
  refine ro_i (D := D) (va_runV (As := [.int (nI i)]) (rest := []) ⟨hx, hb, hml, hown, hts⟩ ((x_byteAt l D k st lo x0 x1 tz ta na fn fb fx i (by omega) (by omega)) s.heap.size) (cwV 1 hts (gV tw_379 tw_380 tw_381 tw_80 tw_382) rfl rfl rfl (by decide +kernel) ⟨Nat.le_of_ble_eq_true rfl, Nat.le_of_ble_eq_true rfl⟩) (pV hS hAlo hlo hP hK hDL hZ [0, 1] (by decide) rfl (ci := 6) (q := (RX6, TX6, 6)) (q0 := 0) rfl rfl) rfl rfl hl.1 rfl (lv_room (Nat.le_of_ble_eq_true rfl)) dX6_isFigureAt_2 ⟨Nat.le_of_ble_eq_true rfl, Nat.le_of_ble_eq_true rfl⟩) hS hA hP (fun r_1 H locs hw_1 hP hS => ?_)
  try dsimp only at hw_1
  refine lv_istore_n (lv' := [(2, .int r_1), (0, .ref x0), (1, .int (nI i))]) hx hb dX6_isFigureAt_5 rfl hl (by decide) rfl (fun ls hl => ?_)
  refine lv_iload_n hx hb dX6_isFigureAt_6 rfl (lv_at hl 0 rfl) ?_
  refine lv_bipush (v := 48) hx hb dX6_isFigureAt_7 (by decide) ?_
  refine lv_icmp_lt (tgt := 22) hx hb dX6_isFigureAt_9 (by decide) (fun c_2 => ?_) (fun c_2 => ?_)
  · refine lv_iconst (v := 0) hx hb dX6_isFigureAt_22 (by decide) ?_
    exact W.zret (v := 0) (ty := .boolean) hx hb hr rfl (fun t ht hW => ⟨⟨0, (), rfl, trivial, trivial⟩, hS.F ht⟩) hS.2.2 dX6_isFigureAt_23
  · refine lv_iload_n hx hb dX6_isFigureAt_12 rfl (lv_at hl 0 rfl) ?_
    refine lv_bipush (v := 57) hx hb dX6_isFigureAt_13 (by decide) ?_
    refine lv_icmp_gt (tgt := 22) hx hb dX6_isFigureAt_15 (by decide) (fun c_3 => ?_) (fun c_3 => ?_)
    · refine lv_iconst (v := 0) hx hb dX6_isFigureAt_22 (by decide) ?_
      exact W.zret (v := 0) (ty := .boolean) hx hb hr rfl (fun t ht hW => ⟨⟨0, (), rfl, trivial, trivial⟩, hS.F ht⟩) hS.2.2 dX6_isFigureAt_23
    · refine lv_iconst (v := 1) hx hb dX6_isFigureAt_18 (by decide) ?_
      refine lv_goto (tgt := 23) hx hb dX6_isFigureAt_19 (by decide) ?_
      exact W.zret (v := 1) (ty := .boolean) hx hb hr rfl (fun t ht hW => ⟨⟨1, (), rfl, trivial, trivial⟩, hS.F ht⟩) hS.2.2 dX6_isFigureAt_23

theorem dX6_takeWord_0 : decode cX6_takeWord 0 = .ok (.aload_n 0, 1) := by decide +kernel
theorem dX6_takeWord_1 : decode cX6_takeWord 1 = .ok (.invokevirtual 35, 3) := by decide +kernel
theorem dX6_takeWord_4 : decode cX6_takeWord 4 = .ok (.aload_n 0, 1) := by decide +kernel
theorem dX6_takeWord_5 : decode cX6_takeWord 5 = .ok (.getfield 19, 3) := by decide +kernel
theorem dX6_takeWord_8 : decode cX6_takeWord 8 = .ok (.aload_n 1, 1) := by decide +kernel
theorem dX6_takeWord_9 : decode cX6_takeWord 9 = .ok (.invokevirtual 38, 3) := by decide +kernel
theorem dX6_takeWord_12 : decode cX6_takeWord 12 = .ok (.iadd, 1) := by decide +kernel
theorem dX6_takeWord_13 : decode cX6_takeWord 13 = .ok (.istore_n 2, 1) := by decide +kernel
theorem dX6_takeWord_14 : decode cX6_takeWord 14 = .ok (.iconst 0, 1) := by decide +kernel
theorem dX6_takeWord_15 : decode cX6_takeWord 15 = .ok (.istore_n 3, 1) := by decide +kernel
theorem dX6_takeWord_16 : decode cX6_takeWord 16 = .ok (.iload_n 3, 1) := by decide +kernel
theorem dX6_takeWord_17 : decode cX6_takeWord 17 = .ok (.aload_n 1, 1) := by decide +kernel
theorem dX6_takeWord_18 : decode cX6_takeWord 18 = .ok (.invokevirtual 38, 3) := by decide +kernel
theorem dX6_takeWord_21 : decode cX6_takeWord 21 = .ok (.if_icmp .ge 29, 3) := by decide +kernel
theorem dX6_takeWord_24 : decode cX6_takeWord 24 = .ok (.aload_n 0, 1) := by decide +kernel
theorem dX6_takeWord_25 : decode cX6_takeWord 25 = .ok (.aload_n 0, 1) := by decide +kernel
theorem dX6_takeWord_26 : decode cX6_takeWord 26 = .ok (.getfield 19, 3) := by decide +kernel
theorem dX6_takeWord_29 : decode cX6_takeWord 29 = .ok (.iload_n 3, 1) := by decide +kernel
theorem dX6_takeWord_30 : decode cX6_takeWord 30 = .ok (.iadd, 1) := by decide +kernel
theorem dX6_takeWord_31 : decode cX6_takeWord 31 = .ok (.invokevirtual 31, 3) := by decide +kernel
theorem dX6_takeWord_34 : decode cX6_takeWord 34 = .ok (.aload_n 1, 1) := by decide +kernel
theorem dX6_takeWord_35 : decode cX6_takeWord 35 = .ok (.iload_n 3, 1) := by decide +kernel
theorem dX6_takeWord_36 : decode cX6_takeWord 36 = .ok (.invokevirtual 44, 3) := by decide +kernel
theorem dX6_takeWord_39 : decode cX6_takeWord 39 = .ok (.if_icmp .eq 5, 3) := by decide +kernel
theorem dX6_takeWord_42 : decode cX6_takeWord 42 = .ok (.iconst 0, 1) := by decide +kernel
theorem dX6_takeWord_43 : decode cX6_takeWord 43 = .ok (.ireturn, 1) := by decide +kernel
theorem dX6_takeWord_44 : decode cX6_takeWord 44 = .ok (.iinc 3 1, 3) := by decide +kernel
theorem dX6_takeWord_47 : decode cX6_takeWord 47 = .ok (.goto (-31), 3) := by decide +kernel
theorem dX6_takeWord_50 : decode cX6_takeWord 50 = .ok (.aload_n 0, 1) := by decide +kernel
theorem dX6_takeWord_51 : decode cX6_takeWord 51 = .ok (.iload_n 2, 1) := by decide +kernel
theorem dX6_takeWord_52 : decode cX6_takeWord 52 = .ok (.invokevirtual 48, 3) := by decide +kernel
theorem dX6_takeWord_55 : decode cX6_takeWord 55 = .ok (.ifCond .eq 5, 3) := by decide +kernel
theorem dX6_takeWord_58 : decode cX6_takeWord 58 = .ok (.iconst 0, 1) := by decide +kernel
theorem dX6_takeWord_59 : decode cX6_takeWord 59 = .ok (.ireturn, 1) := by decide +kernel
theorem dX6_takeWord_60 : decode cX6_takeWord 60 = .ok (.aload_n 0, 1) := by decide +kernel
theorem dX6_takeWord_61 : decode cX6_takeWord 61 = .ok (.iload_n 2, 1) := by decide +kernel
theorem dX6_takeWord_62 : decode cX6_takeWord 62 = .ok (.putfield 19, 3) := by decide +kernel
theorem dX6_takeWord_65 : decode cX6_takeWord 65 = .ok (.iconst 1, 1) := by decide +kernel
theorem dX6_takeWord_66 : decode cX6_takeWord 66 = .ok (.ireturn, 1) := by decide +kernel
set_option maxHeartbeats 4000000 in
set_option maxRecDepth 100000 in
theorem x_takeWord (l : Launch) (D : va_G) (k : Nat → ClassId) (st : Nat → Nat) (lo : Nat) (x0 : Nat) (x1 : Nat) (tz : Nat) (ta : Nat) (na : Int32) (fn : Int32) (fb : Int32) (fx : Nat → Int32) (wi : Nat) (ht : ta ≤ tz) (hz : tz ≤ 240) (hwi : wi < 14) : CWi l D k st lo yX6_takeWord cX6_takeWord 4 (some .boolean) ({ frames := 4, cells := 0, slots := 0, locals := 85 }) 0 0 [.ref x0, .ref (st (100 + wi))] [(x0, .inr (6, (fX6 x1 (nI tz) (nI ta) na fn fb))), (aB k x1 240 fx)] (fun (r : Int32) (ta_ : Nat) => (r = 1 ∨ r = 0) ∧ ta ≤ ta_ ∧ ta_ ≤ tz) (fun (ta_ : Nat) => [(x0, .inr (6, (fX6 x1 (nI tz) (nI ta_) na fn fb))), (aB k x1 240 fx)]) := by
  intro sz
  refine Met.ofW (cc := cX6_takeWord) (maxL := 4) (ret := (some .boolean)) (by decide) rfl ?_
  intro p e s m args below meth c s₁ B hml hv
  obtain ⟨rfl, hsz, hlo, hP, hK, hDL, hZ⟩ := hv
  have hx := B.exec
  have hb := B.bytes
  have hr := B.returns
  have hts := WS_ts B.pre
  have hown : s.vm.findClass RX6 = some m.cls := findClass_of_methodNamed B.named
  have hlocks := B.notSynchronized
  subst hsz
  have hD := hDL.self (sz := s.heap.size)
  have hAlo := A_lo hDL hlo
  generalize hAe : va_A [(x0, .inr (6, (fX6 x1 (nI tz) (nI ta) na fn fb))), (aB k x1 240 fx)] s.heap.size = A at hD hAlo ⊢
  have hA : ∀ q : Nat, s.heap.size ≤ q → A q := fun q h => by rw [← hAe]; exact Or.inr h
  have hS : va_S A s.heap s.heap [] := va_S.rf
  have hl := lv_entry ([.ref x0, .ref (st (100 + wi))]) (n := 4) (Nat.le_of_ble_eq_true rfl)
  rw [lg_entry_eq]
  generalize (lg_sl ([.ref x0, .ref (st (100 + wi))]) ++ List.replicate (4 - (lg_sl ([.ref x0, .ref (st (100 + wi))])).length) Slot.unset).toArray = ls at hl ⊢
  have hl : lv_has ls 4 [(0, .ref x0), (1, .ref (st (100 + wi)))] := hl
  have hsl := sLen_le wi hwi
  refine lv_aload_n hx hb dX6_takeWord_0 rfl (lv_at hl 0 rfl) ?_
  refine rw_v (D := D) (wr := []) (va_runV (As := []) (rest := []) ⟨hx, hb, hml, hown, hts⟩ ((x_skip l D k st lo x0 x1 tz ta na fn fb fx (by omega) (by omega)) s.heap.size) (cwV 0 hts (gV tw_375 tw_376 tw_377 tw_80 tw_378) rfl rfl rfl (by decide +kernel) ⟨Nat.le_of_ble_eq_true rfl, Nat.le_of_ble_eq_true rfl⟩) (pV hS hAlo hlo hP hK (va_Dlo hD hAlo) hZ [0, 1] (by decide) rfl (ci := 6) (q := (RX6, TX6, 6)) (q0 := 0) rfl rfl) rfl rfl hl.1 rfl (lv_room (Nat.le_of_ble_eq_true rfl)) dX6_takeWord_1 ⟨Nat.le_of_ble_eq_true rfl, Nat.le_of_ble_eq_true rfl⟩) hS hA hP hD [0, 1] [] rfl rfl (by decide) (by decide) (fun u H locs hw_1 hP hD hS => ?_)
  obtain ⟨ta__1, rfl⟩ : ∃ z, z = u := ⟨_, rfl⟩
  replace hP : va_P D classes [(x0, .inr (6, (fX6 x1 (nI tz) (nI ta__1) na fn fb))), (aB k x1 240 fx)] H := hP
  replace hD : va_D A [(x0, .inr (6, (fX6 x1 (nI tz) (nI ta__1) na fn fb))), (aB k x1 240 fx)] := hD
  try dsimp only at hw_1
  refine lv_aload_n hx hb dX6_takeWord_4 rfl (lv_at hl 0 rfl) ?_
  refine va_get (D := D) (ci := 6) (v := .int (nI ta__1)) (C := RX6) (T := TX6) (N := 6) hx hb hts inX6 hown hK hP 0 rfl rfl 2 (by decide) (hts _ tw_113) (fun _ h9 => h9) rfl dX6_takeWord_5 ?_
  refine lv_aload_n hx hb dX6_takeWord_8 rfl (lv_at hl 1 rfl) ?_
  refine ro_i (D := D) (va_runV (As := []) (rest := [.int (nI ta__1)]) ⟨hx, hb, hml, hown, hts⟩ ((x_length l D k st lo wi (by omega)) H.size) (cwV 0 hts (gV tw_403 tw_404 tw_405 tw_89 tw_406) rfl rfl rfl (by decide +kernel) ⟨Nat.le_of_ble_eq_true rfl, Nat.le_of_ble_eq_true rfl⟩) (pVs (i := wi) (by omega) hS hAlo hlo hP hK (va_Dlo hD hAlo) hZ [] (by decide) rfl) rfl rfl hl.1 rfl (lv_room (Nat.le_of_ble_eq_true rfl)) dX6_takeWord_9 ⟨Nat.le_of_ble_eq_true rfl, Nat.le_of_ble_eq_true rfl⟩) hS hA hP (fun r_2 H locs hw_2 hP hS => ?_)
  try dsimp only at hw_2
  subst hw_2
  refine lv_iadd hx hb dX6_takeWord_12 ?_
  refine lv_ti (y := (nI (ta__1 + sLen.getD wi 0))) (nI_add ta__1 (sLen.getD wi 0)) ?_
  refine lv_istore_n (lv' := [(2, .int (nI (ta__1 + sLen.getD wi 0))), (0, .ref x0), (1, .ref (st (100 + wi)))]) hx hb dX6_takeWord_13 rfl hl (by decide) rfl (fun ls hl => ?_)
  refine lv_iconst (v := 0) hx hb dX6_takeWord_14 (by decide) ?_
  refine lv_istore_n (lv' := [(3, .int 0), (2, .int (nI (ta__1 + sLen.getD wi 0))), (0, .ref x0), (1, .ref (st (100 + wi)))]) hx hb dX6_takeWord_15 rfl hl (by decide) rfl (fun ls hl => ?_)
  refine W_loop (σ := Nat) (fun (n_ : Nat) (kk_3 : Nat) (H : Heap) (locs : List Loc) (ls : Array Slot) => n_ = sLen.getD wi 0 - kk_3 ∧ (ta__1 + kk_3 ≤ tz ∧ kk_3 ≤ sLen.getD wi 0) ∧ va_P D classes [(x0, .inr (6, (fX6 x1 (nI tz) (nI ta__1) na fn fb))), (aB k x1 240 fx)] H ∧ va_D A [(x0, .inr (6, (fX6 x1 (nI tz) (nI ta__1) na fn fb))), (aB k x1 240 fx)] ∧ va_S A s.heap H locs ∧ lv_has ls 4 [(3, .int (nI kk_3)), (2, .int (nI (ta__1 + sLen.getD wi 0))), (0, .ref x0), (1, .ref (st (100 + wi)))]) (fun n_3 x_3 H locs ls hI ih_3 => ?_) _ 0 ⟨rfl, ⟨by omega, by omega⟩, hP, hD, hS, (lv_sub hl [0, 1, 2, 3] rfl)⟩
  obtain ⟨kk_3, rfl⟩ : ∃ z, z = x_3 := ⟨_, rfl⟩
  obtain ⟨hm_3, hv_3, hP, hD, hS, hl⟩ := hI
  subst hm_3
  refine lv_iload_n hx hb dX6_takeWord_16 rfl (lv_at hl 0 rfl) ?_
  refine lv_aload_n hx hb dX6_takeWord_17 rfl (lv_at hl 3 rfl) ?_
  refine ro_i (D := D) (va_runV (As := []) (rest := [.int (nI kk_3)]) ⟨hx, hb, hml, hown, hts⟩ ((x_length l D k st lo wi (by omega)) H.size) (cwV 0 hts (gV tw_403 tw_404 tw_405 tw_89 tw_406) rfl rfl rfl (by decide +kernel) ⟨Nat.le_of_ble_eq_true rfl, Nat.le_of_ble_eq_true rfl⟩) (pVs (i := wi) (by omega) hS hAlo hlo hP hK (va_Dlo hD hAlo) hZ [] (by decide) rfl) rfl rfl hl.1 rfl (lv_room (Nat.le_of_ble_eq_true rfl)) dX6_takeWord_18 ⟨Nat.le_of_ble_eq_true rfl, Nat.le_of_ble_eq_true rfl⟩) hS hA hP (fun r_4 H locs hw_4 hP hS => ?_)
  try dsimp only at hw_4
  subst hw_4
  refine lv_icmp_ge (tgt := 50) hx hb dX6_takeWord_21 (by decide) (fun c_5 => ?_) (fun c_5 => ?_)
  · have c_5 := (nI_leI (a := (sLen.getD wi 0)) (b := kk_3) (by omega) (by omega)).mp c_5
    refine lv_aload_n hx hb dX6_takeWord_50 rfl (lv_at hl 2 rfl) ?_
    refine lv_iload_n hx hb dX6_takeWord_51 rfl (lv_at hl 1 rfl) ?_
    refine ro_i (D := D) (va_runV (As := [.int (nI (ta__1 + sLen.getD wi 0))]) (rest := []) ⟨hx, hb, hml, hown, hts⟩ ((x_isLetterAt l D k st lo x0 x1 tz ta__1 na fn fb fx (ta__1 + sLen.getD wi 0) (by omega) (by omega)) H.size) (cwV 1 hts (gV tw_451 tw_452 tw_453 tw_80 tw_454) rfl rfl rfl (by decide +kernel) ⟨Nat.le_of_ble_eq_true rfl, Nat.le_of_ble_eq_true rfl⟩) (pV hS hAlo hlo hP hK (va_Dlo hD hAlo) hZ [0, 1] (by decide) rfl (ci := 6) (q := (RX6, TX6, 6)) (q0 := 0) rfl rfl) rfl rfl hl.1 rfl (lv_room (Nat.le_of_ble_eq_true rfl)) dX6_takeWord_52 ⟨Nat.le_of_ble_eq_true rfl, Nat.le_of_ble_eq_true rfl⟩) hS hA hP (fun r_6 H locs hw_6 hP hS => ?_)
    try dsimp only at hw_6
    refine lv_if_eq (tgt := 60) hx hb dX6_takeWord_55 (by decide) (fun c_7 => ?_) (fun c_7 => ?_)
    · refine lv_aload_n hx hb dX6_takeWord_60 rfl (lv_at hl 2 rfl) ?_
      refine lv_iload_n hx hb dX6_takeWord_61 rfl (lv_at hl 1 rfl) ?_
      refine va_put (D := D) (ci := 6) (v := .int (nI (ta__1 + sLen.getD wi 0))) (ty := .int) (C := RX6) (T := TX6) (N := 6) hx hb hts inX6 tyX6 tyX6_ok nmX6 hown hK hP hD hS 0 rfl rfl 2 (by decide) (hts _ tw_113) (fun _ h9 => h9) rfl (by decide +kernel) rfl rfl (Nat.le_of_ble_eq_true rfl) dX6_takeWord_62 (fun H locs hP hD hS => ?_)
      replace hP : va_P D classes [(x0, .inr (6, (fX6 x1 (nI tz) (nI (ta__1 + sLen.getD wi 0)) na fn fb))), (aB k x1 240 fx)] H := hP
      replace hD : va_D A [(x0, .inr (6, (fX6 x1 (nI tz) (nI (ta__1 + sLen.getD wi 0)) na fn fb))), (aB k x1 240 fx)] := hD
      refine lv_iconst (v := 1) hx hb dX6_takeWord_65 (by decide) ?_
      have hP9 := hP.sub (ws' := [(x0, .inr (6, (fX6 x1 (nI tz) (nI (ta__1 + sLen.getD wi 0)) na fn fb))), (aB k x1 240 fx)]) [0, 1] rfl
      have hD9 := hD.sub (ws' := [(x0, .inr (6, (fX6 x1 (nI tz) (nI (ta__1 + sLen.getD wi 0)) na fn fb))), (aB k x1 240 fx)]) [0, 1] (by decide) rfl
      exact W.zret (v := 1) (ty := .boolean) hx hb hr rfl (fun t ht hW => ⟨⟨1, (ta__1 + sLen.getD wi 0), rfl, ⟨.inl rfl, by omega, by omega⟩, by rw [ht]; exact hP9, hD9⟩, hS.F ht⟩) hS.2.2 dX6_takeWord_66
    · refine lv_iconst (v := 0) hx hb dX6_takeWord_58 (by decide) ?_
      have hP9 := hP.sub (ws' := [(x0, .inr (6, (fX6 x1 (nI tz) (nI ta__1) na fn fb))), (aB k x1 240 fx)]) [0, 1] rfl
      have hD9 := hD.sub (ws' := [(x0, .inr (6, (fX6 x1 (nI tz) (nI ta__1) na fn fb))), (aB k x1 240 fx)]) [0, 1] (by decide) rfl
      exact W.zret (v := 0) (ty := .boolean) hx hb hr rfl (fun t ht hW => ⟨⟨0, ta__1, rfl, ⟨.inr rfl, by omega, by omega⟩, by rw [ht]; exact hP9, hD9⟩, hS.F ht⟩) hS.2.2 dX6_takeWord_59
  · have c_5 : ¬ ((sLen.getD wi 0) ≤ kk_3) := fun h => c_5 ((nI_leI (a := (sLen.getD wi 0)) (b := kk_3) (by omega) (by omega)).mpr h)
    refine lv_aload_n hx hb dX6_takeWord_24 rfl (lv_at hl 2 rfl) ?_
    refine lv_aload_n hx hb dX6_takeWord_25 rfl (lv_at hl 2 rfl) ?_
    refine va_get (D := D) (ci := 6) (v := .int (nI ta__1)) (C := RX6) (T := TX6) (N := 6) hx hb hts inX6 hown hK hP 0 rfl rfl 2 (by decide) (hts _ tw_113) (fun _ h9 => h9) rfl dX6_takeWord_26 ?_
    refine lv_iload_n hx hb dX6_takeWord_29 rfl (lv_at hl 0 rfl) ?_
    refine lv_iadd hx hb dX6_takeWord_30 ?_
    refine lv_ti (y := (nI (ta__1 + kk_3))) (nI_add ta__1 kk_3) ?_
    refine ro_i (D := D) (va_runV (As := [.int (nI (ta__1 + kk_3))]) (rest := []) ⟨hx, hb, hml, hown, hts⟩ ((x_byteAt l D k st lo x0 x1 tz ta__1 na fn fb fx (ta__1 + kk_3) (by omega) (by omega)) H.size) (cwV 1 hts (gV tw_379 tw_380 tw_381 tw_80 tw_382) rfl rfl rfl (by decide +kernel) ⟨Nat.le_of_ble_eq_true rfl, Nat.le_of_ble_eq_true rfl⟩) (pV hS hAlo hlo hP hK (va_Dlo hD hAlo) hZ [0, 1] (by decide) rfl (ci := 6) (q := (RX6, TX6, 6)) (q0 := 0) rfl rfl) rfl rfl hl.1 rfl (lv_room (Nat.le_of_ble_eq_true rfl)) dX6_takeWord_31 ⟨Nat.le_of_ble_eq_true rfl, Nat.le_of_ble_eq_true rfl⟩) hS hA hP (fun r_8 H locs hw_8 hP hS => ?_)
    try dsimp only at hw_8
    refine lv_aload_n hx hb dX6_takeWord_34 rfl (lv_at hl 3 rfl) ?_
    refine lv_iload_n hx hb dX6_takeWord_35 rfl (lv_at hl 0 rfl) ?_
    refine rw_i (D := D) (wr := [(x0, .inr (6, (fX6 x1 (nI tz) (nI ta__1) na fn fb))), (aB k x1 240 fx)]) (va_runV (As := [.int (nI kk_3)]) (rest := [.int r_8]) ⟨hx, hb, hml, hown, hts⟩ ((x_charAt l D k st lo wi kk_3 (by omega) (by omega)) H.size) (cwV 1 hts (gV tw_413 tw_414 tw_415 tw_89 tw_416) rfl rfl rfl (by decide +kernel) ⟨Nat.le_of_ble_eq_true rfl, Nat.le_of_ble_eq_true rfl⟩) (pVs (i := wi) (by omega) hS hAlo hlo hP hK (va_Dlo hD hAlo) hZ [] (by decide) rfl) rfl rfl hl.1 rfl (lv_room (Nat.le_of_ble_eq_true rfl)) dX6_takeWord_36 ⟨Nat.le_of_ble_eq_true rfl, Nat.le_of_ble_eq_true rfl⟩) hS hA hP hD [] [0, 1] rfl rfl (by decide) (by decide) (fun r_9 u H locs hw_9 hP hD hS => ?_)
    replace hP : va_P D classes [(x0, .inr (6, (fX6 x1 (nI tz) (nI ta__1) na fn fb))), (aB k x1 240 fx)] H := hP
    replace hD : va_D A [(x0, .inr (6, (fX6 x1 (nI tz) (nI ta__1) na fn fb))), (aB k x1 240 fx)] := hD
    try dsimp only at hw_9
    obtain ⟨ch_9, hh_9, rfl⟩ := hw_9
    refine lv_icmp_eq (tgt := 44) hx hb dX6_takeWord_39 (by decide) (fun c_10 => ?_) (fun c_10 => ?_)
    · refine lv_iinc (v := (nI (kk_3 + 1))) (lv' := [(3, .int (nI (kk_3 + 1))), (2, .int (nI (ta__1 + sLen.getD wi 0))), (0, .ref x0), (1, .ref (st (100 + wi)))]) hx hb dX6_takeWord_44 hl (k := 0) rfl (nI_add kk_3 1) (by decide) rfl (fun ls hl => ?_)
      refine lv_goto (tgt := 16) hx hb dX6_takeWord_47 (by decide) ?_
      exact ih_3 _ (kk_3 + 1) _ _ _ (by omega) ⟨rfl, ⟨by have h9 := hw_8.resolve_left (fun h => nI_ne' (by omega) (by decide) (c_10.symm.trans h)); omega, by omega⟩, hP, hD, hS, (lv_sub hl [0, 1, 2, 3] rfl)⟩
    · refine lv_iconst (v := 0) hx hb dX6_takeWord_42 (by decide) ?_
      have hP9 := hP.sub (ws' := [(x0, .inr (6, (fX6 x1 (nI tz) (nI ta__1) na fn fb))), (aB k x1 240 fx)]) [0, 1] rfl
      have hD9 := hD.sub (ws' := [(x0, .inr (6, (fX6 x1 (nI tz) (nI ta__1) na fn fb))), (aB k x1 240 fx)]) [0, 1] (by decide) rfl
      exact W.zret (v := 0) (ty := .boolean) hx hb hr rfl (fun t ht hW => ⟨⟨0, ta__1, rfl, ⟨.inr rfl, by omega, by omega⟩, by rw [ht]; exact hP9, hD9⟩, hS.F ht⟩) hS.2.2 dX6_takeWord_43

theorem dX6_needWord_0 : decode cX6_needWord 0 = .ok (.aload_n 0, 1) := by decide +kernel
theorem dX6_needWord_1 : decode cX6_needWord 1 = .ok (.invokevirtual 52, 3) := by decide +kernel
theorem dX6_needWord_4 : decode cX6_needWord 4 = .ok (.ifCond .ne 20, 3) := by decide +kernel
theorem dX6_needWord_7 : decode cX6_needWord 7 = .ok (.aload_n 0, 1) := by decide +kernel
theorem dX6_needWord_8 : decode cX6_needWord 8 = .ok (.aload_n 1, 1) := by decide +kernel
theorem dX6_needWord_9 : decode cX6_needWord 9 = .ok (.invokevirtual 56, 3) := by decide +kernel
theorem dX6_needWord_12 : decode cX6_needWord 12 = .ok (.ifCond .ne 12, 3) := by decide +kernel
theorem dX6_needWord_15 : decode cX6_needWord 15 = .ok (.aload_n 0, 1) := by decide +kernel
theorem dX6_needWord_16 : decode cX6_needWord 16 = .ok (.iconst 1, 1) := by decide +kernel
theorem dX6_needWord_17 : decode cX6_needWord 17 = .ok (.aload_n 0, 1) := by decide +kernel
theorem dX6_needWord_18 : decode cX6_needWord 18 = .ok (.getfield 19, 3) := by decide +kernel
theorem dX6_needWord_21 : decode cX6_needWord 21 = .ok (.invokevirtual 60, 3) := by decide +kernel
theorem dX6_needWord_24 : decode cX6_needWord 24 = .ok (.return_, 1) := by decide +kernel
set_option maxHeartbeats 4000000 in
set_option maxRecDepth 100000 in
theorem x_needWord (l : Launch) (D : va_G) (k : Nat → ClassId) (st : Nat → Nat) (lo : Nat) (x0 : Nat) (x1 : Nat) (tz : Nat) (ta : Nat) (na : Int32) (fn : Int32) (fb : Int32) (fx : Nat → Int32) (wi : Nat) (ht : ta ≤ tz) (hz : tz ≤ 240) (hwi : wi < 14) : CWv l D k st lo yX6_needWord cX6_needWord 2 none ({ frames := 5, cells := 0, slots := 0, locals := 108 }) 0 0 [.ref x0, .ref (st (100 + wi))] [(x0, .inr (6, (fX6 x1 (nI tz) (nI ta) na fn fb))), (aB k x1 240 fx)] (fun (u : Nat × Int32 × Int32) => match u with | (ta_, fn_, fb_) => ta ≤ ta_ ∧ ta_ ≤ tz ∧ (fn = 0 ∨ ¬ fn_ = 0)) (fun (u : Nat × Int32 × Int32) => match u with | (ta_, fn_, fb_) => [(x0, .inr (6, (fX6 x1 (nI tz) (nI ta_) na fn_ fb_))), (aB k x1 240 fx)]) := by
  intro sz
  refine Met.ofW (cc := cX6_needWord) (maxL := 2) (ret := none) (by decide) rfl ?_
  intro p e s m args below meth c s₁ B hml hv
  obtain ⟨rfl, hsz, hlo, hP, hK, hDL, hZ⟩ := hv
  have hx := B.exec
  have hb := B.bytes
  have hr := B.returns
  have hts := WS_ts B.pre
  have hown : s.vm.findClass RX6 = some m.cls := findClass_of_methodNamed B.named
  have hlocks := B.notSynchronized
  subst hsz
  have hD := hDL.self (sz := s.heap.size)
  have hAlo := A_lo hDL hlo
  generalize hAe : va_A [(x0, .inr (6, (fX6 x1 (nI tz) (nI ta) na fn fb))), (aB k x1 240 fx)] s.heap.size = A at hD hAlo ⊢
  have hA : ∀ q : Nat, s.heap.size ≤ q → A q := fun q h => by rw [← hAe]; exact Or.inr h
  have hS : va_S A s.heap s.heap [] := va_S.rf
  have hl := lv_entry ([.ref x0, .ref (st (100 + wi))]) (n := 2) (Nat.le_of_ble_eq_true rfl)
  rw [lg_entry_eq]
  generalize (lg_sl ([.ref x0, .ref (st (100 + wi))]) ++ List.replicate (2 - (lg_sl ([.ref x0, .ref (st (100 + wi))])).length) Slot.unset).toArray = ls at hl ⊢
  have hl : lv_has ls 2 [(0, .ref x0), (1, .ref (st (100 + wi)))] := hl
  refine lv_aload_n hx hb dX6_needWord_0 rfl (lv_at hl 0 rfl) ?_
  refine ro_i (D := D) (va_runV (As := []) (rest := []) ⟨hx, hb, hml, hown, hts⟩ ((x_failed l D k st lo x0 x1 tz ta na fn fb) s.heap.size) (cwV 0 hts (gV tw_471 tw_368 tw_369 tw_80 tw_370) rfl rfl rfl (by decide +kernel) ⟨Nat.le_of_ble_eq_true rfl, Nat.le_of_ble_eq_true rfl⟩) (pV hS hAlo hlo hP hK (va_Dlo hD hAlo) hZ [0] (by decide) rfl (ci := 6) (q := (RX6, TX6, 6)) (q0 := 0) rfl rfl) rfl rfl hl.1 rfl (lv_room (Nat.le_of_ble_eq_true rfl)) dX6_needWord_1 ⟨Nat.le_of_ble_eq_true rfl, Nat.le_of_ble_eq_true rfl⟩) hS hA hP (fun r_1 H locs hw_1 hP hS => ?_)
  try dsimp only at hw_1
  rcases hw_1 with ⟨rfl, hw_1⟩ | ⟨rfl, rfl⟩
  · refine lv_if_ne (tgt := 24) hx hb dX6_needWord_4 (by decide) (fun _ => ?_) (fun h => absurd h (by decide))
    have hP9 := hP.sub (ws' := [(x0, .inr (6, (fX6 x1 (nI tz) (nI ta) na fn fb))), (aB k x1 240 fx)]) [0, 1] rfl
    have hD9 := hD.sub (ws' := [(x0, .inr (6, (fX6 x1 (nI tz) (nI ta) na fn fb))), (aB k x1 240 fx)]) [0, 1] (by decide) rfl
    exact W.vret hx hb hr (fun t ht hW => ⟨⟨(ta, fn, fb), rfl, ⟨by omega, by omega, (Decidable.em _)⟩, by rw [ht]; exact hP9, hD9⟩, hS.F ht⟩) hS.2.2 dX6_needWord_24
  · refine lv_if_ne (tgt := 24) hx hb dX6_needWord_4 (by decide) (fun h => absurd (by decide) h) (fun _ => ?_)
    refine lv_aload_n hx hb dX6_needWord_7 rfl (lv_at hl 0 rfl) ?_
    refine lv_aload_n hx hb dX6_needWord_8 rfl (lv_at hl 1 rfl) ?_
    refine rw_i (D := D) (wr := []) (va_runV (As := [.ref (st (100 + wi))]) (rest := []) ⟨hx, hb, hml, hown, hts⟩ ((x_takeWord l D k st lo x0 x1 tz ta na 0 fb fx wi (by omega) (by omega) (by omega)) H.size) (cwV 1 hts (gV tw_486 tw_400 tw_401 tw_80 tw_402) rfl rfl rfl (by decide +kernel) ⟨Nat.le_of_ble_eq_true rfl, Nat.le_of_ble_eq_true rfl⟩) (pV hS hAlo hlo hP hK (va_Dlo hD hAlo) hZ [0, 1] (by decide) rfl (ci := 6) (q := (RX6, TX6, 6)) (q0 := 0) rfl rfl) rfl rfl hl.1 rfl (lv_room (Nat.le_of_ble_eq_true rfl)) dX6_needWord_9 ⟨Nat.le_of_ble_eq_true rfl, Nat.le_of_ble_eq_true rfl⟩) hS hA hP hD [0, 1] [] rfl rfl (by decide) (by decide) (fun r_2 u H locs hw_2 hP hD hS => ?_)
    obtain ⟨ta__2, rfl⟩ : ∃ z, z = u := ⟨_, rfl⟩
    replace hP : va_P D classes [(x0, .inr (6, (fX6 x1 (nI tz) (nI ta__2) na 0 fb))), (aB k x1 240 fx)] H := hP
    replace hD : va_D A [(x0, .inr (6, (fX6 x1 (nI tz) (nI ta__2) na 0 fb))), (aB k x1 240 fx)] := hD
    try dsimp only at hw_2
    rcases hw_2 with ⟨rfl | rfl, hw_2⟩
    · refine lv_if_ne (tgt := 24) hx hb dX6_needWord_12 (by decide) (fun _ => ?_) (fun h => absurd h (by decide))
      have hP9 := hP.sub (ws' := [(x0, .inr (6, (fX6 x1 (nI tz) (nI ta__2) na 0 fb))), (aB k x1 240 fx)]) [0, 1] rfl
      have hD9 := hD.sub (ws' := [(x0, .inr (6, (fX6 x1 (nI tz) (nI ta__2) na 0 fb))), (aB k x1 240 fx)]) [0, 1] (by decide) rfl
      exact W.vret hx hb hr (fun t ht hW => ⟨⟨(ta__2, 0, fb), rfl, ⟨by omega, by omega, .inl rfl⟩, by rw [ht]; exact hP9, hD9⟩, hS.F ht⟩) hS.2.2 dX6_needWord_24
    · refine lv_if_ne (tgt := 24) hx hb dX6_needWord_12 (by decide) (fun h => absurd (by decide) h) (fun _ => ?_)
      refine lv_aload_n hx hb dX6_needWord_15 rfl (lv_at hl 0 rfl) ?_
      refine lv_iconst (v := 1) hx hb dX6_needWord_16 (by decide) ?_
      refine lv_aload_n hx hb dX6_needWord_17 rfl (lv_at hl 0 rfl) ?_
      refine va_get (D := D) (ci := 6) (v := .int (nI ta__2)) (C := RX6) (T := TX6) (N := 6) hx hb hts inX6 hown hK hP 0 rfl rfl 2 (by decide) (hts _ tw_113) (fun _ h9 => h9) rfl dX6_needWord_18 ?_
      refine rw_v (D := D) (wr := [(aB k x1 240 fx)]) (va_runV (As := [.int 1, .int (nI ta__2)]) (rest := []) ⟨hx, hb, hml, hown, hts⟩ ((x_fail l D k st lo x0 x1 tz ta__2 na 0 fb 1 (nI ta__2) (by decide)) H.size) (cwV 2 hts (gV tw_476 tw_456 tw_457 tw_80 tw_458) rfl rfl rfl (by decide +kernel) ⟨Nat.le_of_ble_eq_true rfl, Nat.le_of_ble_eq_true rfl⟩) (pV hS hAlo hlo hP hK (va_Dlo hD hAlo) hZ [0] (by decide) rfl (ci := 6) (q := (RX6, TX6, 6)) (q0 := 0) rfl rfl) rfl rfl hl.1 rfl (lv_room (Nat.le_of_ble_eq_true rfl)) dX6_needWord_21 ⟨Nat.le_of_ble_eq_true rfl, Nat.le_of_ble_eq_true rfl⟩) hS hA hP hD [0] [1] rfl rfl (by decide) (by decide) (fun u H locs hw_3 hP hD hS => ?_)
      obtain ⟨fn__3, fb__3⟩ := u
      replace hP : va_P D classes [(aB k x1 240 fx), (x0, .inr (6, (fX6 x1 (nI tz) (nI ta__2) na fn__3 fb__3)))] H := hP
      replace hD : va_D A [(aB k x1 240 fx), (x0, .inr (6, (fX6 x1 (nI tz) (nI ta__2) na fn__3 fb__3)))] := hD
      try dsimp only at hw_3
      have hP9 := hP.sub (ws' := [(x0, .inr (6, (fX6 x1 (nI tz) (nI ta__2) na fn__3 fb__3))), (aB k x1 240 fx)]) [1, 0] rfl
      have hD9 := hD.sub (ws' := [(x0, .inr (6, (fX6 x1 (nI tz) (nI ta__2) na fn__3 fb__3))), (aB k x1 240 fx)]) [1, 0] (by decide) rfl
      exact W.vret hx hb hr (fun t ht hW => ⟨⟨(ta__2, fn__3, fb__3), rfl, ⟨by omega, by omega, .inl rfl⟩, by rw [ht]; exact hP9, hD9⟩, hS.F ht⟩) hS.2.2 dX6_needWord_24

theorem dX6_needSemicolon_0 : decode cX6_needSemicolon 0 = .ok (.aload_n 0, 1) := by decide +kernel
theorem dX6_needSemicolon_1 : decode cX6_needSemicolon 1 = .ok (.invokevirtual 35, 3) := by decide +kernel
theorem dX6_needSemicolon_4 : decode cX6_needSemicolon 4 = .ok (.aload_n 0, 1) := by decide +kernel
theorem dX6_needSemicolon_5 : decode cX6_needSemicolon 5 = .ok (.aload_n 0, 1) := by decide +kernel
theorem dX6_needSemicolon_6 : decode cX6_needSemicolon 6 = .ok (.getfield 19, 3) := by decide +kernel
theorem dX6_needSemicolon_9 : decode cX6_needSemicolon 9 = .ok (.invokevirtual 31, 3) := by decide +kernel
theorem dX6_needSemicolon_12 : decode cX6_needSemicolon 12 = .ok (.bipush 59, 2) := by decide +kernel
theorem dX6_needSemicolon_14 : decode cX6_needSemicolon 14 = .ok (.if_icmp .ne 16, 3) := by decide +kernel
theorem dX6_needSemicolon_17 : decode cX6_needSemicolon 17 = .ok (.aload_n 0, 1) := by decide +kernel
theorem dX6_needSemicolon_18 : decode cX6_needSemicolon 18 = .ok (.dup, 1) := by decide +kernel
theorem dX6_needSemicolon_19 : decode cX6_needSemicolon 19 = .ok (.getfield 19, 3) := by decide +kernel
theorem dX6_needSemicolon_22 : decode cX6_needSemicolon 22 = .ok (.iconst 1, 1) := by decide +kernel
theorem dX6_needSemicolon_23 : decode cX6_needSemicolon 23 = .ok (.iadd, 1) := by decide +kernel
theorem dX6_needSemicolon_24 : decode cX6_needSemicolon 24 = .ok (.putfield 19, 3) := by decide +kernel
theorem dX6_needSemicolon_27 : decode cX6_needSemicolon 27 = .ok (.goto 12, 3) := by decide +kernel
theorem dX6_needSemicolon_30 : decode cX6_needSemicolon 30 = .ok (.aload_n 0, 1) := by decide +kernel
theorem dX6_needSemicolon_31 : decode cX6_needSemicolon 31 = .ok (.iconst 1, 1) := by decide +kernel
theorem dX6_needSemicolon_32 : decode cX6_needSemicolon 32 = .ok (.aload_n 0, 1) := by decide +kernel
theorem dX6_needSemicolon_33 : decode cX6_needSemicolon 33 = .ok (.getfield 19, 3) := by decide +kernel
theorem dX6_needSemicolon_36 : decode cX6_needSemicolon 36 = .ok (.invokevirtual 60, 3) := by decide +kernel
theorem dX6_needSemicolon_39 : decode cX6_needSemicolon 39 = .ok (.return_, 1) := by decide +kernel
set_option maxHeartbeats 4000000 in
set_option maxRecDepth 100000 in
theorem x_needSemicolon (l : Launch) (D : va_G) (k : Nat → ClassId) (st : Nat → Nat) (lo : Nat) (x0 : Nat) (x1 : Nat) (tz : Nat) (ta : Nat) (na : Int32) (fn : Int32) (fb : Int32) (fx : Nat → Int32) (ht : ta ≤ tz) (hz : tz ≤ 240) : CWv l D k st lo yX6_needSemicolon cX6_needSemicolon 1 none ({ frames := 2, cells := 0, slots := 0, locals := 41 }) 0 0 [.ref x0] [(x0, .inr (6, (fX6 x1 (nI tz) (nI ta) na fn fb))), (aB k x1 240 fx)] (fun (u : Nat × Int32 × Int32) => match u with | (ta_, fn_, fb_) => ta ≤ ta_ ∧ ta_ ≤ tz ∧ (fn = 0 ∨ ¬ fn_ = 0)) (fun (u : Nat × Int32 × Int32) => match u with | (ta_, fn_, fb_) => [(x0, .inr (6, (fX6 x1 (nI tz) (nI ta_) na fn_ fb_))), (aB k x1 240 fx)]) := by
  intro sz
  refine Met.ofW (cc := cX6_needSemicolon) (maxL := 1) (ret := none) (by decide) rfl ?_
  intro p e s m args below meth c s₁ B hml hv
  obtain ⟨rfl, hsz, hlo, hP, hK, hDL, hZ⟩ := hv
  have hx := B.exec
  have hb := B.bytes
  have hr := B.returns
  have hts := WS_ts B.pre
  have hown : s.vm.findClass RX6 = some m.cls := findClass_of_methodNamed B.named
  have hlocks := B.notSynchronized
  subst hsz
  have hD := hDL.self (sz := s.heap.size)
  have hAlo := A_lo hDL hlo
  generalize hAe : va_A [(x0, .inr (6, (fX6 x1 (nI tz) (nI ta) na fn fb))), (aB k x1 240 fx)] s.heap.size = A at hD hAlo ⊢
  have hA : ∀ q : Nat, s.heap.size ≤ q → A q := fun q h => by rw [← hAe]; exact Or.inr h
  have hS : va_S A s.heap s.heap [] := va_S.rf
  have hl := lv_entry ([.ref x0]) (n := 1) (Nat.le_of_ble_eq_true rfl)
  rw [lg_entry_eq]
  generalize (lg_sl ([.ref x0]) ++ List.replicate (1 - (lg_sl ([.ref x0])).length) Slot.unset).toArray = ls at hl ⊢
  have hl : lv_has ls 1 [(0, .ref x0)] := hl
  refine lv_aload_n hx hb dX6_needSemicolon_0 rfl (lv_at hl 0 rfl) ?_
  refine rw_v (D := D) (wr := []) (va_runV (As := []) (rest := []) ⟨hx, hb, hml, hown, hts⟩ ((x_skip l D k st lo x0 x1 tz ta na fn fb fx (by omega) (by omega)) s.heap.size) (cwV 0 hts (gV tw_375 tw_376 tw_377 tw_80 tw_378) rfl rfl rfl (by decide +kernel) ⟨Nat.le_of_ble_eq_true rfl, Nat.le_of_ble_eq_true rfl⟩) (pV hS hAlo hlo hP hK (va_Dlo hD hAlo) hZ [0, 1] (by decide) rfl (ci := 6) (q := (RX6, TX6, 6)) (q0 := 0) rfl rfl) rfl rfl hl.1 rfl (lv_room (Nat.le_of_ble_eq_true rfl)) dX6_needSemicolon_1 ⟨Nat.le_of_ble_eq_true rfl, Nat.le_of_ble_eq_true rfl⟩) hS hA hP hD [0, 1] [] rfl rfl (by decide) (by decide) (fun u H locs hw_1 hP hD hS => ?_)
  obtain ⟨ta__1, rfl⟩ : ∃ z, z = u := ⟨_, rfl⟩
  replace hP : va_P D classes [(x0, .inr (6, (fX6 x1 (nI tz) (nI ta__1) na fn fb))), (aB k x1 240 fx)] H := hP
  replace hD : va_D A [(x0, .inr (6, (fX6 x1 (nI tz) (nI ta__1) na fn fb))), (aB k x1 240 fx)] := hD
  try dsimp only at hw_1
  refine lv_aload_n hx hb dX6_needSemicolon_4 rfl (lv_at hl 0 rfl) ?_
  refine lv_aload_n hx hb dX6_needSemicolon_5 rfl (lv_at hl 0 rfl) ?_
  refine va_get (D := D) (ci := 6) (v := .int (nI ta__1)) (C := RX6) (T := TX6) (N := 6) hx hb hts inX6 hown hK hP 0 rfl rfl 2 (by decide) (hts _ tw_113) (fun _ h9 => h9) rfl dX6_needSemicolon_6 ?_
  refine ro_i (D := D) (va_runV (As := [.int (nI ta__1)]) (rest := []) ⟨hx, hb, hml, hown, hts⟩ ((x_byteAt l D k st lo x0 x1 tz ta__1 na fn fb fx ta__1 (by omega) (by omega)) H.size) (cwV 1 hts (gV tw_379 tw_380 tw_381 tw_80 tw_382) rfl rfl rfl (by decide +kernel) ⟨Nat.le_of_ble_eq_true rfl, Nat.le_of_ble_eq_true rfl⟩) (pV hS hAlo hlo hP hK (va_Dlo hD hAlo) hZ [0, 1] (by decide) rfl (ci := 6) (q := (RX6, TX6, 6)) (q0 := 0) rfl rfl) rfl rfl hl.1 rfl (lv_room (Nat.le_of_ble_eq_true rfl)) dX6_needSemicolon_9 ⟨Nat.le_of_ble_eq_true rfl, Nat.le_of_ble_eq_true rfl⟩) hS hA hP (fun r_2 H locs hw_2 hP hS => ?_)
  try dsimp only at hw_2
  refine lv_bipush (v := 59) hx hb dX6_needSemicolon_12 (by decide) ?_
  refine lv_icmp_ne (tgt := 30) hx hb dX6_needSemicolon_14 (by decide) (fun c_3 => ?_) (fun c_3 => ?_)
  · refine lv_aload_n hx hb dX6_needSemicolon_30 rfl (lv_at hl 0 rfl) ?_
    refine lv_iconst (v := 1) hx hb dX6_needSemicolon_31 (by decide) ?_
    refine lv_aload_n hx hb dX6_needSemicolon_32 rfl (lv_at hl 0 rfl) ?_
    refine va_get (D := D) (ci := 6) (v := .int (nI ta__1)) (C := RX6) (T := TX6) (N := 6) hx hb hts inX6 hown hK hP 0 rfl rfl 2 (by decide) (hts _ tw_113) (fun _ h9 => h9) rfl dX6_needSemicolon_33 ?_
    refine rw_v (D := D) (wr := [(aB k x1 240 fx)]) (va_runV (As := [.int 1, .int (nI ta__1)]) (rest := []) ⟨hx, hb, hml, hown, hts⟩ ((x_fail l D k st lo x0 x1 tz ta__1 na fn fb 1 (nI ta__1) (by decide)) H.size) (cwV 2 hts (gV tw_476 tw_456 tw_457 tw_80 tw_458) rfl rfl rfl (by decide +kernel) ⟨Nat.le_of_ble_eq_true rfl, Nat.le_of_ble_eq_true rfl⟩) (pV hS hAlo hlo hP hK (va_Dlo hD hAlo) hZ [0] (by decide) rfl (ci := 6) (q := (RX6, TX6, 6)) (q0 := 0) rfl rfl) rfl rfl hl.1 rfl (lv_room (Nat.le_of_ble_eq_true rfl)) dX6_needSemicolon_36 ⟨Nat.le_of_ble_eq_true rfl, Nat.le_of_ble_eq_true rfl⟩) hS hA hP hD [0] [1] rfl rfl (by decide) (by decide) (fun u H locs hw_4 hP hD hS => ?_)
    obtain ⟨fn__4, fb__4⟩ := u
    replace hP : va_P D classes [(aB k x1 240 fx), (x0, .inr (6, (fX6 x1 (nI tz) (nI ta__1) na fn__4 fb__4)))] H := hP
    replace hD : va_D A [(aB k x1 240 fx), (x0, .inr (6, (fX6 x1 (nI tz) (nI ta__1) na fn__4 fb__4)))] := hD
    try dsimp only at hw_4
    have hP9 := hP.sub (ws' := [(x0, .inr (6, (fX6 x1 (nI tz) (nI ta__1) na fn__4 fb__4))), (aB k x1 240 fx)]) [1, 0] rfl
    have hD9 := hD.sub (ws' := [(x0, .inr (6, (fX6 x1 (nI tz) (nI ta__1) na fn__4 fb__4))), (aB k x1 240 fx)]) [1, 0] (by decide) rfl
    exact W.vret hx hb hr (fun t ht hW => ⟨⟨(ta__1, fn__4, fb__4), rfl, ⟨by omega, by omega, .inr hw_4⟩, by rw [ht]; exact hP9, hD9⟩, hS.F ht⟩) hS.2.2 dX6_needSemicolon_39
  · have hlt_5 := hw_2.resolve_left (fun h => absurd (h.symm.trans c_3) (by decide))
    refine lv_aload_n hx hb dX6_needSemicolon_17 rfl (lv_at hl 0 rfl) ?_
    refine lv_dup hx hb dX6_needSemicolon_18 rfl ?_
    refine va_get (D := D) (ci := 6) (v := .int (nI ta__1)) (C := RX6) (T := TX6) (N := 6) hx hb hts inX6 hown hK hP 0 rfl rfl 2 (by decide) (hts _ tw_113) (fun _ h9 => h9) rfl dX6_needSemicolon_19 ?_
    refine lv_iconst (v := 1) hx hb dX6_needSemicolon_22 (by decide) ?_
    refine lv_iadd hx hb dX6_needSemicolon_23 ?_
    refine lv_ti (y := (nI (ta__1 + 1))) (nI_add ta__1 1) ?_
    refine va_put (D := D) (ci := 6) (v := .int (nI (ta__1 + 1))) (ty := .int) (C := RX6) (T := TX6) (N := 6) hx hb hts inX6 tyX6 tyX6_ok nmX6 hown hK hP hD hS 0 rfl rfl 2 (by decide) (hts _ tw_113) (fun _ h9 => h9) rfl (by decide +kernel) rfl rfl (Nat.le_of_ble_eq_true rfl) dX6_needSemicolon_24 (fun H locs hP hD hS => ?_)
    replace hP : va_P D classes [(x0, .inr (6, (fX6 x1 (nI tz) (nI (ta__1 + 1)) na fn fb))), (aB k x1 240 fx)] H := hP
    replace hD : va_D A [(x0, .inr (6, (fX6 x1 (nI tz) (nI (ta__1 + 1)) na fn fb))), (aB k x1 240 fx)] := hD
    refine lv_goto (tgt := 39) hx hb dX6_needSemicolon_27 (by decide) ?_
    have hP9 := hP.sub (ws' := [(x0, .inr (6, (fX6 x1 (nI tz) (nI (ta__1 + 1)) na fn fb))), (aB k x1 240 fx)]) [0, 1] rfl
    have hD9 := hD.sub (ws' := [(x0, .inr (6, (fX6 x1 (nI tz) (nI (ta__1 + 1)) na fn fb))), (aB k x1 240 fx)]) [0, 1] (by decide) rfl
    exact W.vret hx hb hr (fun t ht hW => ⟨⟨((ta__1 + 1), fn, fb), rfl, ⟨by omega, by omega, (Decidable.em _)⟩, by rw [ht]; exact hP9, hD9⟩, hS.F ht⟩) hS.2.2 dX6_needSemicolon_39


theorem dX6_append_0 : decode cX6_append 0 = .ok (.aload_n 0, 1) := by decide +kernel
theorem dX6_append_1 : decode cX6_append 1 = .ok (.getfield 15, 3) := by decide +kernel
theorem dX6_append_4 : decode cX6_append 4 = .ok (.sipush 240, 3) := by decide +kernel
theorem dX6_append_7 : decode cX6_append 7 = .ok (.if_icmp .ge 23, 3) := by decide +kernel
theorem dX6_append_10 : decode cX6_append 10 = .ok (.aload_n 0, 1) := by decide +kernel
theorem dX6_append_11 : decode cX6_append 11 = .ok (.getfield 9, 3) := by decide +kernel
theorem dX6_append_14 : decode cX6_append 14 = .ok (.aload_n 0, 1) := by decide +kernel
theorem dX6_append_15 : decode cX6_append 15 = .ok (.getfield 15, 3) := by decide +kernel
theorem dX6_append_18 : decode cX6_append 18 = .ok (.iload_n 1, 1) := by decide +kernel
theorem dX6_append_19 : decode cX6_append 19 = .ok (.bastore, 1) := by decide +kernel
theorem dX6_append_20 : decode cX6_append 20 = .ok (.aload_n 0, 1) := by decide +kernel
theorem dX6_append_21 : decode cX6_append 21 = .ok (.dup, 1) := by decide +kernel
theorem dX6_append_22 : decode cX6_append 22 = .ok (.getfield 15, 3) := by decide +kernel
theorem dX6_append_25 : decode cX6_append 25 = .ok (.iconst 1, 1) := by decide +kernel
theorem dX6_append_26 : decode cX6_append 26 = .ok (.iadd, 1) := by decide +kernel
theorem dX6_append_27 : decode cX6_append 27 = .ok (.putfield 15, 3) := by decide +kernel
theorem dX6_append_30 : decode cX6_append 30 = .ok (.return_, 1) := by decide +kernel
set_option maxHeartbeats 4000000 in
set_option maxRecDepth 100000 in
theorem x_append (l : Launch) (D : va_G) (k : Nat → ClassId) (st : Nat → Nat) (lo : Nat) (x0 : Nat) (x1 : Nat) (tz : Nat) (ta : Int32) (na : Int32) (fn : Int32) (fb : Int32) (fx : Nat → Int32) (p0 : Int32) (hz : tz ≤ 240) : CWv l D k st lo yX6_append cX6_append 2 none ({ frames := 0, cells := 0, slots := 0, locals := 0 }) 0 0 [.ref x0, .int p0] [(x0, .inr (6, [.ref x1, .int (nI tz), .int ta, .int na, .int fn, .int fb])), (x1, .inl (k 0, 240, .inl fx))] (fun (u : Nat × (Nat → Int32)) => match u with | (tz_, fx_) => tz ≤ tz_ ∧ tz_ ≤ 240) (fun (u : Nat × (Nat → Int32)) => match u with | (tz_, fx_) => [(x0, .inr (6, [.ref x1, .int (nI tz_), .int ta, .int na, .int fn, .int fb])), (x1, .inl (k 0, 240, .inl fx_))]) := by
  intro sz
  refine Met.ofW (cc := cX6_append) (maxL := 2) (ret := none) (by decide) rfl ?_
  intro p e s m args below meth c s₁ B hml hv
  obtain ⟨rfl, hsz, hlo, hP, hK, hDL, hZ⟩ := hv
  have hx := B.exec
  have hb := B.bytes
  have hr := B.returns
  have hts := WS_ts B.pre
  have hown : s.vm.findClass RX6 = some m.cls := findClass_of_methodNamed B.named
  have hlocks := B.notSynchronized
  subst hsz
  have hD := hDL.self (sz := s.heap.size)
  have hAlo := A_lo hDL hlo
  generalize hAe : va_A [(x0, .inr (6, [.ref x1, .int (nI tz), .int ta, .int na, .int fn, .int fb])), (x1, .inl (k 0, 240, .inl fx))] s.heap.size = A at hD hAlo ⊢
  have hA : ∀ q : Nat, s.heap.size ≤ q → A q := fun q h => by rw [← hAe]; exact Or.inr h
  have hS : va_S A s.heap s.heap [] := va_S.rf
  have hl := lv_entry ([.ref x0, .int p0]) (n := 2) (Nat.le_of_ble_eq_true rfl)
  rw [lg_entry_eq]
  generalize (lg_sl ([.ref x0, .int p0]) ++ List.replicate (2 - (lg_sl ([.ref x0, .int p0])).length) Slot.unset).toArray = ls at hl ⊢
  have hl : lv_has ls 2 [(0, .ref x0), (1, .int p0)] := hl
  refine lv_aload_n hx hb dX6_append_0 rfl (lv_at hl 0 rfl) ?_
  refine va_get (D := D) (ci := 6) (v := .int (nI tz)) (C := RX6) (T := TX6) (N := 6) hx hb hts inX6 hown hK hP 0 rfl rfl 1 (by decide) (hts _ tw_110) (fun _ h9 => h9) rfl dX6_append_1 ?_
  refine lv_sipush (v := 240) hx hb dX6_append_4 (by decide) ?_
  refine lv_icmp_ge (tgt := 30) hx hb dX6_append_7 (by decide) (fun c_1 => ?_) (fun c_1 => ?_)
  · have c_1 := (nI_leI (a := 240) (b := tz) (by omega) (by omega)).mp c_1
    have hP9 := hP.sub (ws' := [(x0, .inr (6, [.ref x1, .int (nI tz), .int ta, .int na, .int fn, .int fb])), (x1, .inl (k 0, 240, .inl fx))]) [0, 1] rfl
    have hD9 := hD.sub (ws' := [(x0, .inr (6, [.ref x1, .int (nI tz), .int ta, .int na, .int fn, .int fb])), (x1, .inl (k 0, 240, .inl fx))]) [0, 1] (by decide) rfl
    exact W.vret hx hb hr (fun t ht hW => ⟨⟨(tz, fx), rfl, ⟨by omega, by omega⟩, by rw [ht]; exact hP9, hD9⟩, hS.F ht⟩) hS.2.2 dX6_append_30
  · have c_1 : ¬ (240 ≤ tz) := fun h => c_1 ((nI_leI (a := 240) (b := tz) (by omega) (by omega)).mpr h)
    refine lv_aload_n hx hb dX6_append_10 rfl (lv_at hl 0 rfl) ?_
    refine va_get (D := D) (ci := 6) (v := .ref x1) (C := RX6) (T := TX6) (N := 6) hx hb hts inX6 hown hK hP 0 rfl rfl 0 (by decide) (hts _ tw_109) (fun _ h9 => h9) rfl dX6_append_11 ?_
    refine lv_aload_n hx hb dX6_append_14 rfl (lv_at hl 0 rfl) ?_
    refine va_get (D := D) (ci := 6) (v := .int (nI tz)) (C := RX6) (T := TX6) (N := 6) hx hb hts inX6 hown hK hP 0 rfl rfl 1 (by decide) (hts _ tw_110) (fun _ h9 => h9) rfl dX6_append_15 ?_
    refine lv_iload_n hx hb dX6_append_18 rfl (lv_at hl 1 rfl) ?_
    refine va_bast hx hb hK hP hD hS 1 0 rfl rfl (vp_in_nI (by omega) (by decide)) dX6_append_19 (fun H locs hP hD hS => ?_)
    replace hP : va_P D classes [(x0, .inr (6, [.ref x1, .int (nI tz), .int ta, .int na, .int fn, .int fb])), (x1, .inl (k 0, 240, .inl (upd fx (Int32.toNatClampNeg (nI tz)) (vp_nar .byte p0))))] H := hP
    replace hD : va_D A [(x0, .inr (6, [.ref x1, .int (nI tz), .int ta, .int na, .int fn, .int fb])), (x1, .inl (k 0, 240, .inl (upd fx (Int32.toNatClampNeg (nI tz)) (vp_nar .byte p0))))] := hD
    generalize (upd fx (Int32.toNatClampNeg (nI tz)) (vp_nar .byte p0)) = f_2 at hP hD
    refine lv_aload_n hx hb dX6_append_20 rfl (lv_at hl 0 rfl) ?_
    refine lv_dup hx hb dX6_append_21 rfl ?_
    refine va_get (D := D) (ci := 6) (v := .int (nI tz)) (C := RX6) (T := TX6) (N := 6) hx hb hts inX6 hown hK hP 0 rfl rfl 1 (by decide) (hts _ tw_110) (fun _ h9 => h9) rfl dX6_append_22 ?_
    refine lv_iconst (v := 1) hx hb dX6_append_25 (by decide) ?_
    refine lv_iadd hx hb dX6_append_26 ?_
    refine lv_ti (y := (nI (tz + 1))) (nI_add tz 1) ?_
    refine va_put (D := D) (ci := 6) (v := .int (nI (tz + 1))) (ty := .int) (C := RX6) (T := TX6) (N := 6) hx hb hts inX6 tyX6 tyX6_ok nmX6 hown hK hP hD hS 0 rfl rfl 1 (by decide) (hts _ tw_110) (fun _ h9 => h9) rfl (by decide +kernel) rfl rfl (Nat.le_of_ble_eq_true rfl) dX6_append_27 (fun H locs hP hD hS => ?_)
    replace hP : va_P D classes [(x0, .inr (6, [.ref x1, .int (nI (tz + 1)), .int ta, .int na, .int fn, .int fb])), (x1, .inl (k 0, 240, .inl f_2))] H := hP
    replace hD : va_D A [(x0, .inr (6, [.ref x1, .int (nI (tz + 1)), .int ta, .int na, .int fn, .int fb])), (x1, .inl (k 0, 240, .inl f_2))] := hD
    have hP9 := hP.sub (ws' := [(x0, .inr (6, [.ref x1, .int (nI (tz + 1)), .int ta, .int na, .int fn, .int fb])), (x1, .inl (k 0, 240, .inl f_2))]) [0, 1] rfl
    have hD9 := hD.sub (ws' := [(x0, .inr (6, [.ref x1, .int (nI (tz + 1)), .int ta, .int na, .int fn, .int fb])), (x1, .inl (k 0, 240, .inl f_2))]) [0, 1] (by decide) rfl
    exact W.vret hx hb hr (fun t ht hW => ⟨⟨((tz + 1), f_2), rfl, ⟨by omega, by omega⟩, by rw [ht]; exact hP9, hD9⟩, hS.F ht⟩) hS.2.2 dX6_append_30


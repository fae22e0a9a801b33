theorem dX6_rewind_0 : decode cX6_rewind 0 = .ok (.aload_n 0, 1) := by decide +kernel
theorem dX6_rewind_1 : decode cX6_rewind 1 = .ok (.iconst 0, 1) := by decide +kernel
theorem dX6_rewind_2 : decode cX6_rewind 2 = .ok (.putfield 19, 3) := by decide +kernel
theorem dX6_rewind_5 : decode cX6_rewind 5 = .ok (.aload_n 0, 1) := by decide +kernel
theorem dX6_rewind_6 : decode cX6_rewind 6 = .ok (.iconst 0, 1) := by decide +kernel
theorem dX6_rewind_7 : decode cX6_rewind 7 = .ok (.putfield 22, 3) := by decide +kernel
theorem dX6_rewind_10 : decode cX6_rewind 10 = .ok (.aload_n 0, 1) := by decide +kernel
theorem dX6_rewind_11 : decode cX6_rewind 11 = .ok (.iconst 0, 1) := by decide +kernel
theorem dX6_rewind_12 : decode cX6_rewind 12 = .ok (.putfield 25, 3) := by decide +kernel
theorem dX6_rewind_15 : decode cX6_rewind 15 = .ok (.aload_n 0, 1) := by decide +kernel
theorem dX6_rewind_16 : decode cX6_rewind 16 = .ok (.iconst 0, 1) := by decide +kernel
theorem dX6_rewind_17 : decode cX6_rewind 17 = .ok (.putfield 28, 3) := by decide +kernel
theorem dX6_rewind_20 : decode cX6_rewind 20 = .ok (.return_, 1) := by decide +kernel
set_option maxHeartbeats 4000000 in
set_option maxRecDepth 100000 in
theorem x_rewind (l : Launch) (D : va_G) (k : Nat → ClassId) (st : Nat → Nat) (lo : Nat) (x0 : Nat) (x1 : Nat) (tz : Nat) (ta : Int32) (na : Int32) (fn : Int32) (fb : Int32) (fx : Nat → Int32)  : CWv l D k st lo yX6_rewind cX6_rewind 1 none ({ frames := 0, cells := 0, slots := 0, locals := 0 }) 0 0 [.ref x0] [(x0, .inr (6, [.ref x1, .int (nI tz), .int ta, .int na, .int fn, .int fb])), (x1, .inl (k 0, 240, .inl fx))] (fun (u : Int32 × Int32 × Int32 × Int32) => match u with | (ta_, na_, fn_, fb_) => ta_ = 0 ∧ fn_ = 0) (fun (u : Int32 × Int32 × Int32 × Int32) => match u with | (ta_, na_, fn_, fb_) => [(x0, .inr (6, [.ref x1, .int (nI tz), .int ta_, .int na_, .int fn_, .int fb_])), (x1, .inl (k 0, 240, .inl fx))]) := by
  intro sz
  refine Met.ofW (cc := cX6_rewind) (maxL := 1) (ret := none) (by decide) rfl ?_
  intro p e s m args below meth c s₁ B hml hv
  obtain ⟨rfl, hsz, hlo, hP, hK, hDL, hZ⟩ := hv
  have hx := B.exec
  have hb := B.bytes
  have hr := B.returns
  have hts := WS_ts B.pre
  have hown : s.vm.findClass RX6 = some m.cls := findClass_of_methodNamed B.named
  have hlocks := B.notSynchronized
  subst hsz
  have hD := hDL.self (sz := s.heap.size)
  have hAlo := A_lo hDL hlo
  generalize hAe : va_A [(x0, .inr (6, [.ref x1, .int (nI tz), .int ta, .int na, .int fn, .int fb])), (x1, .inl (k 0, 240, .inl fx))] s.heap.size = A at hD hAlo ⊢
  have hA : ∀ q : Nat, s.heap.size ≤ q → A q := fun q h => by rw [← hAe]; exact Or.inr h
  have hS : va_S A s.heap s.heap [] := va_S.rf
  have hl := lv_entry ([.ref x0]) (n := 1) (Nat.le_of_ble_eq_true rfl)
  rw [lg_entry_eq]
  generalize (lg_sl ([.ref x0]) ++ List.replicate (1 - (lg_sl ([.ref x0])).length) Slot.unset).toArray = ls at hl ⊢
  have hl : lv_has ls 1 [(0, .ref x0)] := hl
  refine lv_aload_n hx hb dX6_rewind_0 rfl (lv_at hl 0 rfl) ?_
  refine lv_iconst (v := 0) hx hb dX6_rewind_1 (by decide) ?_
  refine va_put (D := D) (ci := 6) (v := .int 0) (ty := .int) (C := RX6) (T := TX6) (N := 6) hx hb hts inX6 tyX6 tyX6_ok nmX6 hown hK hP hD hS 0 rfl rfl 2 (by decide) (hts _ tw_113) (fun _ h9 => h9) rfl (by decide +kernel) rfl rfl (Nat.le_of_ble_eq_true rfl) dX6_rewind_2 (fun H locs hP hD hS => ?_)
  replace hP : va_P D classes [(x0, .inr (6, [.ref x1, .int (nI tz), .int 0, .int na, .int fn, .int fb])), (x1, .inl (k 0, 240, .inl fx))] H := hP
  replace hD : va_D A [(x0, .inr (6, [.ref x1, .int (nI tz), .int 0, .int na, .int fn, .int fb])), (x1, .inl (k 0, 240, .inl fx))] := hD
  refine lv_aload_n hx hb dX6_rewind_5 rfl (lv_at hl 0 rfl) ?_
  refine lv_iconst (v := 0) hx hb dX6_rewind_6 (by decide) ?_
  refine va_put (D := D) (ci := 6) (v := .int 0) (ty := .int) (C := RX6) (T := TX6) (N := 6) hx hb hts inX6 tyX6 tyX6_ok nmX6 hown hK hP hD hS 0 rfl rfl 3 (by decide) (hts _ tw_116) (fun _ h9 => h9) rfl (by decide +kernel) rfl rfl (Nat.le_of_ble_eq_true rfl) dX6_rewind_7 (fun H locs hP hD hS => ?_)
  replace hP : va_P D classes [(x0, .inr (6, [.ref x1, .int (nI tz), .int 0, .int 0, .int fn, .int fb])), (x1, .inl (k 0, 240, .inl fx))] H := hP
  replace hD : va_D A [(x0, .inr (6, [.ref x1, .int (nI tz), .int 0, .int 0, .int fn, .int fb])), (x1, .inl (k 0, 240, .inl fx))] := hD
  refine lv_aload_n hx hb dX6_rewind_10 rfl (lv_at hl 0 rfl) ?_
  refine lv_iconst (v := 0) hx hb dX6_rewind_11 (by decide) ?_
  refine va_put (D := D) (ci := 6) (v := .int 0) (ty := .int) (C := RX6) (T := TX6) (N := 6) hx hb hts inX6 tyX6 tyX6_ok nmX6 hown hK hP hD hS 0 rfl rfl 4 (by decide) (hts _ tw_119) (fun _ h9 => h9) rfl (by decide +kernel) rfl rfl (Nat.le_of_ble_eq_true rfl) dX6_rewind_12 (fun H locs hP hD hS => ?_)
  replace hP : va_P D classes [(x0, .inr (6, [.ref x1, .int (nI tz), .int 0, .int 0, .int 0, .int fb])), (x1, .inl (k 0, 240, .inl fx))] H := hP
  replace hD : va_D A [(x0, .inr (6, [.ref x1, .int (nI tz), .int 0, .int 0, .int 0, .int fb])), (x1, .inl (k 0, 240, .inl fx))] := hD
  refine lv_aload_n hx hb dX6_rewind_15 rfl (lv_at hl 0 rfl) ?_
  refine lv_iconst (v := 0) hx hb dX6_rewind_16 (by decide) ?_
  refine va_put (D := D) (ci := 6) (v := .int 0) (ty := .int) (C := RX6) (T := TX6) (N := 6) hx hb hts inX6 tyX6 tyX6_ok nmX6 hown hK hP hD hS 0 rfl rfl 5 (by decide) (hts _ tw_121) (fun _ h9 => h9) rfl (by decide +kernel) rfl rfl (Nat.le_of_ble_eq_true rfl) dX6_rewind_17 (fun H locs hP hD hS => ?_)
  replace hP : va_P D classes [(x0, .inr (6, [.ref x1, .int (nI tz), .int 0, .int 0, .int 0, .int 0])), (x1, .inl (k 0, 240, .inl fx))] H := hP
  replace hD : va_D A [(x0, .inr (6, [.ref x1, .int (nI tz), .int 0, .int 0, .int 0, .int 0])), (x1, .inl (k 0, 240, .inl fx))] := hD
  have hP9 := hP.sub (ws' := [(x0, .inr (6, [.ref x1, .int (nI tz), .int 0, .int 0, .int 0, .int 0])), (x1, .inl (k 0, 240, .inl fx))]) [0, 1] rfl
  have hD9 := hD.sub (ws' := [(x0, .inr (6, [.ref x1, .int (nI tz), .int 0, .int 0, .int 0, .int 0])), (x1, .inl (k 0, 240, .inl fx))]) [0, 1] (by decide) rfl
  exact W.vret hx hb hr (fun t ht hW => ⟨⟨(0, 0, 0, 0), rfl, ⟨rfl, rfl⟩, by rw [ht]; exact hP9, hD9⟩, hS.F ht⟩) hS.2.2 dX6_rewind_20


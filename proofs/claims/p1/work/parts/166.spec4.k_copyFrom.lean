theorem dX4_copyFrom_0 : decode cX4_copyFrom 0 = .ok (.aload_n 1, 1) := by decide +kernel
theorem dX4_copyFrom_1 : decode cX4_copyFrom 1 = .ok (.getfield 9, 3) := by decide +kernel
theorem dX4_copyFrom_4 : decode cX4_copyFrom 4 = .ok (.iconst 0, 1) := by decide +kernel
theorem dX4_copyFrom_5 : decode cX4_copyFrom 5 = .ok (.aload_n 0, 1) := by decide +kernel
theorem dX4_copyFrom_6 : decode cX4_copyFrom 6 = .ok (.getfield 9, 3) := by decide +kernel
theorem dX4_copyFrom_9 : decode cX4_copyFrom 9 = .ok (.iconst 0, 1) := by decide +kernel
theorem dX4_copyFrom_10 : decode cX4_copyFrom 10 = .ok (.iconst 4, 1) := by decide +kernel
theorem dX4_copyFrom_11 : decode cX4_copyFrom 11 = .ok (.invokestatic 31, 3) := by decide +kernel
theorem dX4_copyFrom_14 : decode cX4_copyFrom 14 = .ok (.aload_n 1, 1) := by decide +kernel
theorem dX4_copyFrom_15 : decode cX4_copyFrom 15 = .ok (.getfield 15, 3) := by decide +kernel
theorem dX4_copyFrom_18 : decode cX4_copyFrom 18 = .ok (.iconst 0, 1) := by decide +kernel
theorem dX4_copyFrom_19 : decode cX4_copyFrom 19 = .ok (.aload_n 0, 1) := by decide +kernel
theorem dX4_copyFrom_20 : decode cX4_copyFrom 20 = .ok (.getfield 15, 3) := by decide +kernel
theorem dX4_copyFrom_23 : decode cX4_copyFrom 23 = .ok (.iconst 0, 1) := by decide +kernel
theorem dX4_copyFrom_24 : decode cX4_copyFrom 24 = .ok (.iconst 4, 1) := by decide +kernel
theorem dX4_copyFrom_25 : decode cX4_copyFrom 25 = .ok (.invokestatic 31, 3) := by decide +kernel
theorem dX4_copyFrom_28 : decode cX4_copyFrom 28 = .ok (.aload_n 0, 1) := by decide +kernel
theorem dX4_copyFrom_29 : decode cX4_copyFrom 29 = .ok (.aload_n 1, 1) := by decide +kernel
theorem dX4_copyFrom_30 : decode cX4_copyFrom 30 = .ok (.getfield 18, 3) := by decide +kernel
theorem dX4_copyFrom_33 : decode cX4_copyFrom 33 = .ok (.putfield 18, 3) := by decide +kernel
theorem dX4_copyFrom_36 : decode cX4_copyFrom 36 = .ok (.aload_n 0, 1) := by decide +kernel
theorem dX4_copyFrom_37 : decode cX4_copyFrom 37 = .ok (.aload_n 1, 1) := by decide +kernel
theorem dX4_copyFrom_38 : decode cX4_copyFrom 38 = .ok (.getfield 22, 3) := by decide +kernel
theorem dX4_copyFrom_41 : decode cX4_copyFrom 41 = .ok (.putfield 22, 3) := by decide +kernel
theorem dX4_copyFrom_44 : decode cX4_copyFrom 44 = .ok (.aload_n 0, 1) := by decide +kernel
theorem dX4_copyFrom_45 : decode cX4_copyFrom 45 = .ok (.aload_n 1, 1) := by decide +kernel
theorem dX4_copyFrom_46 : decode cX4_copyFrom 46 = .ok (.getfield 25, 3) := by decide +kernel
theorem dX4_copyFrom_49 : decode cX4_copyFrom 49 = .ok (.putfield 25, 3) := by decide +kernel
theorem dX4_copyFrom_52 : decode cX4_copyFrom 52 = .ok (.aload_n 0, 1) := by decide +kernel
theorem dX4_copyFrom_53 : decode cX4_copyFrom 53 = .ok (.aload_n 1, 1) := by decide +kernel
theorem dX4_copyFrom_54 : decode cX4_copyFrom 54 = .ok (.getfield 28, 3) := by decide +kernel
theorem dX4_copyFrom_57 : decode cX4_copyFrom 57 = .ok (.putfield 28, 3) := by decide +kernel
theorem dX4_copyFrom_60 : decode cX4_copyFrom 60 = .ok (.return_, 1) := by decide +kernel
set_option maxHeartbeats 4000000 in
set_option maxRecDepth 100000 in
theorem k_copyFrom (l : Launch) (D : va_G) (k : Nat → ClassId) (st : Nat → Nat) (lo : Nat) (h0 : Nat) (h1 : Nat) (h2 : Nat) (o0 : Nat) (o1 : Nat) (o2 : Nat) (f : Nat → Int32) (g : Nat → Int32) (f2 : Nat → Int32) (g2 : Nat → Int32)  : CWv l D k st lo yX4_copyFrom cX4_copyFrom 2 none ({ frames := 1, cells := 0, slots := 0, locals := 60 }) 0 0 [.ref h0, .ref o0] [(h0, .inr (4, [.ref h1, .ref h2, .int 0, .int 0, .int 0, .int 0])), (h1, .inl (k 1, 4, .inl f)), (h2, .inl (k 1, 4, .inl g)), (o0, .inr (4, [.ref o1, .ref o2, .int 0, .int 0, .int 0, .int 0])), (o1, .inl (k 1, 4, .inl f2)), (o2, .inl (k 1, 4, .inl g2))] (fun (_ : Unit) => True) (fun (_ : Unit) => []) := by
  intro sz
  refine Met.ofW (cc := cX4_copyFrom) (maxL := 2) (ret := none) (by decide) rfl ?_
  intro p e s m args below meth c s₁ B hml hv
  obtain ⟨rfl, hsz, hlo, hP, hK, hDL, hZ⟩ := hv
  have hx := B.exec
  have hb := B.bytes
  have hr := B.returns
  have hts := WS_ts B.pre
  have hown : s.vm.findClass RX4 = some m.cls := findClass_of_methodNamed B.named
  have hlocks := B.notSynchronized
  subst hsz
  have hD := hDL.self (sz := s.heap.size)
  have hAlo := A_lo hDL hlo
  generalize hAe : va_A [(h0, .inr (4, [.ref h1, .ref h2, .int 0, .int 0, .int 0, .int 0])), (h1, .inl (k 1, 4, .inl f)), (h2, .inl (k 1, 4, .inl g)), (o0, .inr (4, [.ref o1, .ref o2, .int 0, .int 0, .int 0, .int 0])), (o1, .inl (k 1, 4, .inl f2)), (o2, .inl (k 1, 4, .inl g2))] s.heap.size = A at hD hAlo ⊢
  have hA : ∀ q : Nat, s.heap.size ≤ q → A q := fun q h => by rw [← hAe]; exact Or.inr h
  have hS : va_S A s.heap s.heap [] := va_S.rf
  have hl := lv_entry ([.ref h0, .ref o0]) (n := 2) (Nat.le_of_ble_eq_true rfl)
  rw [lg_entry_eq]
  generalize (lg_sl ([.ref h0, .ref o0]) ++ List.replicate (2 - (lg_sl ([.ref h0, .ref o0])).length) Slot.unset).toArray = ls at hl ⊢
  have hl : lv_has ls 2 [(0, .ref h0), (1, .ref o0)] := hl
  refine lv_aload_n hx hb dX4_copyFrom_0 rfl (lv_at hl 1 rfl) ?_
  refine va_get (D := D) (ci := 4) (v := .ref o1) (C := RX4) (T := TX4) (N := 6) hx hb hts inX4 hown hK hP 3 rfl rfl 0 (by decide) (hts _ tw_173) (fun _ h9 => h9) rfl dX4_copyFrom_1 ?_
  refine lv_iconst (v := 0) hx hb dX4_copyFrom_4 (by decide) ?_
  refine lv_aload_n hx hb dX4_copyFrom_5 rfl (lv_at hl 0 rfl) ?_
  refine va_get (D := D) (ci := 4) (v := .ref h1) (C := RX4) (T := TX4) (N := 6) hx hb hts inX4 hown hK hP 0 rfl rfl 0 (by decide) (hts _ tw_173) (fun _ h9 => h9) rfl dX4_copyFrom_6 ?_
  refine lv_iconst (v := 0) hx hb dX4_copyFrom_9 (by decide) ?_
  refine lv_iconst (v := 4) hx hb dX4_copyFrom_10 (by decide) ?_
  refine va_copyi hx hb (by rw [hml]; exact hl.1.symm) hown (hts _ tw_883) (hts _ tw_366) (hts _ tw_365) (hts _ tw_88) hK hP hD hS 4 1 1 1 rfl rfl rfl rfl rfl (by decide) (by decide) (by decide) (by decide) (by decide) (fun _ _ => rfl) (Nat.le_of_ble_eq_true rfl) (Nat.le_of_ble_eq_true rfl) dX4_copyFrom_11 (fun H locs hP hD hS => ?_)
  have hP : va_P D classes [(h0, .inr (4, [.ref h1, .ref h2, .int 0, .int 0, .int 0, .int 0])), (h1, .inl (k 1, 4, .inl (va_cpy f2 f 0 0 4))), (h2, .inl (k 1, 4, .inl g)), (o0, .inr (4, [.ref o1, .ref o2, .int 0, .int 0, .int 0, .int 0])), (o1, .inl (k 1, 4, .inl f2)), (o2, .inl (k 1, 4, .inl g2))] H := hP
  have hD : va_D A [(h0, .inr (4, [.ref h1, .ref h2, .int 0, .int 0, .int 0, .int 0])), (h1, .inl (k 1, 4, .inl (va_cpy f2 f 0 0 4))), (h2, .inl (k 1, 4, .inl g)), (o0, .inr (4, [.ref o1, .ref o2, .int 0, .int 0, .int 0, .int 0])), (o1, .inl (k 1, 4, .inl f2)), (o2, .inl (k 1, 4, .inl g2))] := hD
  generalize (va_cpy f2 f 0 0 4) = f_1 at hP hD
  refine lv_aload_n hx hb dX4_copyFrom_14 rfl (lv_at hl 1 rfl) ?_
  refine va_get (D := D) (ci := 4) (v := .ref o2) (C := RX4) (T := TX4) (N := 6) hx hb hts inX4 hown hK hP 3 rfl rfl 1 (by decide) (hts _ tw_175) (fun _ h9 => h9) rfl dX4_copyFrom_15 ?_
  refine lv_iconst (v := 0) hx hb dX4_copyFrom_18 (by decide) ?_
  refine lv_aload_n hx hb dX4_copyFrom_19 rfl (lv_at hl 0 rfl) ?_
  refine va_get (D := D) (ci := 4) (v := .ref h2) (C := RX4) (T := TX4) (N := 6) hx hb hts inX4 hown hK hP 0 rfl rfl 1 (by decide) (hts _ tw_175) (fun _ h9 => h9) rfl dX4_copyFrom_20 ?_
  refine lv_iconst (v := 0) hx hb dX4_copyFrom_23 (by decide) ?_
  refine lv_iconst (v := 4) hx hb dX4_copyFrom_24 (by decide) ?_
  refine va_copyi hx hb (by rw [hml]; exact hl.1.symm) hown (hts _ tw_883) (hts _ tw_366) (hts _ tw_365) (hts _ tw_88) hK hP hD hS 5 2 1 1 rfl rfl rfl rfl rfl (by decide) (by decide) (by decide) (by decide) (by decide) (fun _ _ => rfl) (Nat.le_of_ble_eq_true rfl) (Nat.le_of_ble_eq_true rfl) dX4_copyFrom_25 (fun H locs hP hD hS => ?_)
  have hP : va_P D classes [(h0, .inr (4, [.ref h1, .ref h2, .int 0, .int 0, .int 0, .int 0])), (h1, .inl (k 1, 4, .inl f_1)), (h2, .inl (k 1, 4, .inl (va_cpy g2 g 0 0 4))), (o0, .inr (4, [.ref o1, .ref o2, .int 0, .int 0, .int 0, .int 0])), (o1, .inl (k 1, 4, .inl f2)), (o2, .inl (k 1, 4, .inl g2))] H := hP
  have hD : va_D A [(h0, .inr (4, [.ref h1, .ref h2, .int 0, .int 0, .int 0, .int 0])), (h1, .inl (k 1, 4, .inl f_1)), (h2, .inl (k 1, 4, .inl (va_cpy g2 g 0 0 4))), (o0, .inr (4, [.ref o1, .ref o2, .int 0, .int 0, .int 0, .int 0])), (o1, .inl (k 1, 4, .inl f2)), (o2, .inl (k 1, 4, .inl g2))] := hD
  generalize (va_cpy g2 g 0 0 4) = f_2 at hP hD
  refine lv_aload_n hx hb dX4_copyFrom_28 rfl (lv_at hl 0 rfl) ?_
  refine lv_aload_n hx hb dX4_copyFrom_29 rfl (lv_at hl 1 rfl) ?_
  refine va_get (D := D) (ci := 4) (v := .int 0) (C := RX4) (T := TX4) (N := 6) hx hb hts inX4 hown hK hP 3 rfl rfl 2 (by decide) (hts _ tw_178) (fun _ h9 => h9) rfl dX4_copyFrom_30 ?_
  refine va_put (D := D) (ci := 4) (v := .int 0) (ty := .int) (C := RX4) (T := TX4) (N := 6) hx hb hts inX4 tyX4 tyX4_ok nmX4 hown hK hP hD hS 0 rfl rfl 2 (by decide) (hts _ tw_178) (fun _ h9 => h9) rfl (by decide +kernel) rfl rfl (Nat.le_of_ble_eq_true rfl) dX4_copyFrom_33 (fun H locs hP hD hS => ?_)
  have hP : va_P D classes [(h0, .inr (4, [.ref h1, .ref h2, .int 0, .int 0, .int 0, .int 0])), (h1, .inl (k 1, 4, .inl f_1)), (h2, .inl (k 1, 4, .inl f_2)), (o0, .inr (4, [.ref o1, .ref o2, .int 0, .int 0, .int 0, .int 0])), (o1, .inl (k 1, 4, .inl f2)), (o2, .inl (k 1, 4, .inl g2))] H := hP
  have hD : va_D A [(h0, .inr (4, [.ref h1, .ref h2, .int 0, .int 0, .int 0, .int 0])), (h1, .inl (k 1, 4, .inl f_1)), (h2, .inl (k 1, 4, .inl f_2)), (o0, .inr (4, [.ref o1, .ref o2, .int 0, .int 0, .int 0, .int 0])), (o1, .inl (k 1, 4, .inl f2)), (o2, .inl (k 1, 4, .inl g2))] := hD
  refine lv_aload_n hx hb dX4_copyFrom_36 rfl (lv_at hl 0 rfl) ?_
  refine lv_aload_n hx hb dX4_copyFrom_37 rfl (lv_at hl 1 rfl) ?_
  refine va_get (D := D) (ci := 4) (v := .int 0) (C := RX4) (T := TX4) (N := 6) hx hb hts inX4 hown hK hP 3 rfl rfl 3 (by decide) (hts _ tw_181) (fun _ h9 => h9) rfl dX4_copyFrom_38 ?_
  refine va_put (D := D) (ci := 4) (v := .int 0) (ty := .int) (C := RX4) (T := TX4) (N := 6) hx hb hts inX4 tyX4 tyX4_ok nmX4 hown hK hP hD hS 0 rfl rfl 3 (by decide) (hts _ tw_181) (fun _ h9 => h9) rfl (by decide +kernel) rfl rfl (Nat.le_of_ble_eq_true rfl) dX4_copyFrom_41 (fun H locs hP hD hS => ?_)
  have hP : va_P D classes [(h0, .inr (4, [.ref h1, .ref h2, .int 0, .int 0, .int 0, .int 0])), (h1, .inl (k 1, 4, .inl f_1)), (h2, .inl (k 1, 4, .inl f_2)), (o0, .inr (4, [.ref o1, .ref o2, .int 0, .int 0, .int 0, .int 0])), (o1, .inl (k 1, 4, .inl f2)), (o2, .inl (k 1, 4, .inl g2))] H := hP
  have hD : va_D A [(h0, .inr (4, [.ref h1, .ref h2, .int 0, .int 0, .int 0, .int 0])), (h1, .inl (k 1, 4, .inl f_1)), (h2, .inl (k 1, 4, .inl f_2)), (o0, .inr (4, [.ref o1, .ref o2, .int 0, .int 0, .int 0, .int 0])), (o1, .inl (k 1, 4, .inl f2)), (o2, .inl (k 1, 4, .inl g2))] := hD
  refine lv_aload_n hx hb dX4_copyFrom_44 rfl (lv_at hl 0 rfl) ?_
  refine lv_aload_n hx hb dX4_copyFrom_45 rfl (lv_at hl 1 rfl) ?_
  refine va_get (D := D) (ci := 4) (v := .int 0) (C := RX4) (T := TX4) (N := 6) hx hb hts inX4 hown hK hP 3 rfl rfl 4 (by decide) (hts _ tw_185) (fun _ h9 => h9) rfl dX4_copyFrom_46 ?_
  refine va_put (D := D) (ci := 4) (v := .int 0) (ty := .int) (C := RX4) (T := TX4) (N := 6) hx hb hts inX4 tyX4 tyX4_ok nmX4 hown hK hP hD hS 0 rfl rfl 4 (by decide) (hts _ tw_185) (fun _ h9 => h9) rfl (by decide +kernel) rfl rfl (Nat.le_of_ble_eq_true rfl) dX4_copyFrom_49 (fun H locs hP hD hS => ?_)
  have hP : va_P D classes [(h0, .inr (4, [.ref h1, .ref h2, .int 0, .int 0, .int 0, .int 0])), (h1, .inl (k 1, 4, .inl f_1)), (h2, .inl (k 1, 4, .inl f_2)), (o0, .inr (4, [.ref o1, .ref o2, .int 0, .int 0, .int 0, .int 0])), (o1, .inl (k 1, 4, .inl f2)), (o2, .inl (k 1, 4, .inl g2))] H := hP
  have hD : va_D A [(h0, .inr (4, [.ref h1, .ref h2, .int 0, .int 0, .int 0, .int 0])), (h1, .inl (k 1, 4, .inl f_1)), (h2, .inl (k 1, 4, .inl f_2)), (o0, .inr (4, [.ref o1, .ref o2, .int 0, .int 0, .int 0, .int 0])), (o1, .inl (k 1, 4, .inl f2)), (o2, .inl (k 1, 4, .inl g2))] := hD
  refine lv_aload_n hx hb dX4_copyFrom_52 rfl (lv_at hl 0 rfl) ?_
  refine lv_aload_n hx hb dX4_copyFrom_53 rfl (lv_at hl 1 rfl) ?_
  refine va_get (D := D) (ci := 4) (v := .int 0) (C := RX4) (T := TX4) (N := 6) hx hb hts inX4 hown hK hP 3 rfl rfl 5 (by decide) (hts _ tw_188) (fun _ h9 => h9) rfl dX4_copyFrom_54 ?_
  refine va_put (D := D) (ci := 4) (v := .int 0) (ty := .int) (C := RX4) (T := TX4) (N := 6) hx hb hts inX4 tyX4 tyX4_ok nmX4 hown hK hP hD hS 0 rfl rfl 5 (by decide) (hts _ tw_188) (fun _ h9 => h9) rfl (by decide +kernel) rfl rfl (Nat.le_of_ble_eq_true rfl) dX4_copyFrom_57 (fun H locs hP hD hS => ?_)
  have hP : va_P D classes [(h0, .inr (4, [.ref h1, .ref h2, .int 0, .int 0, .int 0, .int 0])), (h1, .inl (k 1, 4, .inl f_1)), (h2, .inl (k 1, 4, .inl f_2)), (o0, .inr (4, [.ref o1, .ref o2, .int 0, .int 0, .int 0, .int 0])), (o1, .inl (k 1, 4, .inl f2)), (o2, .inl (k 1, 4, .inl g2))] H := hP
  have hD : va_D A [(h0, .inr (4, [.ref h1, .ref h2, .int 0, .int 0, .int 0, .int 0])), (h1, .inl (k 1, 4, .inl f_1)), (h2, .inl (k 1, 4, .inl f_2)), (o0, .inr (4, [.ref o1, .ref o2, .int 0, .int 0, .int 0, .int 0])), (o1, .inl (k 1, 4, .inl f2)), (o2, .inl (k 1, 4, .inl g2))] := hD
  have hP9 := hP.sub (ws' := []) [] rfl
  have hD9 := hD.sub (ws' := []) [] (by decide) rfl
  exact W.vret hx hb hr (fun t ht hW => ⟨⟨(), rfl, trivial, by rw [ht]; exact hP9, hD9⟩, hS.F ht⟩) hS.2.2 dX4_copyFrom_60


set_option maxHeartbeats 4000000 in
set_option maxRecDepth 100000 in
theorem x_addCar2 (l : Launch) (D : va_G) (k : Nat → ClassId) (st : Nat → Nat) (lo : Nat) (c0 : Nat) (c1 : Nat) (c2 : Nat) (cc : Nat) (rz : Nat) (ro : Int32) (sd : Int32) (wk : Nat → Int32) (br : Nat → Nat) (p0 : Int32) (bb : Nat) (hcc : cc < 4) (hbb : bb ≤ 24) (hbr : ∀ j, br j ≤ 24) : CWi l D k st lo yX4_addCar cX4_addCar 4 (some .int) ({ frames := 0, cells := 0, slots := 0, locals := 0 }) 0 0 [.ref c0, .int p0, .int (nI bb)] [(c0, .inr (4, [.ref c1, .ref c2, .int (nI cc), .int (nI rz), .int ro, .int sd])), (c1, .inl (k 1, 4, .inl wk)), (c2, .inl (k 1, 4, .inl (nF br)))] (fun (r : Int32) (u : Nat × (Nat → Int32) × (Nat → Nat)) => match u with | (cc_, wk_, br_) => (r = nI cc ∧ cc_ = cc + 1) ∧ (∀ j, br_ j ≤ 24)) (fun (u : Nat × (Nat → Int32) × (Nat → Nat)) => match u with | (cc_, wk_, br_) => [(c0, .inr (4, [.ref c1, .ref c2, .int (nI cc_), .int (nI rz), .int ro, .int sd])), (c1, .inl (k 1, 4, .inl wk_)), (c2, .inl (k 1, 4, .inl (nF br_)))]) := by
  intro sz
  refine Met.ofW (cc := cX4_addCar) (maxL := 4) (ret := (some .int)) (by decide) rfl ?_
  intro p e s m args below meth c s₁ B hml hv
  obtain ⟨rfl, hsz, hlo, hP, hK, hDL, hZ⟩ := hv
  have hx := B.exec
  have hb := B.bytes
  have hr := B.returns
  have hts := WS_ts B.pre
  have hown : s.vm.findClass RX4 = some m.cls := findClass_of_methodNamed B.named
  have hlocks := B.notSynchronized
  subst hsz
  have hD := hDL.self (sz := s.heap.size)
  have hAlo := A_lo hDL hlo
  generalize hAe : va_A [(c0, .inr (4, [.ref c1, .ref c2, .int (nI cc), .int (nI rz), .int ro, .int sd])), (c1, .inl (k 1, 4, .inl wk)), (c2, .inl (k 1, 4, .inl (nF br)))] s.heap.size = A at hD hAlo ⊢
  have hA : ∀ q : Nat, s.heap.size ≤ q → A q := fun q h => by rw [← hAe]; exact Or.inr h
  have hS : va_S A s.heap s.heap [] := va_S.rf
  have hl := lv_entry ([.ref c0, .int p0, .int (nI bb)]) (n := 4) (Nat.le_of_ble_eq_true rfl)
  rw [lg_entry_eq]
  generalize (lg_sl ([.ref c0, .int p0, .int (nI bb)]) ++ List.replicate (4 - (lg_sl ([.ref c0, .int p0, .int (nI bb)])).length) Slot.unset).toArray = ls at hl ⊢
  have hl : lv_has ls 4 [(0, .ref c0), (1, .int p0), (2, .int (nI bb))] := hl
  refine lv_aload_n hx hb dX4_addCar_0 rfl (lv_at hl 0 rfl) ?_
  refine va_get (D := D) (ci := 4) (v := .int (nI cc)) (C := RX4) (T := TX4) (N := 6) hx hb hts inX4 hown hK hP 0 rfl rfl 2 (by decide) (hts _ tw_178) (fun _ h9 => h9) rfl dX4_addCar_1 ?_
  refine lv_istore_n (lv' := [(3, .int (nI cc)), (0, .ref c0), (1, .int p0), (2, .int (nI bb))]) hx hb dX4_addCar_4 rfl hl (by decide) rfl (fun ls hl => ?_)
  refine lv_iload_n hx hb dX4_addCar_5 rfl (lv_at hl 0 rfl) ?_
  refine lv_iconst (v := 4) hx hb dX4_addCar_6 (by decide) ?_
  refine lv_icmp_ge (tgt := 34) hx hb dX4_addCar_7 (by decide) (fun h => absurd ((nI_leI (a := 4) (b := cc) (by omega) (by omega)).mp h) (by omega)) (fun _ => ?_)
  refine lv_aload_n hx hb dX4_addCar_10 rfl (lv_at hl 1 rfl) ?_
  refine va_get (D := D) (ci := 4) (v := .ref c1) (C := RX4) (T := TX4) (N := 6) hx hb hts inX4 hown hK hP 0 rfl rfl 0 (by decide) (hts _ tw_173) (fun _ h9 => h9) rfl dX4_addCar_11 ?_
  refine lv_iload_n hx hb dX4_addCar_14 rfl (lv_at hl 0 rfl) ?_
  refine lv_iload_n hx hb dX4_addCar_15 rfl (lv_at hl 2 rfl) ?_
  refine va_iast hx hb hK hP hD hS 1 1 rfl rfl (vp_in_nI (by omega) (by decide)) dX4_addCar_16 (fun H locs hP hD hS => ?_)
  replace hP : va_P D classes [(c0, .inr (4, [.ref c1, .ref c2, .int (nI cc), .int (nI rz), .int ro, .int sd])), (c1, .inl (k 1, 4, .inl (upd wk (Int32.toNatClampNeg (nI cc)) p0))), (c2, .inl (k 1, 4, .inl (nF br)))] H := hP
  replace hD : va_D A [(c0, .inr (4, [.ref c1, .ref c2, .int (nI cc), .int (nI rz), .int ro, .int sd])), (c1, .inl (k 1, 4, .inl (upd wk (Int32.toNatClampNeg (nI cc)) p0))), (c2, .inl (k 1, 4, .inl (nF br)))] := hD
  generalize (upd wk (Int32.toNatClampNeg (nI cc)) p0) = f_2 at hP hD
  refine lv_aload_n hx hb dX4_addCar_17 rfl (lv_at hl 1 rfl) ?_
  refine va_get (D := D) (ci := 4) (v := .ref c2) (C := RX4) (T := TX4) (N := 6) hx hb hts inX4 hown hK hP 0 rfl rfl 1 (by decide) (hts _ tw_175) (fun _ h9 => h9) rfl dX4_addCar_18 ?_
  refine lv_iload_n hx hb dX4_addCar_21 rfl (lv_at hl 0 rfl) ?_
  refine lv_iload_n hx hb dX4_addCar_22 rfl (lv_at hl 3 rfl) ?_
  refine va_iast hx hb hK hP hD hS 2 1 rfl rfl (vp_in_nI (by omega) (by decide)) dX4_addCar_23 (fun H locs hP hD hS => ?_)
  replace hP : va_P D classes [(c0, .inr (4, [.ref c1, .ref c2, .int (nI cc), .int (nI rz), .int ro, .int sd])), (c1, .inl (k 1, 4, .inl f_2)), (c2, .inl (k 1, 4, .inl (upd (nF br) (Int32.toNatClampNeg (nI cc)) (nI bb))))] H := hP
  replace hD : va_D A [(c0, .inr (4, [.ref c1, .ref c2, .int (nI cc), .int (nI rz), .int ro, .int sd])), (c1, .inl (k 1, 4, .inl f_2)), (c2, .inl (k 1, 4, .inl (upd (nF br) (Int32.toNatClampNeg (nI cc)) (nI bb))))] := hD
  rw [nI_clamp (n := cc) (by omega)] at hP hD
  rw [show upd (nF br) cc (nI bb) = nF (fun j => if j = cc then bb else br j) from nF_upd _ _ _] at hP hD
  obtain ⟨d_4, hd_4⟩ : ∃ z : Nat → Nat, z = (fun j => if j = cc then bb else br j) := ⟨_, rfl⟩
  rw [← hd_4] at hP hD
  have hbb_4 : ∀ j, d_4 j ≤ 24 := by rw [hd_4]; exact up_le hbr (by omega)
  refine lv_aload_n hx hb dX4_addCar_24 rfl (lv_at hl 1 rfl) ?_
  refine lv_dup hx hb dX4_addCar_25 rfl ?_
  refine va_get (D := D) (ci := 4) (v := .int (nI cc)) (C := RX4) (T := TX4) (N := 6) hx hb hts inX4 hown hK hP 0 rfl rfl 2 (by decide) (hts _ tw_178) (fun _ h9 => h9) rfl dX4_addCar_26 ?_
  refine lv_iconst (v := 1) hx hb dX4_addCar_29 (by decide) ?_
  refine lv_iadd hx hb dX4_addCar_30 ?_
  refine lv_ti (y := (nI (cc + 1))) (nI_add cc 1) ?_
  refine va_put (D := D) (ci := 4) (v := .int (nI (cc + 1))) (ty := .int) (C := RX4) (T := TX4) (N := 6) hx hb hts inX4 tyX4 tyX4_ok nmX4 hown hK hP hD hS 0 rfl rfl 2 (by decide) (hts _ tw_178) (fun _ h9 => h9) rfl (by decide +kernel) rfl rfl (Nat.le_of_ble_eq_true rfl) dX4_addCar_31 (fun H locs hP hD hS => ?_)
  replace hP : va_P D classes [(c0, .inr (4, [.ref c1, .ref c2, .int (nI (cc + 1)), .int (nI rz), .int ro, .int sd])), (c1, .inl (k 1, 4, .inl f_2)), (c2, .inl (k 1, 4, .inl (nF d_4)))] H := hP
  replace hD : va_D A [(c0, .inr (4, [.ref c1, .ref c2, .int (nI (cc + 1)), .int (nI rz), .int ro, .int sd])), (c1, .inl (k 1, 4, .inl f_2)), (c2, .inl (k 1, 4, .inl (nF d_4)))] := hD
  refine lv_iload_n hx hb dX4_addCar_34 rfl (lv_at hl 0 rfl) ?_
  have hP9 := hP.sub (ws' := [(c0, .inr (4, [.ref c1, .ref c2, .int (nI (cc + 1)), .int (nI rz), .int ro, .int sd])), (c1, .inl (k 1, 4, .inl f_2)), (c2, .inl (k 1, 4, .inl (nF d_4)))]) [0, 1, 2] rfl
  have hD9 := hD.sub (ws' := [(c0, .inr (4, [.ref c1, .ref c2, .int (nI (cc + 1)), .int (nI rz), .int ro, .int sd])), (c1, .inl (k 1, 4, .inl f_2)), (c2, .inl (k 1, 4, .inl (nF d_4)))]) [0, 1, 2] (by decide) rfl
  exact W.iret (v := (nI cc)) hx hb hr (fun t ht hW => ⟨⟨(nI cc), ((cc + 1), f_2, d_4), rfl, ⟨⟨rfl, rfl⟩, hbb_4⟩, by rw [ht]; exact hP9, hD9⟩, hS.F ht⟩) hS.2.2 dX4_addCar_35


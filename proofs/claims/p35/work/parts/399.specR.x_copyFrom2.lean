set_option maxHeartbeats 4000000 in
set_option maxRecDepth 100000 in
theorem x_copyFrom2 (l : Launch) (D : va_G) (k : Nat → ClassId) (st : Nat → Nat) (lo : Nat) (c0 : Nat) (c1 : Nat) (c2 : Nat) (cc : Nat) (rz : Nat) (ro : Int32) (sd : Int32) (wk : Nat → Int32) (br : Nat → Nat) (o0 : Nat) (o1 : Nat) (o2 : Nat) (cco : Nat) (rzo : Nat) (roo : Int32) (sdo : Int32) (wko : Nat → Int32) (bro : Nat → Nat) (hcc : cco ≤ 4) (hrz : rzo ≤ 24) (hbr : ∀ j, br j ≤ 24) (hbo : ∀ j, bro j ≤ 24) : CWv l D k st lo yX4_copyFrom cX4_copyFrom 2 none ({ frames := 1, cells := 0, slots := 0, locals := 60 }) 0 0 [.ref c0, .ref o0] [(c0, .inr (4, [.ref c1, .ref c2, .int (nI cc), .int (nI rz), .int ro, .int sd])), (c1, .inl (k 1, 4, .inl wk)), (c2, .inl (k 1, 4, .inl (nF br))), (o0, .inr (4, [.ref o1, .ref o2, .int (nI cco), .int (nI rzo), .int roo, .int sdo])), (o1, .inl (k 1, 4, .inl wko)), (o2, .inl (k 1, 4, .inl (nF bro)))] (fun (u : Nat × Nat × Int32 × Int32 × (Nat → Int32) × (Nat → Nat)) => match u with | (cc_, rz_, ro_, sd_, wk_, br_) => cco = cc_ ∧ rzo = rz_ ∧ (∀ j, br_ j ≤ 24)) (fun (u : Nat × Nat × Int32 × Int32 × (Nat → Int32) × (Nat → Nat)) => match u with | (cc_, rz_, ro_, sd_, wk_, br_) => [(c0, .inr (4, [.ref c1, .ref c2, .int (nI cc_), .int (nI rz_), .int ro_, .int sd_])), (c1, .inl (k 1, 4, .inl wk_)), (c2, .inl (k 1, 4, .inl (nF br_))), (o0, .inr (4, [.ref o1, .ref o2, .int (nI cco), .int (nI rzo), .int roo, .int sdo])), (o1, .inl (k 1, 4, .inl wko)), (o2, .inl (k 1, 4, .inl (nF bro)))]) := by
  intro sz
  refine Met.ofW (cc := cX4_copyFrom) (maxL := 2) (ret := none) (by decide) rfl ?_
  intro p e s m args below meth c s₁ B hml hv
  obtain ⟨rfl, hsz, hlo, hP, hK, hDL, hZ⟩ := hv
  have hx := B.exec
  have hb := B.bytes
  have hr := B.returns
  have hts := WS_ts B.pre
  have hown : s.vm.findClass RX4 = some m.cls := findClass_of_methodNamed B.named
  have hlocks := B.notSynchronized
  subst hsz
  have hD := hDL.self (sz := s.heap.size)
  have hAlo := A_lo hDL hlo
  generalize hAe : va_A [(c0, .inr (4, [.ref c1, .ref c2, .int (nI cc), .int (nI rz), .int ro, .int sd])), (c1, .inl (k 1, 4, .inl wk)), (c2, .inl (k 1, 4, .inl (nF br))), (o0, .inr (4, [.ref o1, .ref o2, .int (nI cco), .int (nI rzo), .int roo, .int sdo])), (o1, .inl (k 1, 4, .inl wko)), (o2, .inl (k 1, 4, .inl (nF bro)))] s.heap.size = A at hD hAlo ⊢
  have hA : ∀ q : Nat, s.heap.size ≤ q → A q := fun q h => by rw [← hAe]; exact Or.inr h
  have hS : va_S A s.heap s.heap [] := va_S.rf
  have hl := lv_entry ([.ref c0, .ref o0]) (n := 2) (Nat.le_of_ble_eq_true rfl)
  rw [lg_entry_eq]
  generalize (lg_sl ([.ref c0, .ref o0]) ++ List.replicate (2 - (lg_sl ([.ref c0, .ref o0])).length) Slot.unset).toArray = ls at hl ⊢
  have hl : lv_has ls 2 [(0, .ref c0), (1, .ref o0)] := hl
  refine lv_aload_n hx hb dX4_copyFrom_0 rfl (lv_at hl 1 rfl) ?_
  refine va_get (D := D) (ci := 4) (v := .ref o1) (C := RX4) (T := TX4) (N := 6) hx hb hts inX4 hown hK hP 3 rfl rfl 0 (by decide) (hts _ tw_173) (fun _ h9 => h9) rfl dX4_copyFrom_1 ?_
  refine lv_iconst (v := 0) hx hb dX4_copyFrom_4 (by decide) ?_
  refine lv_aload_n hx hb dX4_copyFrom_5 rfl (lv_at hl 0 rfl) ?_
  refine va_get (D := D) (ci := 4) (v := .ref c1) (C := RX4) (T := TX4) (N := 6) hx hb hts inX4 hown hK hP 0 rfl rfl 0 (by decide) (hts _ tw_173) (fun _ h9 => h9) rfl dX4_copyFrom_6 ?_
  refine lv_iconst (v := 0) hx hb dX4_copyFrom_9 (by decide) ?_
  refine lv_iconst (v := 4) hx hb dX4_copyFrom_10 (by decide) ?_
  refine va_copyi hx hb (by rw [hml]; exact hl.1.symm) hown (hts _ tw_883) (hts _ tw_366) (hts _ tw_365) (hts _ tw_88) hK hP hD hS 4 1 1 1 rfl rfl rfl rfl rfl (by decide) (by decide) (by decide) (by decide) (by decide) (fun _ _ => rfl) (Nat.le_of_ble_eq_true rfl) (Nat.le_of_ble_eq_true rfl) dX4_copyFrom_11 (fun H locs hP hD hS => ?_)
  replace hP : va_P D classes [(c0, .inr (4, [.ref c1, .ref c2, .int (nI cc), .int (nI rz), .int ro, .int sd])), (c1, .inl (k 1, 4, .inl (va_cpy wko wk 0 0 4))), (c2, .inl (k 1, 4, .inl (nF br))), (o0, .inr (4, [.ref o1, .ref o2, .int (nI cco), .int (nI rzo), .int roo, .int sdo])), (o1, .inl (k 1, 4, .inl wko)), (o2, .inl (k 1, 4, .inl (nF bro)))] H := hP
  replace hD : va_D A [(c0, .inr (4, [.ref c1, .ref c2, .int (nI cc), .int (nI rz), .int ro, .int sd])), (c1, .inl (k 1, 4, .inl (va_cpy wko wk 0 0 4))), (c2, .inl (k 1, 4, .inl (nF br))), (o0, .inr (4, [.ref o1, .ref o2, .int (nI cco), .int (nI rzo), .int roo, .int sdo])), (o1, .inl (k 1, 4, .inl wko)), (o2, .inl (k 1, 4, .inl (nF bro)))] := hD
  generalize (va_cpy wko wk 0 0 4) = f_2 at hP hD
  refine lv_aload_n hx hb dX4_copyFrom_14 rfl (lv_at hl 1 rfl) ?_
  refine va_get (D := D) (ci := 4) (v := .ref o2) (C := RX4) (T := TX4) (N := 6) hx hb hts inX4 hown hK hP 3 rfl rfl 1 (by decide) (hts _ tw_175) (fun _ h9 => h9) rfl dX4_copyFrom_15 ?_
  refine lv_iconst (v := 0) hx hb dX4_copyFrom_18 (by decide) ?_
  refine lv_aload_n hx hb dX4_copyFrom_19 rfl (lv_at hl 0 rfl) ?_
  refine va_get (D := D) (ci := 4) (v := .ref c2) (C := RX4) (T := TX4) (N := 6) hx hb hts inX4 hown hK hP 0 rfl rfl 1 (by decide) (hts _ tw_175) (fun _ h9 => h9) rfl dX4_copyFrom_20 ?_
  refine lv_iconst (v := 0) hx hb dX4_copyFrom_23 (by decide) ?_
  refine lv_iconst (v := 4) hx hb dX4_copyFrom_24 (by decide) ?_
  refine va_copyi hx hb (by rw [hml]; exact hl.1.symm) hown (hts _ tw_883) (hts _ tw_366) (hts _ tw_365) (hts _ tw_88) hK hP hD hS 5 2 1 1 rfl rfl rfl rfl rfl (by decide) (by decide) (by decide) (by decide) (by decide) (fun _ _ => rfl) (Nat.le_of_ble_eq_true rfl) (Nat.le_of_ble_eq_true rfl) dX4_copyFrom_25 (fun H locs hP hD hS => ?_)
  replace hP : va_P D classes [(c0, .inr (4, [.ref c1, .ref c2, .int (nI cc), .int (nI rz), .int ro, .int sd])), (c1, .inl (k 1, 4, .inl f_2)), (c2, .inl (k 1, 4, .inl (va_cpy (nF bro) (nF br) 0 0 4))), (o0, .inr (4, [.ref o1, .ref o2, .int (nI cco), .int (nI rzo), .int roo, .int sdo])), (o1, .inl (k 1, 4, .inl wko)), (o2, .inl (k 1, 4, .inl (nF bro)))] H := hP
  replace hD : va_D A [(c0, .inr (4, [.ref c1, .ref c2, .int (nI cc), .int (nI rz), .int ro, .int sd])), (c1, .inl (k 1, 4, .inl f_2)), (c2, .inl (k 1, 4, .inl (va_cpy (nF bro) (nF br) 0 0 4))), (o0, .inr (4, [.ref o1, .ref o2, .int (nI cco), .int (nI rzo), .int roo, .int sdo])), (o1, .inl (k 1, 4, .inl wko)), (o2, .inl (k 1, 4, .inl (nF bro)))] := hD
  obtain ⟨d_3, hd_3, hbb_3⟩ := nF_cpy hbo hbr
  rw [show va_cpy (nF bro) (nF br) 0 0 4 = nF d_3 from hd_3] at hP hD
  replace hP : va_P D classes [(c0, .inr (4, [.ref c1, .ref c2, .int (nI cc), .int (nI rz), .int ro, .int sd])), (c1, .inl (k 1, 4, .inl f_2)), (c2, .inl (k 1, 4, .inl (nF d_3))), (o0, .inr (4, [.ref o1, .ref o2, .int (nI cco), .int (nI rzo), .int roo, .int sdo])), (o1, .inl (k 1, 4, .inl wko)), (o2, .inl (k 1, 4, .inl (nF bro)))] H := hP
  replace hD : va_D A [(c0, .inr (4, [.ref c1, .ref c2, .int (nI cc), .int (nI rz), .int ro, .int sd])), (c1, .inl (k 1, 4, .inl f_2)), (c2, .inl (k 1, 4, .inl (nF d_3))), (o0, .inr (4, [.ref o1, .ref o2, .int (nI cco), .int (nI rzo), .int roo, .int sdo])), (o1, .inl (k 1, 4, .inl wko)), (o2, .inl (k 1, 4, .inl (nF bro)))] := hD
  refine lv_aload_n hx hb dX4_copyFrom_28 rfl (lv_at hl 0 rfl) ?_
  refine lv_aload_n hx hb dX4_copyFrom_29 rfl (lv_at hl 1 rfl) ?_
  refine va_get (D := D) (ci := 4) (v := .int (nI cco)) (C := RX4) (T := TX4) (N := 6) hx hb hts inX4 hown hK hP 3 rfl rfl 2 (by decide) (hts _ tw_178) (fun _ h9 => h9) rfl dX4_copyFrom_30 ?_
  refine va_put (D := D) (ci := 4) (v := .int (nI cco)) (ty := .int) (C := RX4) (T := TX4) (N := 6) hx hb hts inX4 tyX4 tyX4_ok nmX4 hown hK hP hD hS 0 rfl rfl 2 (by decide) (hts _ tw_178) (fun _ h9 => h9) rfl (by decide +kernel) rfl rfl (Nat.le_of_ble_eq_true rfl) dX4_copyFrom_33 (fun H locs hP hD hS => ?_)
  replace hP : va_P D classes [(c0, .inr (4, [.ref c1, .ref c2, .int (nI cco), .int (nI rz), .int ro, .int sd])), (c1, .inl (k 1, 4, .inl f_2)), (c2, .inl (k 1, 4, .inl (nF d_3))), (o0, .inr (4, [.ref o1, .ref o2, .int (nI cco), .int (nI rzo), .int roo, .int sdo])), (o1, .inl (k 1, 4, .inl wko)), (o2, .inl (k 1, 4, .inl (nF bro)))] H := hP
  replace hD : va_D A [(c0, .inr (4, [.ref c1, .ref c2, .int (nI cco), .int (nI rz), .int ro, .int sd])), (c1, .inl (k 1, 4, .inl f_2)), (c2, .inl (k 1, 4, .inl (nF d_3))), (o0, .inr (4, [.ref o1, .ref o2, .int (nI cco), .int (nI rzo), .int roo, .int sdo])), (o1, .inl (k 1, 4, .inl wko)), (o2, .inl (k 1, 4, .inl (nF bro)))] := hD
  refine lv_aload_n hx hb dX4_copyFrom_36 rfl (lv_at hl 0 rfl) ?_
  refine lv_aload_n hx hb dX4_copyFrom_37 rfl (lv_at hl 1 rfl) ?_
  refine va_get (D := D) (ci := 4) (v := .int (nI rzo)) (C := RX4) (T := TX4) (N := 6) hx hb hts inX4 hown hK hP 3 rfl rfl 3 (by decide) (hts _ tw_181) (fun _ h9 => h9) rfl dX4_copyFrom_38 ?_
  refine va_put (D := D) (ci := 4) (v := .int (nI rzo)) (ty := .int) (C := RX4) (T := TX4) (N := 6) hx hb hts inX4 tyX4 tyX4_ok nmX4 hown hK hP hD hS 0 rfl rfl 3 (by decide) (hts _ tw_181) (fun _ h9 => h9) rfl (by decide +kernel) rfl rfl (Nat.le_of_ble_eq_true rfl) dX4_copyFrom_41 (fun H locs hP hD hS => ?_)
  replace hP : va_P D classes [(c0, .inr (4, [.ref c1, .ref c2, .int (nI cco), .int (nI rzo), .int ro, .int sd])), (c1, .inl (k 1, 4, .inl f_2)), (c2, .inl (k 1, 4, .inl (nF d_3))), (o0, .inr (4, [.ref o1, .ref o2, .int (nI cco), .int (nI rzo), .int roo, .int sdo])), (o1, .inl (k 1, 4, .inl wko)), (o2, .inl (k 1, 4, .inl (nF bro)))] H := hP
  replace hD : va_D A [(c0, .inr (4, [.ref c1, .ref c2, .int (nI cco), .int (nI rzo), .int ro, .int sd])), (c1, .inl (k 1, 4, .inl f_2)), (c2, .inl (k 1, 4, .inl (nF d_3))), (o0, .inr (4, [.ref o1, .ref o2, .int (nI cco), .int (nI rzo), .int roo, .int sdo])), (o1, .inl (k 1, 4, .inl wko)), (o2, .inl (k 1, 4, .inl (nF bro)))] := hD
  refine lv_aload_n hx hb dX4_copyFrom_44 rfl (lv_at hl 0 rfl) ?_
  refine lv_aload_n hx hb dX4_copyFrom_45 rfl (lv_at hl 1 rfl) ?_
  refine va_get (D := D) (ci := 4) (v := .int roo) (C := RX4) (T := TX4) (N := 6) hx hb hts inX4 hown hK hP 3 rfl rfl 4 (by decide) (hts _ tw_185) (fun _ h9 => h9) rfl dX4_copyFrom_46 ?_
  refine va_put (D := D) (ci := 4) (v := .int roo) (ty := .int) (C := RX4) (T := TX4) (N := 6) hx hb hts inX4 tyX4 tyX4_ok nmX4 hown hK hP hD hS 0 rfl rfl 4 (by decide) (hts _ tw_185) (fun _ h9 => h9) rfl (by decide +kernel) rfl rfl (Nat.le_of_ble_eq_true rfl) dX4_copyFrom_49 (fun H locs hP hD hS => ?_)
  replace hP : va_P D classes [(c0, .inr (4, [.ref c1, .ref c2, .int (nI cco), .int (nI rzo), .int roo, .int sd])), (c1, .inl (k 1, 4, .inl f_2)), (c2, .inl (k 1, 4, .inl (nF d_3))), (o0, .inr (4, [.ref o1, .ref o2, .int (nI cco), .int (nI rzo), .int roo, .int sdo])), (o1, .inl (k 1, 4, .inl wko)), (o2, .inl (k 1, 4, .inl (nF bro)))] H := hP
  replace hD : va_D A [(c0, .inr (4, [.ref c1, .ref c2, .int (nI cco), .int (nI rzo), .int roo, .int sd])), (c1, .inl (k 1, 4, .inl f_2)), (c2, .inl (k 1, 4, .inl (nF d_3))), (o0, .inr (4, [.ref o1, .ref o2, .int (nI cco), .int (nI rzo), .int roo, .int sdo])), (o1, .inl (k 1, 4, .inl wko)), (o2, .inl (k 1, 4, .inl (nF bro)))] := hD
  refine lv_aload_n hx hb dX4_copyFrom_52 rfl (lv_at hl 0 rfl) ?_
  refine lv_aload_n hx hb dX4_copyFrom_53 rfl (lv_at hl 1 rfl) ?_
  refine va_get (D := D) (ci := 4) (v := .int sdo) (C := RX4) (T := TX4) (N := 6) hx hb hts inX4 hown hK hP 3 rfl rfl 5 (by decide) (hts _ tw_188) (fun _ h9 => h9) rfl dX4_copyFrom_54 ?_
  refine va_put (D := D) (ci := 4) (v := .int sdo) (ty := .int) (C := RX4) (T := TX4) (N := 6) hx hb hts inX4 tyX4 tyX4_ok nmX4 hown hK hP hD hS 0 rfl rfl 5 (by decide) (hts _ tw_188) (fun _ h9 => h9) rfl (by decide +kernel) rfl rfl (Nat.le_of_ble_eq_true rfl) dX4_copyFrom_57 (fun H locs hP hD hS => ?_)
  replace hP : va_P D classes [(c0, .inr (4, [.ref c1, .ref c2, .int (nI cco), .int (nI rzo), .int roo, .int sdo])), (c1, .inl (k 1, 4, .inl f_2)), (c2, .inl (k 1, 4, .inl (nF d_3))), (o0, .inr (4, [.ref o1, .ref o2, .int (nI cco), .int (nI rzo), .int roo, .int sdo])), (o1, .inl (k 1, 4, .inl wko)), (o2, .inl (k 1, 4, .inl (nF bro)))] H := hP
  replace hD : va_D A [(c0, .inr (4, [.ref c1, .ref c2, .int (nI cco), .int (nI rzo), .int roo, .int sdo])), (c1, .inl (k 1, 4, .inl f_2)), (c2, .inl (k 1, 4, .inl (nF d_3))), (o0, .inr (4, [.ref o1, .ref o2, .int (nI cco), .int (nI rzo), .int roo, .int sdo])), (o1, .inl (k 1, 4, .inl wko)), (o2, .inl (k 1, 4, .inl (nF bro)))] := hD
  have hP9 := hP.sub (ws' := [(c0, .inr (4, [.ref c1, .ref c2, .int (nI cco), .int (nI rzo), .int roo, .int sdo])), (c1, .inl (k 1, 4, .inl f_2)), (c2, .inl (k 1, 4, .inl (nF d_3))), (o0, .inr (4, [.ref o1, .ref o2, .int (nI cco), .int (nI rzo), .int roo, .int sdo])), (o1, .inl (k 1, 4, .inl wko)), (o2, .inl (k 1, 4, .inl (nF bro)))]) [0, 1, 2, 3, 4, 5] rfl
  have hD9 := hD.sub (ws' := [(c0, .inr (4, [.ref c1, .ref c2, .int (nI cco), .int (nI rzo), .int roo, .int sdo])), (c1, .inl (k 1, 4, .inl f_2)), (c2, .inl (k 1, 4, .inl (nF d_3))), (o0, .inr (4, [.ref o1, .ref o2, .int (nI cco), .int (nI rzo), .int roo, .int sdo])), (o1, .inl (k 1, 4, .inl wko)), (o2, .inl (k 1, 4, .inl (nF bro)))]) [0, 1, 2, 3, 4, 5] (by decide) rfl
  exact W.vret hx hb hr (fun t ht hW => ⟨⟨(cco, rzo, roo, sdo, f_2, d_3), rfl, ⟨rfl, rfl, hbb_3⟩, by rw [ht]; exact hP9, hD9⟩, hS.F ht⟩) hS.2.2 dX4_copyFrom_60


theorem dX4_takeBars_0 : decode cX4_takeBars 0 = .ok (.aload_n 1, 1) := by decide +kernel
theorem dX4_takeBars_1 : decode cX4_takeBars 1 = .ok (.iconst 0, 1) := by decide +kernel
theorem dX4_takeBars_2 : decode cX4_takeBars 2 = .ok (.aload_n 0, 1) := by decide +kernel
theorem dX4_takeBars_3 : decode cX4_takeBars 3 = .ok (.getfield 15, 3) := by decide +kernel
theorem dX4_takeBars_6 : decode cX4_takeBars 6 = .ok (.iconst 0, 1) := by decide +kernel
theorem dX4_takeBars_7 : decode cX4_takeBars 7 = .ok (.iconst 4, 1) := by decide +kernel
theorem dX4_takeBars_8 : decode cX4_takeBars 8 = .ok (.invokestatic 31, 3) := by decide +kernel
theorem dX4_takeBars_11 : decode cX4_takeBars 11 = .ok (.return_, 1) := by decide +kernel
set_option maxHeartbeats 4000000 in
set_option maxRecDepth 100000 in
theorem x_takeBars (l : Launch) (D : va_G) (k : Nat → ClassId) (st : Nat → Nat) (lo : Nat) (c0 : Nat) (c1 : Nat) (c2 : Nat) (cc : Nat) (rz : Nat) (ro : Int32) (sd : Int32) (wk : Nat → Int32) (br : Nat → Nat) (z1 : Nat) (pb : Nat → Nat) (hbr : ∀ j, br j ≤ 24) (hpb : ∀ j, pb j ≤ 24) : CWv l D k st lo yX4_takeBars cX4_takeBars 2 none ({ frames := 1, cells := 0, slots := 0, locals := 60 }) 0 0 [.ref c0, .ref z1] [(c0, .inr (4, [.ref c1, .ref c2, .int (nI cc), .int (nI rz), .int ro, .int sd])), (c1, .inl (k 1, 4, .inl wk)), (c2, .inl (k 1, 4, .inl (nF br))), (z1, .inl (k 1, 4, .inl (nF pb)))] (fun (br_ : (Nat → Nat)) => ∀ j, br_ j ≤ 24) (fun (br_ : (Nat → Nat)) => [(c0, .inr (4, [.ref c1, .ref c2, .int (nI cc), .int (nI rz), .int ro, .int sd])), (c1, .inl (k 1, 4, .inl wk)), (c2, .inl (k 1, 4, .inl (nF br_))), (z1, .inl (k 1, 4, .inl (nF pb)))]) := by
  intro sz
  refine Met.ofW (cc := cX4_takeBars) (maxL := 2) (ret := none) (by decide) rfl ?_
  intro p e s m args below meth c s₁ B hml hv
  obtain ⟨rfl, hsz, hlo, hP, hK, hDL, hZ⟩ := hv
  have hx := B.exec
  have hb := B.bytes
  have hr := B.returns
  have hts := WS_ts B.pre
  have hown : s.vm.findClass RX4 = some m.cls := findClass_of_methodNamed B.named
  have hlocks := B.notSynchronized
  subst hsz
  have hD := hDL.self (sz := s.heap.size)
  have hAlo := A_lo hDL hlo
  generalize hAe : va_A [(c0, .inr (4, [.ref c1, .ref c2, .int (nI cc), .int (nI rz), .int ro, .int sd])), (c1, .inl (k 1, 4, .inl wk)), (c2, .inl (k 1, 4, .inl (nF br))), (z1, .inl (k 1, 4, .inl (nF pb)))] s.heap.size = A at hD hAlo ⊢
  have hA : ∀ q : Nat, s.heap.size ≤ q → A q := fun q h => by rw [← hAe]; exact Or.inr h
  have hS : va_S A s.heap s.heap [] := va_S.rf
  have hl := lv_entry ([.ref c0, .ref z1]) (n := 2) (Nat.le_of_ble_eq_true rfl)
  rw [lg_entry_eq]
  generalize (lg_sl ([.ref c0, .ref z1]) ++ List.replicate (2 - (lg_sl ([.ref c0, .ref z1])).length) Slot.unset).toArray = ls at hl ⊢
  have hl : lv_has ls 2 [(0, .ref c0), (1, .ref z1)] := hl
  refine lv_aload_n hx hb dX4_takeBars_0 rfl (lv_at hl 1 rfl) ?_
  refine lv_iconst (v := 0) hx hb dX4_takeBars_1 (by decide) ?_
  refine lv_aload_n hx hb dX4_takeBars_2 rfl (lv_at hl 0 rfl) ?_
  refine va_get (D := D) (ci := 4) (v := .ref c2) (C := RX4) (T := TX4) (N := 6) hx hb hts inX4 hown hK hP 0 rfl rfl 1 (by decide) (hts _ tw_175) (fun _ h9 => h9) rfl dX4_takeBars_3 ?_
  refine lv_iconst (v := 0) hx hb dX4_takeBars_6 (by decide) ?_
  refine lv_iconst (v := 4) hx hb dX4_takeBars_7 (by decide) ?_
  refine va_copyi hx hb (by rw [hml]; exact hl.1.symm) hown (hts _ tw_883) (hts _ tw_366) (hts _ tw_365) (hts _ tw_88) hK hP hD hS 3 2 1 1 rfl rfl rfl rfl rfl (by decide) (by decide) (by decide) (by decide) (by decide) (fun _ _ => rfl) (Nat.le_of_ble_eq_true rfl) (Nat.le_of_ble_eq_true rfl) dX4_takeBars_8 (fun H locs hP hD hS => ?_)
  replace hP : va_P D classes [(c0, .inr (4, [.ref c1, .ref c2, .int (nI cc), .int (nI rz), .int ro, .int sd])), (c1, .inl (k 1, 4, .inl wk)), (c2, .inl (k 1, 4, .inl (va_cpy (nF pb) (nF br) 0 0 4))), (z1, .inl (k 1, 4, .inl (nF pb)))] H := hP
  replace hD : va_D A [(c0, .inr (4, [.ref c1, .ref c2, .int (nI cc), .int (nI rz), .int ro, .int sd])), (c1, .inl (k 1, 4, .inl wk)), (c2, .inl (k 1, 4, .inl (va_cpy (nF pb) (nF br) 0 0 4))), (z1, .inl (k 1, 4, .inl (nF pb)))] := hD
  obtain ⟨d_1, hd_1, hbb_1⟩ := nF_cpy hpb hbr
  rw [show va_cpy (nF pb) (nF br) 0 0 4 = nF d_1 from hd_1] at hP hD
  replace hP : va_P D classes [(c0, .inr (4, [.ref c1, .ref c2, .int (nI cc), .int (nI rz), .int ro, .int sd])), (c1, .inl (k 1, 4, .inl wk)), (c2, .inl (k 1, 4, .inl (nF d_1))), (z1, .inl (k 1, 4, .inl (nF pb)))] H := hP
  replace hD : va_D A [(c0, .inr (4, [.ref c1, .ref c2, .int (nI cc), .int (nI rz), .int ro, .int sd])), (c1, .inl (k 1, 4, .inl wk)), (c2, .inl (k 1, 4, .inl (nF d_1))), (z1, .inl (k 1, 4, .inl (nF pb)))] := hD
  have hP9 := hP.sub (ws' := [(c0, .inr (4, [.ref c1, .ref c2, .int (nI cc), .int (nI rz), .int ro, .int sd])), (c1, .inl (k 1, 4, .inl wk)), (c2, .inl (k 1, 4, .inl (nF d_1))), (z1, .inl (k 1, 4, .inl (nF pb)))]) [0, 1, 2, 3] rfl
  have hD9 := hD.sub (ws' := [(c0, .inr (4, [.ref c1, .ref c2, .int (nI cc), .int (nI rz), .int ro, .int sd])), (c1, .inl (k 1, 4, .inl wk)), (c2, .inl (k 1, 4, .inl (nF d_1))), (z1, .inl (k 1, 4, .inl (nF pb)))]) [0, 1, 2, 3] (by decide) rfl
  exact W.vret hx hb hr (fun t ht hW => ⟨⟨d_1, rfl, hbb_1, by rw [ht]; exact hP9, hD9⟩, hS.F ht⟩) hS.2.2 dX4_takeBars_11


theorem dX5_sightsAt_0 : decode cX5_sightsAt 0 = .ok (.iconst 1, 1) := by decide +kernel
theorem dX5_sightsAt_1 : decode cX5_sightsAt 1 = .ok (.aload_n 0, 1) := by decide +kernel
theorem dX5_sightsAt_2 : decode cX5_sightsAt 2 = .ok (.getfield 9, 3) := by decide +kernel
theorem dX5_sightsAt_5 : decode cX5_sightsAt 5 = .ok (.bipush 6, 2) := by decide +kernel
theorem dX5_sightsAt_7 : decode cX5_sightsAt 7 = .ok (.iaload, 1) := by decide +kernel
theorem dX5_sightsAt_8 : decode cX5_sightsAt 8 = .ok (.iconst 1, 1) := by decide +kernel
theorem dX5_sightsAt_9 : decode cX5_sightsAt 9 = .ok (.iadd, 1) := by decide +kernel
theorem dX5_sightsAt_10 : decode cX5_sightsAt 10 = .ok (.aload_n 0, 1) := by decide +kernel
theorem dX5_sightsAt_11 : decode cX5_sightsAt 11 = .ok (.getfield 9, 3) := by decide +kernel
theorem dX5_sightsAt_14 : decode cX5_sightsAt 14 = .ok (.iconst 0, 1) := by decide +kernel
theorem dX5_sightsAt_15 : decode cX5_sightsAt 15 = .ok (.iaload, 1) := by decide +kernel
theorem dX5_sightsAt_16 : decode cX5_sightsAt 16 = .ok (.iload_n 1, 1) := by decide +kernel
theorem dX5_sightsAt_17 : decode cX5_sightsAt 17 = .ok (.isub, 1) := by decide +kernel
theorem dX5_sightsAt_18 : decode cX5_sightsAt 18 = .ok (.invokestatic 129, 3) := by decide +kernel
theorem dX5_sightsAt_21 : decode cX5_sightsAt 21 = .ok (.ishl, 1) := by decide +kernel
theorem dX5_sightsAt_22 : decode cX5_sightsAt 22 = .ok (.ireturn, 1) := by decide +kernel
set_option maxHeartbeats 4000000 in
set_option maxRecDepth 100000 in
theorem x_sightsAt (l : Launch) (D : va_G) (k : Nat → ClassId) (st : Nat → Nat) (lo : Nat) (h0 : Nat) (h1 : Nat) (h2 : Nat) (h3 : Nat) (h4 : Nat) (n : Nat) (see : Nat) (tm : Nat) (g : Nat → Int32) (i : Nat) (hn : n ≤ 24) (hsee : see ≤ 2) (hi : i ≤ n) : CRi l D k st lo yX5_sightsAt cX5_sightsAt 2 (some .int) ({ frames := 1, cells := 0, slots := 0, locals := 60 }) [.ref h0, .int (nI i)] [(h0, .inr (5, [.ref h1, .ref h2, .ref h3, .ref h4])), (h1, .inl (k 1, 10, .inl (vv n see tm g)))] (fun r => ∃ z : Nat, r = nI z ∧ 1 ≤ z ∧ z ≤ 8 ∧ ∃ q : Nat, q ≤ 3 ∧ z = 2 ^ q) := by
  intro sz
  refine Met.ofW (cc := cX5_sightsAt) (maxL := 2) (ret := (some .int)) (by decide) rfl ?_
  intro p e s m args below meth c s₁ B hml hv
  obtain ⟨rfl, hsz, hlo, hP, hK, hDL, hZ⟩ := hv
  have hx := B.exec
  have hb := B.bytes
  have hr := B.returns
  have hts := WS_ts B.pre
  have hown : s.vm.findClass RX5 = some m.cls := findClass_of_methodNamed B.named
  have hlocks := B.notSynchronized
  subst hsz
  have hA : ∀ q : Nat, s.heap.size ≤ q → (fun q : Nat => s.heap.size ≤ q) q := fun _ h => h
  have hAlo : ∀ q : Nat, (fun q : Nat => s.heap.size ≤ q) q → lo ≤ q := fun q h => Nat.le_trans hlo h
  have hS : va_S (fun q : Nat => s.heap.size ≤ q) s.heap s.heap [] := va_S.rf
  have hl := lv_entry ([.ref h0, .int (nI i)]) (n := 2) (Nat.le_of_ble_eq_true rfl)
  rw [lg_entry_eq]
  generalize (lg_sl ([.ref h0, .int (nI i)]) ++ List.replicate (2 - (lg_sl ([.ref h0, .int (nI i)])).length) Slot.unset).toArray = ls at hl ⊢
  have hl : lv_has ls 2 [(0, .ref h0), (1, .int (nI i))] := hl
  refine lv_iconst (v := 1) hx hb dX5_sightsAt_0 (by decide) ?_
  refine lv_aload_n hx hb dX5_sightsAt_1 rfl (lv_at hl 0 rfl) ?_
  refine va_get (D := D) (ci := 5) (v := .ref h1) (C := RX5) (T := TX5) (N := 4) hx hb hts inX5 hown hK hP 0 rfl rfl 0 (by decide) (hts _ tw_146) (fun _ h9 => h9) rfl dX5_sightsAt_2 ?_
  refine lv_bipush (v := 6) hx hb dX5_sightsAt_5 (by decide) ?_
  refine va_iald hx hb hK hP 1 1 rfl rfl (by unfold vp_in; decide) dX5_sightsAt_7 ?_
  refine lv_ti (y := (nI see)) (by rfl) ?_
  refine lv_iconst (v := 1) hx hb dX5_sightsAt_8 (by decide) ?_
  refine lv_iadd hx hb dX5_sightsAt_9 ?_
  refine lv_ti (y := (nI (see + 1))) (nI_add see 1) ?_
  refine lv_aload_n hx hb dX5_sightsAt_10 rfl (lv_at hl 0 rfl) ?_
  refine va_get (D := D) (ci := 5) (v := .ref h1) (C := RX5) (T := TX5) (N := 4) hx hb hts inX5 hown hK hP 0 rfl rfl 0 (by decide) (hts _ tw_146) (fun _ h9 => h9) rfl dX5_sightsAt_11 ?_
  refine lv_iconst (v := 0) hx hb dX5_sightsAt_14 (by decide) ?_
  refine va_iald hx hb hK hP 1 1 rfl rfl (by unfold vp_in; decide) dX5_sightsAt_15 ?_
  refine lv_ti (y := (nI n)) (by rfl) ?_
  refine lv_iload_n hx hb dX5_sightsAt_16 rfl (lv_at hl 1 rfl) ?_
  refine lv_isub hx hb dX5_sightsAt_17 ?_
  refine lv_ti (y := (nI (n - i))) (pk_sub (a := n) (b := i) (by omega)) ?_
  refine va_mmin hx hb (by rw [hml]; exact hl.1.symm) hown (hts _ tw_540) (hts _ tw_529) (hts _ tw_93) (hts _ tw_530) (Nat.le_of_ble_eq_true rfl) (Nat.le_of_ble_eq_true rfl) (Nat.le_of_ble_eq_true rfl) (Nat.le_of_ble_eq_true rfl) dX5_sightsAt_18 ?_
  refine lv_ti (y := (nI (min (see + 1) (n - i)))) (mminN (by omega) (by omega)) ?_
  obtain ⟨pw_2, epw_2⟩ : ∃ z : Nat, z = 2 ^ (min (see + 1) (n - i)) := ⟨_, rfl⟩
  have hpw_2 : 1 ≤ pw_2 ∧ pw_2 ≤ 8 := by rw [epw_2]; exact pw8 (by omega)
  refine lv_ishl hx hb dX5_sightsAt_21 ?_
  refine lv_ti (y := (nI pw_2)) (by rw [epw_2]; exact shl1 (min (see + 1) (n - i)) (by omega)) ?_
  exact W.iret (v := (nI pw_2)) hx hb hr (fun t ht hW => ⟨⟨(nI pw_2), (), rfl, ⟨_, rfl, by omega, by omega, min (see + 1) (n - i), by omega, epw_2⟩, trivial⟩, hS.F ht⟩) hS.2.2 dX5_sightsAt_22


theorem dX3_roundsIn_0 : decode cX3_roundsIn 0 = .ok (.aload_n 0, 1) := by decide +kernel
theorem dX3_roundsIn_1 : decode cX3_roundsIn 1 = .ok (.getfield 25, 3) := by decide +kernel
theorem dX3_roundsIn_4 : decode cX3_roundsIn 4 = .ok (.aload_n 1, 1) := by decide +kernel
theorem dX3_roundsIn_5 : decode cX3_roundsIn 5 = .ok (.getfield 70, 3) := by decide +kernel
theorem dX3_roundsIn_8 : decode cX3_roundsIn 8 = .ok (.bipush 8, 2) := by decide +kernel
theorem dX3_roundsIn_10 : decode cX3_roundsIn 10 = .ok (.iaload, 1) := by decide +kernel
theorem dX3_roundsIn_11 : decode cX3_roundsIn 11 = .ok (.invokestatic 75, 3) := by decide +kernel
theorem dX3_roundsIn_14 : decode cX3_roundsIn 14 = .ok (.ireturn, 1) := by decide +kernel
set_option maxHeartbeats 4000000 in
set_option maxRecDepth 100000 in
theorem x_roundsIn (l : Launch) (D : va_G) (k : Nat → ClassId) (st : Nat → Nat) (lo : Nat) (u0 : Nat) (u1 : Nat) (u2 : Nat) (rf : Int32) (rc : Nat) (rr : Nat) (h0 : Nat) (h1 : Nat) (h2 : Nat) (h3 : Nat) (h4 : Nat) (n : Nat) (see : Nat) (tm : Nat) (g : Nat → Int32) (hrr : rr ≤ 3) (htm9 : tm ≤ 3) : CRi l D k st lo yX3_roundsIn cX3_roundsIn 2 (some .int) ({ frames := 1, cells := 0, slots := 0, locals := 60 }) [.ref u0, .ref h0] [(u0, .inr (3, [.ref u1, .ref u2, .int rf, .int (nI rc), .int (nI rr)])), (h0, .inr (5, [.ref h1, .ref h2, .ref h3, .ref h4])), (h1, .inl (k 1, 10, .inl (vv n see tm g)))] (fun r => r = nI (min rr tm)) := by
  intro sz
  refine Met.ofW (cc := cX3_roundsIn) (maxL := 2) (ret := (some .int)) (by decide) rfl ?_
  intro p e s m args below meth c s₁ B hml hv
  obtain ⟨rfl, hsz, hlo, hP, hK, hDL, hZ⟩ := hv
  have hx := B.exec
  have hb := B.bytes
  have hr := B.returns
  have hts := WS_ts B.pre
  have hown : s.vm.findClass RX3 = some m.cls := findClass_of_methodNamed B.named
  have hlocks := B.notSynchronized
  subst hsz
  have hA : ∀ q : Nat, s.heap.size ≤ q → (fun q : Nat => s.heap.size ≤ q) q := fun _ h => h
  have hAlo : ∀ q : Nat, (fun q : Nat => s.heap.size ≤ q) q → lo ≤ q := fun q h => Nat.le_trans hlo h
  have hS : va_S (fun q : Nat => s.heap.size ≤ q) s.heap s.heap [] := va_S.rf
  have hl := lv_entry ([.ref u0, .ref h0]) (n := 2) (Nat.le_of_ble_eq_true rfl)
  rw [lg_entry_eq]
  generalize (lg_sl ([.ref u0, .ref h0]) ++ List.replicate (2 - (lg_sl ([.ref u0, .ref h0])).length) Slot.unset).toArray = ls at hl ⊢
  have hl : lv_has ls 2 [(0, .ref u0), (1, .ref h0)] := hl
  refine lv_aload_n hx hb dX3_roundsIn_0 rfl (lv_at hl 0 rfl) ?_
  refine va_get (D := D) (ci := 3) (v := .int (nI rr)) (C := RX3) (T := TX3) (N := 5) hx hb hts inX3 hown hK hP 0 rfl rfl 4 (by decide) (hts _ tw_293) (fun _ h9 => h9) rfl dX3_roundsIn_1 ?_
  refine lv_aload_n hx hb dX3_roundsIn_4 rfl (lv_at hl 1 rfl) ?_
  refine va_get (D := D) (ci := 5) (v := .ref h1) (C := RX5) (T := TX5) (N := 4) hx hb hts inX5 hown hK hP 1 rfl rfl 0 (by decide) (hts _ tw_148) (fun _ h9 => h9) rfl dX3_roundsIn_5 ?_
  refine lv_bipush (v := 8) hx hb dX3_roundsIn_8 (by decide) ?_
  refine va_iald hx hb hK hP 2 1 rfl rfl (by unfold vp_in; decide) dX3_roundsIn_10 ?_
  refine lv_ti (y := (nI tm)) (by rfl) ?_
  refine va_mmin hx hb (by rw [hml]; exact hl.1.symm) hown (hts _ tw_709) (hts _ tw_529) (hts _ tw_93) (hts _ tw_530) (Nat.le_of_ble_eq_true rfl) (Nat.le_of_ble_eq_true rfl) (Nat.le_of_ble_eq_true rfl) (Nat.le_of_ble_eq_true rfl) dX3_roundsIn_11 ?_
  refine lv_ti (y := (nI (min rr tm))) (mminN (by omega) (by omega)) ?_
  exact W.iret (v := (nI (min rr tm))) hx hb hr (fun t ht hW => ⟨⟨(nI (min rr tm)), (), rfl, rfl, trivial⟩, hS.F ht⟩) hS.2.2 dX3_roundsIn_14


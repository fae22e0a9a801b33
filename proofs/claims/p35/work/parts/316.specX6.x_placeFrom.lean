theorem dX1_placeFrom_0 : decode cX1_placeFrom 0 = .ok (.iload_n 1, 1) := by decide +kernel
theorem dX1_placeFrom_1 : decode cX1_placeFrom 1 = .ok (.istore_n 3, 1) := by decide +kernel
theorem dX1_placeFrom_2 : decode cX1_placeFrom 2 = .ok (.iload_n 3, 1) := by decide +kernel
theorem dX1_placeFrom_3 : decode cX1_placeFrom 3 = .ok (.aload_n 0, 1) := by decide +kernel
theorem dX1_placeFrom_4 : decode cX1_placeFrom 4 = .ok (.getfield 21, 3) := by decide +kernel
theorem dX1_placeFrom_7 : decode cX1_placeFrom 7 = .ok (.if_icmp .ge 19, 3) := by decide +kernel
theorem dX1_placeFrom_10 : decode cX1_placeFrom 10 = .ok (.iload_n 2, 1) := by decide +kernel
theorem dX1_placeFrom_11 : decode cX1_placeFrom 11 = .ok (.iload_n 3, 1) := by decide +kernel
theorem dX1_placeFrom_12 : decode cX1_placeFrom 12 = .ok (.ishr, 1) := by decide +kernel
theorem dX1_placeFrom_13 : decode cX1_placeFrom 13 = .ok (.iconst 1, 1) := by decide +kernel
theorem dX1_placeFrom_14 : decode cX1_placeFrom 14 = .ok (.iand, 1) := by decide +kernel
theorem dX1_placeFrom_15 : decode cX1_placeFrom 15 = .ok (.ifCond .eq 5, 3) := by decide +kernel
theorem dX1_placeFrom_18 : decode cX1_placeFrom 18 = .ok (.iload_n 3, 1) := by decide +kernel
theorem dX1_placeFrom_19 : decode cX1_placeFrom 19 = .ok (.ireturn, 1) := by decide +kernel
theorem dX1_placeFrom_20 : decode cX1_placeFrom 20 = .ok (.iinc 3 1, 3) := by decide +kernel
theorem dX1_placeFrom_23 : decode cX1_placeFrom 23 = .ok (.goto (-21), 3) := by decide +kernel
theorem dX1_placeFrom_26 : decode cX1_placeFrom 26 = .ok (.aload_n 0, 1) := by decide +kernel
theorem dX1_placeFrom_27 : decode cX1_placeFrom 27 = .ok (.getfield 21, 3) := by decide +kernel
theorem dX1_placeFrom_30 : decode cX1_placeFrom 30 = .ok (.ireturn, 1) := by decide +kernel
set_option maxHeartbeats 4000000 in
set_option maxRecDepth 100000 in
theorem x_placeFrom (l : Launch) (D : va_G) (k : Nat → ClassId) (st : Nat → Nat) (lo : Nat) (c0 : Nat) (z0 : Nat) (z1 : Nat) (z2 : Nat) (z3 : Nat) (pn : Nat) (pf : Int32) (pd : Int32) (pe : Int32) (bb : Nat) (p1 : Int32) (hpn : pn ≤ 24) (hbb : bb ≤ 24) : CRi l D k st lo yX1_placeFrom cX1_placeFrom 4 (some .int) ({ frames := 0, cells := 0, slots := 0, locals := 0 }) [.ref z0, .int (nI bb), .int p1] [(z0, .inr (1, [.ref c0, .ref z1, .ref z2, .ref z3, .int (nI pn), .int pf, .int pd, .int pe]))] (fun r => ∃ z : Nat, z ≤ pn ∧ r = nI z) := by
  intro sz
  refine Met.ofW (cc := cX1_placeFrom) (maxL := 4) (ret := (some .int)) (by decide) rfl ?_
  intro p e s m args below meth c s₁ B hml hv
  obtain ⟨rfl, hsz, hlo, hP, hK, hDL, hZ⟩ := hv
  have hx := B.exec
  have hb := B.bytes
  have hr := B.returns
  have hts := WS_ts B.pre
  have hown : s.vm.findClass RX1 = some m.cls := findClass_of_methodNamed B.named
  have hlocks := B.notSynchronized
  subst hsz
  have hA : ∀ q : Nat, s.heap.size ≤ q → (fun q : Nat => s.heap.size ≤ q) q := fun _ h => h
  have hAlo : ∀ q : Nat, (fun q : Nat => s.heap.size ≤ q) q → lo ≤ q := fun q h => Nat.le_trans hlo h
  have hS : va_S (fun q : Nat => s.heap.size ≤ q) s.heap s.heap [] := va_S.rf
  have hl := lv_entry ([.ref z0, .int (nI bb), .int p1]) (n := 4) (Nat.le_of_ble_eq_true rfl)
  rw [lg_entry_eq]
  generalize (lg_sl ([.ref z0, .int (nI bb), .int p1]) ++ List.replicate (4 - (lg_sl ([.ref z0, .int (nI bb), .int p1])).length) Slot.unset).toArray = ls at hl ⊢
  have hl : lv_has ls 4 [(0, .ref z0), (1, .int (nI bb)), (2, .int p1)] := hl
  refine lv_iload_n hx hb dX1_placeFrom_0 rfl (lv_at hl 1 rfl) ?_
  refine lv_istore_n (lv' := [(3, .int (nI bb)), (0, .ref z0), (1, .int (nI bb)), (2, .int p1)]) hx hb dX1_placeFrom_1 rfl hl (by decide) rfl (fun ls hl => ?_)
  refine W_loop (σ := Nat) (fun (n_ : Nat) (ii_1 : Nat) (H : Heap) (locs : List Loc) (ls : Array Slot) => n_ = 25 - ii_1 ∧ (ii_1 ≤ 24) ∧ va_P D classes [(z0, .inr (1, [.ref c0, .ref z1, .ref z2, .ref z3, .int (nI pn), .int pf, .int pd, .int pe]))] H ∧ va_S (fun q : Nat => s.heap.size ≤ q) s.heap H locs ∧ lv_has ls 4 [(3, .int (nI ii_1)), (0, .ref z0), (1, .int (nI bb)), (2, .int p1)]) (fun n_1 x_1 H locs ls hI ih_1 => ?_) _ bb ⟨rfl, (by omega), hP, hS, (lv_sub hl [0, 1, 2, 3] rfl)⟩
  obtain ⟨ii_1, rfl⟩ : ∃ z, z = x_1 := ⟨_, rfl⟩
  obtain ⟨hm_1, hv_1, hP, hS, hl⟩ := hI
  subst hm_1
  refine lv_iload_n hx hb dX1_placeFrom_2 rfl (lv_at hl 0 rfl) ?_
  refine lv_aload_n hx hb dX1_placeFrom_3 rfl (lv_at hl 1 rfl) ?_
  refine va_get (D := D) (ci := 1) (v := .int (nI pn)) (C := RX1) (T := TX1) (N := 8) hx hb hts inX1 hown hK hP 0 rfl rfl 4 (by decide) (hts _ tw_240) (fun _ h9 => h9) rfl dX1_placeFrom_4 ?_
  refine lv_icmp_ge (tgt := 26) hx hb dX1_placeFrom_7 (by decide) (fun c_2 => ?_) (fun c_2 => ?_)
  · have c_2 := (nI_leI (a := pn) (b := ii_1) (by omega) (by omega)).mp c_2
    refine lv_aload_n hx hb dX1_placeFrom_26 rfl (lv_at hl 1 rfl) ?_
    refine va_get (D := D) (ci := 1) (v := .int (nI pn)) (C := RX1) (T := TX1) (N := 8) hx hb hts inX1 hown hK hP 0 rfl rfl 4 (by decide) (hts _ tw_240) (fun _ h9 => h9) rfl dX1_placeFrom_27 ?_
    exact W.iret (v := (nI pn)) hx hb hr (fun t ht hW => ⟨⟨(nI pn), (), rfl, ⟨_, by omega, rfl⟩, trivial⟩, hS.F ht⟩) hS.2.2 dX1_placeFrom_30
  · have c_2 : ¬ (pn ≤ ii_1) := fun h => c_2 ((nI_leI (a := pn) (b := ii_1) (by omega) (by omega)).mpr h)
    refine lv_iload_n hx hb dX1_placeFrom_10 rfl (lv_at hl 3 rfl) ?_
    refine lv_iload_n hx hb dX1_placeFrom_11 rfl (lv_at hl 0 rfl) ?_
    refine lv_ishr hx hb dX1_placeFrom_12 ?_
    refine lv_topi (fun x_3 ex_3 => ?_)
    refine lv_iconst (v := 1) hx hb dX1_placeFrom_13 (by decide) ?_
    refine lv_iand hx hb dX1_placeFrom_14 ?_
    refine lv_topi (fun x_4 ex_4 => ?_)
    refine lv_if_eq (tgt := 20) hx hb dX1_placeFrom_15 (by decide) (fun c_5 => ?_) (fun c_5 => ?_)
    · refine lv_iinc (v := (nI (ii_1 + 1))) (lv' := [(3, .int (nI (ii_1 + 1))), (0, .ref z0), (1, .int (nI bb)), (2, .int p1)]) hx hb dX1_placeFrom_20 hl (k := 0) rfl (nI_add ii_1 1) (by decide) rfl (fun ls hl => ?_)
      refine lv_goto (tgt := 2) hx hb dX1_placeFrom_23 (by decide) ?_
      exact ih_1 _ (ii_1 + 1) _ _ _ (by omega) ⟨rfl, (by omega), hP, hS, (lv_sub hl [0, 1, 2, 3] rfl)⟩
    · refine lv_iload_n hx hb dX1_placeFrom_18 rfl (lv_at hl 0 rfl) ?_
      exact W.iret (v := (nI ii_1)) hx hb hr (fun t ht hW => ⟨⟨(nI ii_1), (), rfl, ⟨_, by omega, rfl⟩, trivial⟩, hS.F ht⟩) hS.2.2 dX1_placeFrom_19


theorem dX3_barAfter_0 : decode cX3_barAfter 0 = .ok (.aload_n 0, 1) := by decide +kernel
theorem dX3_barAfter_1 : decode cX3_barAfter 1 = .ok (.getfield 22, 3) := by decide +kernel
theorem dX3_barAfter_4 : decode cX3_barAfter 4 = .ok (.iconst 1, 1) := by decide +kernel
theorem dX3_barAfter_5 : decode cX3_barAfter 5 = .ok (.isub, 1) := by decide +kernel
theorem dX3_barAfter_6 : decode cX3_barAfter 6 = .ok (.istore_n 2, 1) := by decide +kernel
theorem dX3_barAfter_7 : decode cX3_barAfter 7 = .ok (.iload_n 2, 1) := by decide +kernel
theorem dX3_barAfter_8 : decode cX3_barAfter 8 = .ok (.ifCond .lt 26, 3) := by decide +kernel
theorem dX3_barAfter_11 : decode cX3_barAfter 11 = .ok (.aload_n 0, 1) := by decide +kernel
theorem dX3_barAfter_12 : decode cX3_barAfter 12 = .ok (.getfield 9, 3) := by decide +kernel
theorem dX3_barAfter_15 : decode cX3_barAfter 15 = .ok (.iload_n 2, 1) := by decide +kernel
theorem dX3_barAfter_16 : decode cX3_barAfter 16 = .ok (.iaload, 1) := by decide +kernel
theorem dX3_barAfter_17 : decode cX3_barAfter 17 = .ok (.iload_n 1, 1) := by decide +kernel
theorem dX3_barAfter_18 : decode cX3_barAfter 18 = .ok (.if_icmp .gt 10, 3) := by decide +kernel
theorem dX3_barAfter_21 : decode cX3_barAfter 21 = .ok (.aload_n 0, 1) := by decide +kernel
theorem dX3_barAfter_22 : decode cX3_barAfter 22 = .ok (.getfield 15, 3) := by decide +kernel
theorem dX3_barAfter_25 : decode cX3_barAfter 25 = .ok (.iload_n 2, 1) := by decide +kernel
theorem dX3_barAfter_26 : decode cX3_barAfter 26 = .ok (.iaload, 1) := by decide +kernel
theorem dX3_barAfter_27 : decode cX3_barAfter 27 = .ok (.ireturn, 1) := by decide +kernel
theorem dX3_barAfter_28 : decode cX3_barAfter 28 = .ok (.iinc 2 (-1), 3) := by decide +kernel
theorem dX3_barAfter_31 : decode cX3_barAfter 31 = .ok (.goto (-24), 3) := by decide +kernel
theorem dX3_barAfter_34 : decode cX3_barAfter 34 = .ok (.aload_n 0, 1) := by decide +kernel
theorem dX3_barAfter_35 : decode cX3_barAfter 35 = .ok (.getfield 18, 3) := by decide +kernel
theorem dX3_barAfter_38 : decode cX3_barAfter 38 = .ok (.ireturn, 1) := by decide +kernel
set_option maxHeartbeats 4000000 in
set_option maxRecDepth 100000 in
theorem x_barAfter (l : Launch) (D : va_G) (k : Nat → ClassId) (st : Nat → Nat) (lo : Nat) (u0 : Nat) (u1 : Nat) (u2 : Nat) (rf : Int32) (rc : Nat) (rr : Nat) (rs : Nat → Int32) (rb : Nat → Int32) (p0 : Int32) (hrc : rc ≤ 24) : CRi l D k st lo yX3_barAfter cX3_barAfter 3 (some .int) ({ frames := 0, cells := 0, slots := 0, locals := 0 }) [.ref u0, .int p0] [(u0, .inr (3, [.ref u1, .ref u2, .int rf, .int (nI rc), .int (nI rr)])), (u1, .inl (k 1, 24, .inl rs)), (u2, .inl (k 1, 24, .inl rb))] (fun _ => True) := by
  intro sz
  refine Met.ofW (cc := cX3_barAfter) (maxL := 3) (ret := (some .int)) (by decide) rfl ?_
  intro p e s m args below meth c s₁ B hml hv
  obtain ⟨rfl, hsz, hlo, hP, hK, hDL, hZ⟩ := hv
  have hx := B.exec
  have hb := B.bytes
  have hr := B.returns
  have hts := WS_ts B.pre
  have hown : s.vm.findClass RX3 = some m.cls := findClass_of_methodNamed B.named
  have hlocks := B.notSynchronized
  subst hsz
  have hA : ∀ q : Nat, s.heap.size ≤ q → (fun q : Nat => s.heap.size ≤ q) q := fun _ h => h
  have hAlo : ∀ q : Nat, (fun q : Nat => s.heap.size ≤ q) q → lo ≤ q := fun q h => Nat.le_trans hlo h
  have hS : va_S (fun q : Nat => s.heap.size ≤ q) s.heap s.heap [] := va_S.rf
  have hl := lv_entry ([.ref u0, .int p0]) (n := 3) (Nat.le_of_ble_eq_true rfl)
  rw [lg_entry_eq]
  generalize (lg_sl ([.ref u0, .int p0]) ++ List.replicate (3 - (lg_sl ([.ref u0, .int p0])).length) Slot.unset).toArray = ls at hl ⊢
  have hl : lv_has ls 3 [(0, .ref u0), (1, .int p0)] := hl
  refine lv_aload_n hx hb dX3_barAfter_0 rfl (lv_at hl 0 rfl) ?_
  refine va_get (D := D) (ci := 3) (v := .int (nI rc)) (C := RX3) (T := TX3) (N := 5) hx hb hts inX3 hown hK hP 0 rfl rfl 3 (by decide) (hts _ tw_292) (fun _ h9 => h9) rfl dX3_barAfter_1 ?_
  refine lv_iconst (v := 1) hx hb dX3_barAfter_4 (by decide) ?_
  refine lv_isub hx hb dX3_barAfter_5 ?_
  refine lv_ti (y := (nI rc - 1)) rfl ?_
  refine lv_istore_n (lv' := [(2, .int (nI rc - 1)), (0, .ref u0), (1, .int p0)]) hx hb dX3_barAfter_6 rfl hl (by decide) rfl (fun ls hl => ?_)
  refine W_loop (σ := Nat) (fun (n_ : Nat) (q_1 : Nat) (H : Heap) (locs : List Loc) (ls : Array Slot) => n_ = 2 * q_1 ∧ (q_1 ≤ 24) ∧ va_P D classes [(u0, .inr (3, [.ref u1, .ref u2, .int rf, .int (nI rc), .int (nI rr)])), (u1, .inl (k 1, 24, .inl rs)), (u2, .inl (k 1, 24, .inl rb))] H ∧ va_S (fun q : Nat => s.heap.size ≤ q) s.heap H locs ∧ lv_has ls 3 [(2, .int (nI q_1 - 1)), (0, .ref u0), (1, .int p0)]) (fun n_1 x_1 H locs ls hI ih_1 => ?_) _ rc ⟨rfl, (by omega), hP, hS, (lv_sub hl [0, 1, 2] rfl)⟩
  obtain ⟨q_1, rfl⟩ : ∃ z, z = x_1 := ⟨_, rfl⟩
  obtain ⟨hm_1, hv_1, hP, hS, hl⟩ := hI
  subst hm_1
  rcases q_1 with _ | q_1
  · rw [dn0] at hl
    refine lv_iload_n hx hb dX3_barAfter_7 rfl (lv_at hl 0 rfl) ?_
    refine lv_if_lt (tgt := 34) hx hb dX3_barAfter_8 (by decide) (fun _ => ?_) (fun h => absurd (by decide) h)
    refine lv_aload_n hx hb dX3_barAfter_34 rfl (lv_at hl 1 rfl) ?_
    refine va_get (D := D) (ci := 3) (v := .int rf) (C := RX3) (T := TX3) (N := 5) hx hb hts inX3 hown hK hP 0 rfl rfl 2 (by decide) (hts _ tw_291) (fun _ h9 => h9) rfl dX3_barAfter_35 ?_
    exact W.iret (v := rf) hx hb hr (fun t ht hW => ⟨⟨rf, (), rfl, trivial, trivial⟩, hS.F ht⟩) hS.2.2 dX3_barAfter_38
  · rw [nI_pred] at hl
    refine lv_iload_n hx hb dX3_barAfter_7 rfl (lv_at hl 0 rfl) ?_
    refine lv_if_lt (tgt := 34) hx hb dX3_barAfter_8 (by decide) (fun h => absurd h (nI_pos0 (by omega))) (fun _ => ?_)
    refine lv_aload_n hx hb dX3_barAfter_11 rfl (lv_at hl 1 rfl) ?_
    refine va_get (D := D) (ci := 3) (v := .ref u1) (C := RX3) (T := TX3) (N := 5) hx hb hts inX3 hown hK hP 0 rfl rfl 0 (by decide) (hts _ tw_289) (fun _ h9 => h9) rfl dX3_barAfter_12 ?_
    refine lv_iload_n hx hb dX3_barAfter_15 rfl (lv_at hl 0 rfl) ?_
    refine va_iald hx hb hK hP 1 1 rfl rfl (vp_in_nI (by omega) (by decide)) dX3_barAfter_16 ?_
    refine lv_ti (y := (rs q_1)) (by rw [nI_clamp (by omega)]) ?_
    refine lv_iload_n hx hb dX3_barAfter_17 rfl (lv_at hl 2 rfl) ?_
    refine lv_icmp_gt (tgt := 28) hx hb dX3_barAfter_18 (by decide) (fun c_2 => ?_) (fun c_2 => ?_)
    · refine lv_iinc (v := (nI q_1 - 1)) (lv' := [(2, .int (nI q_1 - 1)), (0, .ref u0), (1, .int p0)]) hx hb dX3_barAfter_28 hl (k := 0) rfl (dn1 _) (by decide) rfl (fun ls hl => ?_)
      refine lv_goto (tgt := 7) hx hb dX3_barAfter_31 (by decide) ?_
      exact ih_1 _ (q_1) _ _ _ (by omega) ⟨rfl, (by omega), hP, hS, (lv_sub hl [0, 1, 2] rfl)⟩
    · refine lv_aload_n hx hb dX3_barAfter_21 rfl (lv_at hl 1 rfl) ?_
      refine va_get (D := D) (ci := 3) (v := .ref u2) (C := RX3) (T := TX3) (N := 5) hx hb hts inX3 hown hK hP 0 rfl rfl 1 (by decide) (hts _ tw_290) (fun _ h9 => h9) rfl dX3_barAfter_22 ?_
      refine lv_iload_n hx hb dX3_barAfter_25 rfl (lv_at hl 0 rfl) ?_
      refine va_iald hx hb hK hP 2 1 rfl rfl (vp_in_nI (by omega) (by decide)) dX3_barAfter_26 ?_
      refine lv_ti (y := (rb q_1)) (by rw [nI_clamp (by omega)]) ?_
      exact W.iret (v := (rb q_1)) hx hb hr (fun t ht hW => ⟨⟨(rb q_1), (), rfl, trivial, trivial⟩, hS.F ht⟩) hS.2.2 dX3_barAfter_27


theorem dX4_sawFree_0 : decode cX4_sawFree 0 = .ok (.aload_n 0, 1) := by decide +kernel
theorem dX4_sawFree_1 : decode cX4_sawFree 1 = .ok (.getfield 25, 3) := by decide +kernel
theorem dX4_sawFree_4 : decode cX4_sawFree 4 = .ok (.iload_n 1, 1) := by decide +kernel
theorem dX4_sawFree_5 : decode cX4_sawFree 5 = .ok (.ishr, 1) := by decide +kernel
theorem dX4_sawFree_6 : decode cX4_sawFree 6 = .ok (.iconst 1, 1) := by decide +kernel
theorem dX4_sawFree_7 : decode cX4_sawFree 7 = .ok (.iand, 1) := by decide +kernel
theorem dX4_sawFree_8 : decode cX4_sawFree 8 = .ok (.ifCond .eq 7, 3) := by decide +kernel
theorem dX4_sawFree_11 : decode cX4_sawFree 11 = .ok (.iconst 1, 1) := by decide +kernel
theorem dX4_sawFree_12 : decode cX4_sawFree 12 = .ok (.goto 4, 3) := by decide +kernel
theorem dX4_sawFree_15 : decode cX4_sawFree 15 = .ok (.iconst 0, 1) := by decide +kernel
theorem dX4_sawFree_16 : decode cX4_sawFree 16 = .ok (.ireturn, 1) := by decide +kernel
set_option maxHeartbeats 4000000 in
set_option maxRecDepth 100000 in
theorem x_sawFree (l : Launch) (D : va_G) (k : Nat → ClassId) (st : Nat → Nat) (lo : Nat) (c0 : Nat) (c1 : Nat) (c2 : Nat) (cc : Nat) (rz : Nat) (ro : Int32) (sd : Int32) (p0 : Int32)  : CRi l D k st lo yX4_sawFree cX4_sawFree 2 (some .boolean) ({ frames := 0, cells := 0, slots := 0, locals := 0 }) [.ref c0, .int p0] [(c0, .inr (4, [.ref c1, .ref c2, .int (nI cc), .int (nI rz), .int ro, .int sd]))] (fun r => r = 1 ∨ r = 0) := by
  intro sz
  refine Met.ofW (cc := cX4_sawFree) (maxL := 2) (ret := (some .boolean)) (by decide) rfl ?_
  intro p e s m args below meth c s₁ B hml hv
  obtain ⟨rfl, hsz, hlo, hP, hK, hDL, hZ⟩ := hv
  have hx := B.exec
  have hb := B.bytes
  have hr := B.returns
  have hts := WS_ts B.pre
  have hown : s.vm.findClass RX4 = some m.cls := findClass_of_methodNamed B.named
  have hlocks := B.notSynchronized
  subst hsz
  have hA : ∀ q : Nat, s.heap.size ≤ q → (fun q : Nat => s.heap.size ≤ q) q := fun _ h => h
  have hAlo : ∀ q : Nat, (fun q : Nat => s.heap.size ≤ q) q → lo ≤ q := fun q h => Nat.le_trans hlo h
  have hS : va_S (fun q : Nat => s.heap.size ≤ q) s.heap s.heap [] := va_S.rf
  have hl := lv_entry ([.ref c0, .int p0]) (n := 2) (Nat.le_of_ble_eq_true rfl)
  rw [lg_entry_eq]
  generalize (lg_sl ([.ref c0, .int p0]) ++ List.replicate (2 - (lg_sl ([.ref c0, .int p0])).length) Slot.unset).toArray = ls at hl ⊢
  have hl : lv_has ls 2 [(0, .ref c0), (1, .int p0)] := hl
  refine lv_aload_n hx hb dX4_sawFree_0 rfl (lv_at hl 0 rfl) ?_
  refine va_get (D := D) (ci := 4) (v := .int ro) (C := RX4) (T := TX4) (N := 6) hx hb hts inX4 hown hK hP 0 rfl rfl 4 (by decide) (hts _ tw_185) (fun _ h9 => h9) rfl dX4_sawFree_1 ?_
  refine lv_iload_n hx hb dX4_sawFree_4 rfl (lv_at hl 1 rfl) ?_
  refine lv_ishr hx hb dX4_sawFree_5 ?_
  refine lv_topi (fun x_1 ex_1 => ?_)
  refine lv_iconst (v := 1) hx hb dX4_sawFree_6 (by decide) ?_
  refine lv_iand hx hb dX4_sawFree_7 ?_
  refine lv_topi (fun x_2 ex_2 => ?_)
  refine lv_if_eq (tgt := 15) hx hb dX4_sawFree_8 (by decide) (fun c_3 => ?_) (fun c_3 => ?_)
  · refine lv_iconst (v := 0) hx hb dX4_sawFree_15 (by decide) ?_
    exact W.zret (v := 0) (ty := .boolean) hx hb hr rfl (fun t ht hW => ⟨⟨0, (), rfl, .inr rfl, trivial⟩, hS.F ht⟩) hS.2.2 dX4_sawFree_16
  · refine lv_iconst (v := 1) hx hb dX4_sawFree_11 (by decide) ?_
    refine lv_goto (tgt := 16) hx hb dX4_sawFree_12 (by decide) ?_
    exact W.zret (v := 1) (ty := .boolean) hx hb hr rfl (fun t ht hW => ⟨⟨1, (), rfl, .inl rfl, trivial⟩, hS.F ht⟩) hS.2.2 dX4_sawFree_16


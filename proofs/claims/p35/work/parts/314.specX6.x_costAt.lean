theorem dX1_costAt_0 : decode cX1_costAt 0 = .ok (.aload_n 0, 1) := by decide +kernel
theorem dX1_costAt_1 : decode cX1_costAt 1 = .ok (.getfield 15, 3) := by decide +kernel
theorem dX1_costAt_4 : decode cX1_costAt 4 = .ok (.iload_n 1, 1) := by decide +kernel
theorem dX1_costAt_5 : decode cX1_costAt 5 = .ok (.bipush 25, 2) := by decide +kernel
theorem dX1_costAt_7 : decode cX1_costAt 7 = .ok (.imul, 1) := by decide +kernel
theorem dX1_costAt_8 : decode cX1_costAt 8 = .ok (.iload_n 2, 1) := by decide +kernel
theorem dX1_costAt_9 : decode cX1_costAt 9 = .ok (.iadd, 1) := by decide +kernel
theorem dX1_costAt_10 : decode cX1_costAt 10 = .ok (.iaload, 1) := by decide +kernel
theorem dX1_costAt_11 : decode cX1_costAt 11 = .ok (.ireturn, 1) := by decide +kernel
set_option maxHeartbeats 4000000 in
set_option maxRecDepth 100000 in
theorem x_costAt (l : Launch) (D : va_G) (k : Nat → ClassId) (st : Nat → Nat) (lo : Nat) (c0 : Nat) (z0 : Nat) (z1 : Nat) (z2 : Nat) (z3 : Nat) (pn : Nat) (pf : Int32) (pd : Int32) (pe : Int32) (pco : Nat → Int32) (cn : Nat) (pl : Nat) (hcn : cn < 4) (hpl : pl ≤ 24) : CRi l D k st lo yX1_costAt cX1_costAt 3 (some .int) ({ frames := 0, cells := 0, slots := 0, locals := 0 }) [.ref z0, .int (nI cn), .int (nI pl)] [(z0, .inr (1, [.ref c0, .ref z1, .ref z2, .ref z3, .int (nI pn), .int pf, .int pd, .int pe])), (z2, .inl (k 1, 100, .inl pco))] (fun _ => True) := by
  intro sz
  refine Met.ofW (cc := cX1_costAt) (maxL := 3) (ret := (some .int)) (by decide) rfl ?_
  intro p e s m args below meth c s₁ B hml hv
  obtain ⟨rfl, hsz, hlo, hP, hK, hDL, hZ⟩ := hv
  have hx := B.exec
  have hb := B.bytes
  have hr := B.returns
  have hts := WS_ts B.pre
  have hown : s.vm.findClass RX1 = some m.cls := findClass_of_methodNamed B.named
  have hlocks := B.notSynchronized
  subst hsz
  have hA : ∀ q : Nat, s.heap.size ≤ q → (fun q : Nat => s.heap.size ≤ q) q := fun _ h => h
  have hAlo : ∀ q : Nat, (fun q : Nat => s.heap.size ≤ q) q → lo ≤ q := fun q h => Nat.le_trans hlo h
  have hS : va_S (fun q : Nat => s.heap.size ≤ q) s.heap s.heap [] := va_S.rf
  have hl := lv_entry ([.ref z0, .int (nI cn), .int (nI pl)]) (n := 3) (Nat.le_of_ble_eq_true rfl)
  rw [lg_entry_eq]
  generalize (lg_sl ([.ref z0, .int (nI cn), .int (nI pl)]) ++ List.replicate (3 - (lg_sl ([.ref z0, .int (nI cn), .int (nI pl)])).length) Slot.unset).toArray = ls at hl ⊢
  have hl : lv_has ls 3 [(0, .ref z0), (1, .int (nI cn)), (2, .int (nI pl))] := hl
  refine lv_aload_n hx hb dX1_costAt_0 rfl (lv_at hl 0 rfl) ?_
  refine va_get (D := D) (ci := 1) (v := .ref z2) (C := RX1) (T := TX1) (N := 8) hx hb hts inX1 hown hK hP 0 rfl rfl 2 (by decide) (hts _ tw_238) (fun _ h9 => h9) rfl dX1_costAt_1 ?_
  refine lv_iload_n hx hb dX1_costAt_4 rfl (lv_at hl 1 rfl) ?_
  refine lv_bipush (v := 25) hx hb dX1_costAt_5 (by decide) ?_
  refine lv_imul hx hb dX1_costAt_7 ?_
  refine lv_ti (y := (nI (cn * 25))) (pk_mul cn 25) ?_
  refine lv_iload_n hx hb dX1_costAt_8 rfl (lv_at hl 2 rfl) ?_
  refine lv_iadd hx hb dX1_costAt_9 ?_
  refine lv_ti (y := (nI (cn * 25 + pl))) (nI_add (cn * 25) pl) ?_
  refine va_iald hx hb hK hP 1 1 rfl rfl (vp_in_nI (by omega) (by decide)) dX1_costAt_10 ?_
  refine lv_ti (y := (pco (cn * 25 + pl))) (by rw [nI_clamp (by omega)]) ?_
  exact W.iret (v := (pco (cn * 25 + pl))) hx hb hr (fun t ht hW => ⟨⟨(pco (cn * 25 + pl)), (), rfl, trivial, trivial⟩, hS.F ht⟩) hS.2.2 dX1_costAt_11


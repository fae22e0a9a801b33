def fX_mixed (p0 : Int32) (p1 : Int32) (p2 : Int32) : Int32 := (((((p0.toInt64) * (p1.toInt64)) + (((100 - p0).toInt64) * (p2.toInt64))) / 100).toInt32)
set_option maxHeartbeats 4000000 in
set_option maxRecDepth 100000 in
theorem y_mixed (l : Launch) (D : va_G) (k : Nat → ClassId) (st : Nat → Nat) (lo : Nat) (p0 : Int32) (p1 : Int32) (p2 : Int32)  : CRi l D k st lo yX7_mixed cX7_mixed 3 (some .int) ({ frames := 0, cells := 0, slots := 0, locals := 0 }) [.int p0, .int p1, .int p2] [] (fun r => r = fX_mixed p0 p1 p2) := by
  intro sz
  refine Met.ofW (cc := cX7_mixed) (maxL := 3) (ret := (some .int)) (by decide) rfl ?_
  intro p e s m args below meth c s₁ B hml hv
  obtain ⟨rfl, hsz, hlo, hP, hK, hDL, hZ⟩ := hv
  have hx := B.exec
  have hb := B.bytes
  have hr := B.returns
  have hts := WS_ts B.pre
  have hown : s.vm.findClass RX7 = some m.cls := findClass_of_methodNamed B.named
  have hlocks := B.notSynchronized
  subst hsz
  have hA : ∀ q : Nat, s.heap.size ≤ q → (fun q : Nat => s.heap.size ≤ q) q := fun _ h => h
  have hAlo : ∀ q : Nat, (fun q : Nat => s.heap.size ≤ q) q → lo ≤ q := fun q h => Nat.le_trans hlo h
  have hS : va_S (fun q : Nat => s.heap.size ≤ q) s.heap s.heap [] := va_S.rf
  have hl := lv_entry ([.int p0, .int p1, .int p2]) (n := 3) (Nat.le_of_ble_eq_true rfl)
  rw [lg_entry_eq]
  generalize (lg_sl ([.int p0, .int p1, .int p2]) ++ List.replicate (3 - (lg_sl ([.int p0, .int p1, .int p2])).length) Slot.unset).toArray = ls at hl ⊢
  have hl : lv_has ls 3 [(0, .int p0), (1, .int p1), (2, .int p2)] := hl
  refine lv_iload_n hx hb dX7_mixed_0 rfl (lv_at hl 0 rfl) ?_
  refine lv_i2l (v := p0.toInt64) hx hb dX7_mixed_1 rfl ?_
  refine lv_iload_n hx hb dX7_mixed_2 rfl (lv_at hl 1 rfl) ?_
  refine lv_i2l (v := p1.toInt64) hx hb dX7_mixed_3 rfl ?_
  refine lv_lmul hx hb dX7_mixed_4 ?_
  refine lv_topl (fun x_1 ex_1 => ?_)
  refine lv_bipush (v := 100) hx hb dX7_mixed_5 (by decide) ?_
  refine lv_iload_n hx hb dX7_mixed_7 rfl (lv_at hl 0 rfl) ?_
  refine lv_isub hx hb dX7_mixed_8 ?_
  refine lv_topi (fun x_2 ex_2 => ?_)
  refine lv_i2l (v := x_2.toInt64) hx hb dX7_mixed_9 rfl ?_
  refine lv_iload_n hx hb dX7_mixed_10 rfl (lv_at hl 2 rfl) ?_
  refine lv_i2l (v := p2.toInt64) hx hb dX7_mixed_11 rfl ?_
  refine lv_lmul hx hb dX7_mixed_12 ?_
  refine lv_topl (fun x_3 ex_3 => ?_)
  refine lv_ladd hx hb dX7_mixed_13 ?_
  refine lv_topl (fun x_4 ex_4 => ?_)
  refine lv_ldc2 hx hb hown (hts _ tw_571) dX7_mixed_14 ?_
  refine lv_ldiv hx hb dX7_mixed_17 (by decide) ?_
  refine lv_topl (fun x_5 ex_5 => ?_)
  refine lv_l2i hx hb dX7_mixed_18 rfl ?_
  refine lv_topi (fun x_6 ex_6 => ?_)
  exact W.iret (v := x_6) hx hb hr (fun t ht hW => ⟨⟨x_6, (), rfl, (by show _ = fX_mixed p0 p1 p2; unfold fX_mixed; first | (rw [ex_6, ex_5, ex_4, ex_3, ex_2, ex_1]; done) | (rw [ex_6, ex_5, ex_4, ex_3, ex_2, ex_1]; rfl) | (simp only [ex_6, ex_5, ex_4, ex_3, ex_2, ex_1]; done)), trivial⟩, hS.F ht⟩) hS.2.2 dX7_mixed_19


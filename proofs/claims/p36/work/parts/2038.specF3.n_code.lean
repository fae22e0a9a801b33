def fM_code (p0 : Int32) (p1 : Int32) (p2 : Int32) : Int64 := (((27 * (((27 * ((p0.toInt64) - 96)) + (p1.toInt64)) - 96)) + (p2.toInt64)) - 96)
set_option maxHeartbeats 4000000 in
set_option maxRecDepth 100000 in
theorem n_code (l : Launch) (D : va_G) (k : Nat → ClassId) (st : Nat → Nat) (lo : Nat) (p0 : Int32) (p1 : Int32) (p2 : Int32)  : CRl l D k st lo yX8_code cX8_code 3 (some .long) ({ frames := 0, cells := 0, slots := 0, locals := 0 }) [.int p0, .int p1, .int p2] [] (fun r => r = fM_code p0 p1 p2) := by
  intro sz
  refine Met.ofW (cc := cX8_code) (maxL := 3) (ret := (some .long)) (by decide) rfl ?_
  intro p e s m args below meth c s₁ B hml hv
  obtain ⟨rfl, hsz, hlo, hP, hK, hDL, hZ⟩ := hv
  have hx := B.exec
  have hb := B.bytes
  have hr := B.returns
  have hts := WS_ts B.pre
  have hown : s.vm.findClass RX8 = some m.cls := findClass_of_methodNamed B.named
  have hlocks := B.notSynchronized
  subst hsz
  have hA : ∀ q : Nat, s.heap.size ≤ q → (fun q : Nat => s.heap.size ≤ q) q := fun _ h => h
  have hAlo : ∀ q : Nat, (fun q : Nat => s.heap.size ≤ q) q → lo ≤ q := fun q h => Nat.le_trans hlo h
  have hS : va_S (fun q : Nat => s.heap.size ≤ q) s.heap s.heap [] := va_S.rf
  have hl := lv_entry ([.int p0, .int p1, .int p2]) (n := 3) (Nat.le_of_ble_eq_true rfl)
  rw [lg_entry_eq]
  generalize (lg_sl ([.int p0, .int p1, .int p2]) ++ List.replicate (3 - (lg_sl ([.int p0, .int p1, .int p2])).length) Slot.unset).toArray = ls at hl ⊢
  have hl : lv_has ls 3 [(0, .int p0), (1, .int p1), (2, .int p2)] := hl
  refine lv_ldc2 hx hb hown (hts _ tw_1136) dX8_code_0 ?_
  refine lv_ldc2 hx hb hown (hts _ tw_1136) dX8_code_3 ?_
  refine lv_iload_n hx hb dX8_code_6 rfl (lv_at hl 0 rfl) ?_
  refine lv_i2l (v := p0.toInt64) hx hb dX8_code_7 rfl ?_
  refine lv_ldc2 hx hb hown (hts _ tw_1137) dX8_code_8 ?_
  refine lv_lsub hx hb dX8_code_11 ?_
  refine lv_topl (fun x_1 ex_1 => ?_)
  refine lv_lmul hx hb dX8_code_12 ?_
  refine lv_topl (fun x_2 ex_2 => ?_)
  refine lv_iload_n hx hb dX8_code_13 rfl (lv_at hl 1 rfl) ?_
  refine lv_i2l (v := p1.toInt64) hx hb dX8_code_14 rfl ?_
  refine lv_ladd hx hb dX8_code_15 ?_
  refine lv_topl (fun x_3 ex_3 => ?_)
  refine lv_ldc2 hx hb hown (hts _ tw_1137) dX8_code_16 ?_
  refine lv_lsub hx hb dX8_code_19 ?_
  refine lv_topl (fun x_4 ex_4 => ?_)
  refine lv_lmul hx hb dX8_code_20 ?_
  refine lv_topl (fun x_5 ex_5 => ?_)
  refine lv_iload_n hx hb dX8_code_21 rfl (lv_at hl 2 rfl) ?_
  refine lv_i2l (v := p2.toInt64) hx hb dX8_code_22 rfl ?_
  refine lv_ladd hx hb dX8_code_23 ?_
  refine lv_topl (fun x_6 ex_6 => ?_)
  refine lv_ldc2 hx hb hown (hts _ tw_1137) dX8_code_24 ?_
  refine lv_lsub hx hb dX8_code_27 ?_
  refine lv_topl (fun x_7 ex_7 => ?_)
  exact W.lret (v := x_7) hx hb hr (fun t ht hW => ⟨⟨x_7, (), rfl, (by show _ = fM_code p0 p1 p2; unfold fM_code; first | (rw [ex_7, ex_6, ex_5, ex_4, ex_3, ex_2, ex_1]; done) | (rw [ex_7, ex_6, ex_5, ex_4, ex_3, ex_2, ex_1]; rfl) | (simp only [ex_7, ex_6, ex_5, ex_4, ex_3, ex_2, ex_1]; done)), trivial⟩, hS.F ht⟩) hS.2.2 dX8_code_28


def fM_longer (q0 : Int64) (p1 : Int32) : Int64 := (((27 * q0) + (p1.toInt64)) - 96)
set_option maxHeartbeats 4000000 in
set_option maxRecDepth 100000 in
theorem n_longer (l : Launch) (D : va_G) (k : Nat → ClassId) (st : Nat → Nat) (lo : Nat) (q0 : Int64) (p1 : Int32)  : CRl l D k st lo yX8_longer cX8_longer 3 (some .long) ({ frames := 0, cells := 0, slots := 0, locals := 0 }) [.long q0, .int p1] [] (fun r => r = fM_longer q0 p1) := by
  intro sz
  refine Met.ofW (cc := cX8_longer) (maxL := 3) (ret := (some .long)) (by decide) rfl ?_
  intro p e s m args below meth c s₁ B hml hv
  obtain ⟨rfl, hsz, hlo, hP, hK, hDL, hZ⟩ := hv
  have hx := B.exec
  have hb := B.bytes
  have hr := B.returns
  have hts := WS_ts B.pre
  have hown : s.vm.findClass RX8 = some m.cls := findClass_of_methodNamed B.named
  have hlocks := B.notSynchronized
  subst hsz
  have hA : ∀ q : Nat, s.heap.size ≤ q → (fun q : Nat => s.heap.size ≤ q) q := fun _ h => h
  have hAlo : ∀ q : Nat, (fun q : Nat => s.heap.size ≤ q) q → lo ≤ q := fun q h => Nat.le_trans hlo h
  have hS : va_S (fun q : Nat => s.heap.size ≤ q) s.heap s.heap [] := va_S.rf
  have hl := lv_entry ([.long q0, .int p1]) (n := 3) (Nat.le_of_ble_eq_true rfl)
  rw [lg_entry_eq]
  generalize (lg_sl ([.long q0, .int p1]) ++ List.replicate (3 - (lg_sl ([.long q0, .int p1])).length) Slot.unset).toArray = ls at hl ⊢
  have hl : lv_has ls 3 [(0, .long q0), (2, .int p1)] := hl
  refine lv_ldc2 hx hb hown (hts _ tw_1136) dX8_longer_0 ?_
  refine lv_lload_n hx hb dX8_longer_3 rfl (lv_at hl 0 rfl) ?_
  refine lv_lmul hx hb dX8_longer_4 ?_
  refine lv_topl (fun x_1 ex_1 => ?_)
  refine lv_iload_n hx hb dX8_longer_5 rfl (lv_at hl 1 rfl) ?_
  refine lv_i2l (v := p1.toInt64) hx hb dX8_longer_6 rfl ?_
  refine lv_ladd hx hb dX8_longer_7 ?_
  refine lv_topl (fun x_2 ex_2 => ?_)
  refine lv_ldc2 hx hb hown (hts _ tw_1137) dX8_longer_8 ?_
  refine lv_lsub hx hb dX8_longer_11 ?_
  refine lv_topl (fun x_3 ex_3 => ?_)
  exact W.lret (v := x_3) hx hb hr (fun t ht hW => ⟨⟨x_3, (), rfl, (by show _ = fM_longer q0 p1; unfold fM_longer; first | (rw [ex_3, ex_2, ex_1]; done) | (rw [ex_3, ex_2, ex_1]; rfl) | (simp only [ex_3, ex_2, ex_1]; done)), trivial⟩, hS.F ht⟩) hS.2.2 dX8_longer_12


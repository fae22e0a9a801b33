set_option maxHeartbeats 4000000 in
set_option maxRecDepth 100000 in
theorem m_longer_from (l : Launch) (D : va_G) (k : Nat → ClassId) (st : Nat → Nat) (lo : Nat)   : CRl l D k st lo yX8_longer cX8_longer 3 (some .long) ({ frames := 0, cells := 0, slots := 0, locals := 0 }) [.long 4875, .int 109] [] (fun r => r = 131638) := by
  intro sz
  refine Met.ofW (cc := cX8_longer) (maxL := 3) (ret := (some .long)) (by decide) rfl ?_
  intro p e s m args below meth c s₁ B hml hv
  obtain ⟨rfl, hsz, hlo, hP, hK, hDL, hZ⟩ := hv
  have hx := B.exec
  have hb := B.bytes
  have hr := B.returns
  have hts := WS_ts B.pre
  have hown : s.vm.findClass RX8 = some m.cls := findClass_of_methodNamed B.named
  have hlocks := B.notSynchronized
  subst hsz
  have hA : ∀ q : Nat, s.heap.size ≤ q → (fun q : Nat => s.heap.size ≤ q) q := fun _ h => h
  have hAlo : ∀ q : Nat, (fun q : Nat => s.heap.size ≤ q) q → lo ≤ q := fun q h => Nat.le_trans hlo h
  have hS : va_S (fun q : Nat => s.heap.size ≤ q) s.heap s.heap [] := va_S.rf
  have hl := lv_entry ([.long 4875, .int 109]) (n := 3) (Nat.le_of_ble_eq_true rfl)
  rw [lg_entry_eq]
  generalize (lg_sl ([.long 4875, .int 109]) ++ List.replicate (3 - (lg_sl ([.long 4875, .int 109])).length) Slot.unset).toArray = ls at hl ⊢
  have hl : lv_has ls 3 [(0, .long 4875), (2, .int 109)] := hl
  refine lv_ldc2 hx hb hown (hts _ tw_1136) dX8_longer_0 ?_
  refine lv_lload_n hx hb dX8_longer_3 rfl (lv_at hl 0 rfl) ?_
  refine lv_lmul hx hb dX8_longer_4 ?_
  refine lv_tl (y := 131625) (by decide) ?_
  refine lv_iload_n hx hb dX8_longer_5 rfl (lv_at hl 1 rfl) ?_
  refine lv_i2l (v := 109) hx hb dX8_longer_6 (by decide) ?_
  refine lv_ladd hx hb dX8_longer_7 ?_
  refine lv_tl (y := 131734) (by decide) ?_
  refine lv_ldc2 hx hb hown (hts _ tw_1137) dX8_longer_8 ?_
  refine lv_lsub hx hb dX8_longer_11 ?_
  refine lv_tl (y := 131638) (by decide) ?_
  exact W.lret (v := 131638) hx hb hr (fun t ht hW => ⟨⟨131638, (), rfl, rfl, trivial⟩, hS.F ht⟩) hS.2.2 dX8_longer_12


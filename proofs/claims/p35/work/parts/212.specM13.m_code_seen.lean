set_option maxHeartbeats 4000000 in
set_option maxRecDepth 100000 in
theorem m_code_seen (l : Launch) (D : va_G) (k : Nat → ClassId) (st : Nat → Nat) (lo : Nat)   : CRl l D k st lo yX8_code cX8_code 3 (some .long) ({ frames := 0, cells := 0, slots := 0, locals := 0 }) [.int 115, .int 101, .int 101] [] (fun r => r = 13991) := by
  intro sz
  refine Met.ofW (cc := cX8_code) (maxL := 3) (ret := (some .long)) (by decide) rfl ?_
  intro p e s m args below meth c s₁ B hml hv
  obtain ⟨rfl, hsz, hlo, hP, hK, hDL, hZ⟩ := hv
  have hx := B.exec
  have hb := B.bytes
  have hr := B.returns
  have hts := WS_ts B.pre
  have hown : s.vm.findClass RX8 = some m.cls := findClass_of_methodNamed B.named
  have hlocks := B.notSynchronized
  subst hsz
  have hA : ∀ q : Nat, s.heap.size ≤ q → (fun q : Nat => s.heap.size ≤ q) q := fun _ h => h
  have hAlo : ∀ q : Nat, (fun q : Nat => s.heap.size ≤ q) q → lo ≤ q := fun q h => Nat.le_trans hlo h
  have hS : va_S (fun q : Nat => s.heap.size ≤ q) s.heap s.heap [] := va_S.rf
  have hl := lv_entry ([.int 115, .int 101, .int 101]) (n := 3) (Nat.le_of_ble_eq_true rfl)
  rw [lg_entry_eq]
  generalize (lg_sl ([.int 115, .int 101, .int 101]) ++ List.replicate (3 - (lg_sl ([.int 115, .int 101, .int 101])).length) Slot.unset).toArray = ls at hl ⊢
  have hl : lv_has ls 3 [(0, .int 115), (1, .int 101), (2, .int 101)] := hl
  refine lv_ldc2 hx hb hown (hts _ tw_1136) dX8_code_0 ?_
  refine lv_ldc2 hx hb hown (hts _ tw_1136) dX8_code_3 ?_
  refine lv_iload_n hx hb dX8_code_6 rfl (lv_at hl 0 rfl) ?_
  refine lv_i2l (v := 115) hx hb dX8_code_7 (by decide) ?_
  refine lv_ldc2 hx hb hown (hts _ tw_1137) dX8_code_8 ?_
  refine lv_lsub hx hb dX8_code_11 ?_
  refine lv_tl (y := 19) (by decide) ?_
  refine lv_lmul hx hb dX8_code_12 ?_
  refine lv_tl (y := 513) (by decide) ?_
  refine lv_iload_n hx hb dX8_code_13 rfl (lv_at hl 1 rfl) ?_
  refine lv_i2l (v := 101) hx hb dX8_code_14 (by decide) ?_
  refine lv_ladd hx hb dX8_code_15 ?_
  refine lv_tl (y := 614) (by decide) ?_
  refine lv_ldc2 hx hb hown (hts _ tw_1137) dX8_code_16 ?_
  refine lv_lsub hx hb dX8_code_19 ?_
  refine lv_tl (y := 518) (by decide) ?_
  refine lv_lmul hx hb dX8_code_20 ?_
  refine lv_tl (y := 13986) (by decide) ?_
  refine lv_iload_n hx hb dX8_code_21 rfl (lv_at hl 2 rfl) ?_
  refine lv_i2l (v := 101) hx hb dX8_code_22 (by decide) ?_
  refine lv_ladd hx hb dX8_code_23 ?_
  refine lv_tl (y := 14087) (by decide) ?_
  refine lv_ldc2 hx hb hown (hts _ tw_1137) dX8_code_24 ?_
  refine lv_lsub hx hb dX8_code_27 ?_
  refine lv_tl (y := 13991) (by decide) ?_
  exact W.lret (v := 13991) hx hb hr (fun t ht hW => ⟨⟨13991, (), rfl, rfl, trivial⟩, hS.F ht⟩) hS.2.2 dX8_code_28


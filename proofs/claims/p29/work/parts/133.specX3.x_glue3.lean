theorem x_glue3 : True := trivial
theorem clsplit {n : Nat} (h : 1 ≤ n ∧ n ≤ 9 ∧ n ≠ 8) : n = 1 ∨ n = 2 ∨ n = 3 ∨ n = 4 ∨ n = 5 ∨ n = 6 ∨ n = 7 ∨ n = 9 := by omega

theorem dX5_wordOf_0 : decode cX5_wordOf 0 = .ok (.iload_n 0, 1) := by decide +kernel
theorem dX5_wordOf_1 : decode cX5_wordOf 1 = .ok (.tableswitch 78 0 8 #[51, 54, 57, 60, 63, 66, 69, 72, 75], 51) := by decide +kernel
theorem dX5_wordOf_52 : decode cX5_wordOf 52 = .ok (.ldc 87, 2) := by decide +kernel
theorem dX5_wordOf_54 : decode cX5_wordOf 54 = .ok (.areturn, 1) := by decide +kernel
set_option maxHeartbeats 4000000 in
set_option maxRecDepth 100000 in
theorem x_wordOf_0 (l : Launch) (D : va_G) (k : Nat → ClassId) (st : Nat → Nat) (lo : Nat)   : CRr l D k st lo yX5_wordOf cX5_wordOf 1 (some (.object "java/lang/String")) ({ frames := 0, cells := 0, slots := 0, locals := 0 }) [.int 0] [] (st (100 + 0)) := by
  intro sz
  refine Met.ofW (cc := cX5_wordOf) (maxL := 1) (ret := (some (.object "java/lang/String"))) (by decide) rfl ?_
  intro p e s m args below meth c s₁ B hml hv
  obtain ⟨rfl, hsz, hlo, hP, hK, hDL, hZ⟩ := hv
  have hx := B.exec
  have hb := B.bytes
  have hr := B.returns
  have hts := WS_ts B.pre
  have hown : s.vm.findClass RX5 = some m.cls := findClass_of_methodNamed B.named
  have hlocks := B.notSynchronized
  subst hsz
  have hA : ∀ q : Nat, s.heap.size ≤ q → (fun q : Nat => s.heap.size ≤ q) q := fun _ h => h
  have hAlo : ∀ q : Nat, (fun q : Nat => s.heap.size ≤ q) q → lo ≤ q := fun q h => Nat.le_trans hlo h
  have hS : va_S (fun q : Nat => s.heap.size ≤ q) s.heap s.heap [] := va_S.rf
  have hl := lv_entry ([.int 0]) (n := 1) (Nat.le_of_ble_eq_true rfl)
  rw [lg_entry_eq]
  generalize (lg_sl ([.int 0]) ++ List.replicate (1 - (lg_sl ([.int 0])).length) Slot.unset).toArray = ls at hl ⊢
  have hl : lv_has ls 1 [(0, .int 0)] := hl
  refine lv_iload_n hx hb dX5_wordOf_0 rfl (lv_at hl 0 rfl) ?_
  refine lv_tableIn (tgt := 52) hx hb dX5_wordOf_1 (by decide) (by decide) rfl (by decide) ?_
  refine va_ldcS hx hb hown (hZ.2.2.2.2.2.2.2.2.2.2 (RX5, 87, "doors", 0) (List.mem_of_getElem? (i := 0) rfl)) dX5_wordOf_52 ?_
  exact W.aret (v := .ref (st (100 + 0))) hx hb hr (.inl ⟨_, rfl⟩) (.inr ⟨_, rfl⟩) (fun t ht hW => ⟨⟨(), _, rfl, trivial, rfl⟩, hS.F ht⟩) hS.2.2 dX5_wordOf_54

theorem dX5_wordOf_55 : decode cX5_wordOf 55 = .ok (.ldc 88, 2) := by decide +kernel
theorem dX5_wordOf_57 : decode cX5_wordOf 57 = .ok (.areturn, 1) := by decide +kernel
set_option maxHeartbeats 4000000 in
set_option maxRecDepth 100000 in
theorem x_wordOf_1 (l : Launch) (D : va_G) (k : Nat → ClassId) (st : Nat → Nat) (lo : Nat)   : CRr l D k st lo yX5_wordOf cX5_wordOf 1 (some (.object "java/lang/String")) ({ frames := 0, cells := 0, slots := 0, locals := 0 }) [.int 1] [] (st (100 + 1)) := by
  intro sz
  refine Met.ofW (cc := cX5_wordOf) (maxL := 1) (ret := (some (.object "java/lang/String"))) (by decide) rfl ?_
  intro p e s m args below meth c s₁ B hml hv
  obtain ⟨rfl, hsz, hlo, hP, hK, hDL, hZ⟩ := hv
  have hx := B.exec
  have hb := B.bytes
  have hr := B.returns
  have hts := WS_ts B.pre
  have hown : s.vm.findClass RX5 = some m.cls := findClass_of_methodNamed B.named
  have hlocks := B.notSynchronized
  subst hsz
  have hA : ∀ q : Nat, s.heap.size ≤ q → (fun q : Nat => s.heap.size ≤ q) q := fun _ h => h
  have hAlo : ∀ q : Nat, (fun q : Nat => s.heap.size ≤ q) q → lo ≤ q := fun q h => Nat.le_trans hlo h
  have hS : va_S (fun q : Nat => s.heap.size ≤ q) s.heap s.heap [] := va_S.rf
  have hl := lv_entry ([.int 1]) (n := 1) (Nat.le_of_ble_eq_true rfl)
  rw [lg_entry_eq]
  generalize (lg_sl ([.int 1]) ++ List.replicate (1 - (lg_sl ([.int 1])).length) Slot.unset).toArray = ls at hl ⊢
  have hl : lv_has ls 1 [(0, .int 1)] := hl
  refine lv_iload_n hx hb dX5_wordOf_0 rfl (lv_at hl 0 rfl) ?_
  refine lv_tableIn (tgt := 55) hx hb dX5_wordOf_1 (by decide) (by decide) rfl (by decide) ?_
  refine va_ldcS hx hb hown (hZ.2.2.2.2.2.2.2.2.2.2 (RX5, 88, "alike", 1) (List.mem_of_getElem? (i := 1) rfl)) dX5_wordOf_55 ?_
  exact W.aret (v := .ref (st (100 + 1))) hx hb hr (.inl ⟨_, rfl⟩) (.inr ⟨_, rfl⟩) (fun t ht hW => ⟨⟨(), _, rfl, trivial, rfl⟩, hS.F ht⟩) hS.2.2 dX5_wordOf_57

theorem dX5_wordOf_58 : decode cX5_wordOf 58 = .ok (.ldc 90, 2) := by decide +kernel
theorem dX5_wordOf_60 : decode cX5_wordOf 60 = .ok (.areturn, 1) := by decide +kernel
set_option maxHeartbeats 4000000 in
set_option maxRecDepth 100000 in
theorem x_wordOf_2 (l : Launch) (D : va_G) (k : Nat → ClassId) (st : Nat → Nat) (lo : Nat)   : CRr l D k st lo yX5_wordOf cX5_wordOf 1 (some (.object "java/lang/String")) ({ frames := 0, cells := 0, slots := 0, locals := 0 }) [.int 2] [] (st (100 + 2)) := by
  intro sz
  refine Met.ofW (cc := cX5_wordOf) (maxL := 1) (ret := (some (.object "java/lang/String"))) (by decide) rfl ?_
  intro p e s m args below meth c s₁ B hml hv
  obtain ⟨rfl, hsz, hlo, hP, hK, hDL, hZ⟩ := hv
  have hx := B.exec
  have hb := B.bytes
  have hr := B.returns
  have hts := WS_ts B.pre
  have hown : s.vm.findClass RX5 = some m.cls := findClass_of_methodNamed B.named
  have hlocks := B.notSynchronized
  subst hsz
  have hA : ∀ q : Nat, s.heap.size ≤ q → (fun q : Nat => s.heap.size ≤ q) q := fun _ h => h
  have hAlo : ∀ q : Nat, (fun q : Nat => s.heap.size ≤ q) q → lo ≤ q := fun q h => Nat.le_trans hlo h
  have hS : va_S (fun q : Nat => s.heap.size ≤ q) s.heap s.heap [] := va_S.rf
  have hl := lv_entry ([.int 2]) (n := 1) (Nat.le_of_ble_eq_true rfl)
  rw [lg_entry_eq]
  generalize (lg_sl ([.int 2]) ++ List.replicate (1 - (lg_sl ([.int 2])).length) Slot.unset).toArray = ls at hl ⊢
  have hl : lv_has ls 1 [(0, .int 2)] := hl
  refine lv_iload_n hx hb dX5_wordOf_0 rfl (lv_at hl 0 rfl) ?_
  refine lv_tableIn (tgt := 58) hx hb dX5_wordOf_1 (by decide) (by decide) rfl (by decide) ?_
  refine va_ldcS hx hb hown (hZ.2.2.2.2.2.2.2.2.2.2 (RX5, 90, "walk", 2) (List.mem_of_getElem? (i := 2) rfl)) dX5_wordOf_58 ?_
  exact W.aret (v := .ref (st (100 + 2))) hx hb hr (.inl ⟨_, rfl⟩) (.inr ⟨_, rfl⟩) (fun t ht hW => ⟨⟨(), _, rfl, trivial, rfl⟩, hS.F ht⟩) hS.2.2 dX5_wordOf_60

theorem dX5_wordOf_61 : decode cX5_wordOf 61 = .ok (.ldc 92, 2) := by decide +kernel
theorem dX5_wordOf_63 : decode cX5_wordOf 63 = .ok (.areturn, 1) := by decide +kernel
set_option maxHeartbeats 4000000 in
set_option maxRecDepth 100000 in
theorem x_wordOf_3 (l : Launch) (D : va_G) (k : Nat → ClassId) (st : Nat → Nat) (lo : Nat)   : CRr l D k st lo yX5_wordOf cX5_wordOf 1 (some (.object "java/lang/String")) ({ frames := 0, cells := 0, slots := 0, locals := 0 }) [.int 3] [] (st (100 + 3)) := by
  intro sz
  refine Met.ofW (cc := cX5_wordOf) (maxL := 1) (ret := (some (.object "java/lang/String"))) (by decide) rfl ?_
  intro p e s m args below meth c s₁ B hml hv
  obtain ⟨rfl, hsz, hlo, hP, hK, hDL, hZ⟩ := hv
  have hx := B.exec
  have hb := B.bytes
  have hr := B.returns
  have hts := WS_ts B.pre
  have hown : s.vm.findClass RX5 = some m.cls := findClass_of_methodNamed B.named
  have hlocks := B.notSynchronized
  subst hsz
  have hA : ∀ q : Nat, s.heap.size ≤ q → (fun q : Nat => s.heap.size ≤ q) q := fun _ h => h
  have hAlo : ∀ q : Nat, (fun q : Nat => s.heap.size ≤ q) q → lo ≤ q := fun q h => Nat.le_trans hlo h
  have hS : va_S (fun q : Nat => s.heap.size ≤ q) s.heap s.heap [] := va_S.rf
  have hl := lv_entry ([.int 3]) (n := 1) (Nat.le_of_ble_eq_true rfl)
  rw [lg_entry_eq]
  generalize (lg_sl ([.int 3]) ++ List.replicate (1 - (lg_sl ([.int 3])).length) Slot.unset).toArray = ls at hl ⊢
  have hl : lv_has ls 1 [(0, .int 3)] := hl
  refine lv_iload_n hx hb dX5_wordOf_0 rfl (lv_at hl 0 rfl) ?_
  refine lv_tableIn (tgt := 61) hx hb dX5_wordOf_1 (by decide) (by decide) rfl (by decide) ?_
  refine va_ldcS hx hb hown (hZ.2.2.2.2.2.2.2.2.2.2 (RX5, 92, "drive", 3) (List.mem_of_getElem? (i := 3) rfl)) dX5_wordOf_61 ?_
  exact W.aret (v := .ref (st (100 + 3))) hx hb hr (.inl ⟨_, rfl⟩) (.inr ⟨_, rfl⟩) (fun t ht hW => ⟨⟨(), _, rfl, trivial, rfl⟩, hS.F ht⟩) hS.2.2 dX5_wordOf_63

theorem dX5_wordOf_64 : decode cX5_wordOf 64 = .ok (.ldc 94, 2) := by decide +kernel
theorem dX5_wordOf_66 : decode cX5_wordOf 66 = .ok (.areturn, 1) := by decide +kernel
set_option maxHeartbeats 4000000 in
set_option maxRecDepth 100000 in
theorem x_wordOf_4 (l : Launch) (D : va_G) (k : Nat → ClassId) (st : Nat → Nat) (lo : Nat)   : CRr l D k st lo yX5_wordOf cX5_wordOf 1 (some (.object "java/lang/String")) ({ frames := 0, cells := 0, slots := 0, locals := 0 }) [.int 4] [] (st (100 + 4)) := by
  intro sz
  refine Met.ofW (cc := cX5_wordOf) (maxL := 1) (ret := (some (.object "java/lang/String"))) (by decide) rfl ?_
  intro p e s m args below meth c s₁ B hml hv
  obtain ⟨rfl, hsz, hlo, hP, hK, hDL, hZ⟩ := hv
  have hx := B.exec
  have hb := B.bytes
  have hr := B.returns
  have hts := WS_ts B.pre
  have hown : s.vm.findClass RX5 = some m.cls := findClass_of_methodNamed B.named
  have hlocks := B.notSynchronized
  subst hsz
  have hA : ∀ q : Nat, s.heap.size ≤ q → (fun q : Nat => s.heap.size ≤ q) q := fun _ h => h
  have hAlo : ∀ q : Nat, (fun q : Nat => s.heap.size ≤ q) q → lo ≤ q := fun q h => Nat.le_trans hlo h
  have hS : va_S (fun q : Nat => s.heap.size ≤ q) s.heap s.heap [] := va_S.rf
  have hl := lv_entry ([.int 4]) (n := 1) (Nat.le_of_ble_eq_true rfl)
  rw [lg_entry_eq]
  generalize (lg_sl ([.int 4]) ++ List.replicate (1 - (lg_sl ([.int 4])).length) Slot.unset).toArray = ls at hl ⊢
  have hl : lv_has ls 1 [(0, .int 4)] := hl
  refine lv_iload_n hx hb dX5_wordOf_0 rfl (lv_at hl 0 rfl) ?_
  refine lv_tableIn (tgt := 64) hx hb dX5_wordOf_1 (by decide) (by decide) rfl (by decide) ?_
  refine va_ldcS hx hb hown (hZ.2.2.2.2.2.2.2.2.2.2 (RX5, 94, "late", 4) (List.mem_of_getElem? (i := 4) rfl)) dX5_wordOf_64 ?_
  exact W.aret (v := .ref (st (100 + 4))) hx hb hr (.inl ⟨_, rfl⟩) (.inr ⟨_, rfl⟩) (fun t ht hW => ⟨⟨(), _, rfl, trivial, rfl⟩, hS.F ht⟩) hS.2.2 dX5_wordOf_66

theorem dX5_wordOf_67 : decode cX5_wordOf 67 = .ok (.ldc 96, 2) := by decide +kernel
theorem dX5_wordOf_69 : decode cX5_wordOf 69 = .ok (.areturn, 1) := by decide +kernel
set_option maxHeartbeats 4000000 in
set_option maxRecDepth 100000 in
theorem x_wordOf_5 (l : Launch) (D : va_G) (k : Nat → ClassId) (st : Nat → Nat) (lo : Nat)   : CRr l D k st lo yX5_wordOf cX5_wordOf 1 (some (.object "java/lang/String")) ({ frames := 0, cells := 0, slots := 0, locals := 0 }) [.int 5] [] (st (100 + 5)) := by
  intro sz
  refine Met.ofW (cc := cX5_wordOf) (maxL := 1) (ret := (some (.object "java/lang/String"))) (by decide) rfl ?_
  intro p e s m args below meth c s₁ B hml hv
  obtain ⟨rfl, hsz, hlo, hP, hK, hDL, hZ⟩ := hv
  have hx := B.exec
  have hb := B.bytes
  have hr := B.returns
  have hts := WS_ts B.pre
  have hown : s.vm.findClass RX5 = some m.cls := findClass_of_methodNamed B.named
  have hlocks := B.notSynchronized
  subst hsz
  have hA : ∀ q : Nat, s.heap.size ≤ q → (fun q : Nat => s.heap.size ≤ q) q := fun _ h => h
  have hAlo : ∀ q : Nat, (fun q : Nat => s.heap.size ≤ q) q → lo ≤ q := fun q h => Nat.le_trans hlo h
  have hS : va_S (fun q : Nat => s.heap.size ≤ q) s.heap s.heap [] := va_S.rf
  have hl := lv_entry ([.int 5]) (n := 1) (Nat.le_of_ble_eq_true rfl)
  rw [lg_entry_eq]
  generalize (lg_sl ([.int 5]) ++ List.replicate (1 - (lg_sl ([.int 5])).length) Slot.unset).toArray = ls at hl ⊢
  have hl : lv_has ls 1 [(0, .int 5)] := hl
  refine lv_iload_n hx hb dX5_wordOf_0 rfl (lv_at hl 0 rfl) ?_
  refine lv_tableIn (tgt := 67) hx hb dX5_wordOf_1 (by decide) (by decide) rfl (by decide) ?_
  refine va_ldcS hx hb hown (hZ.2.2.2.2.2.2.2.2.2.2 (RX5, 96, "curtain", 5) (List.mem_of_getElem? (i := 5) rfl)) dX5_wordOf_67 ?_
  exact W.aret (v := .ref (st (100 + 5))) hx hb hr (.inl ⟨_, rfl⟩) (.inr ⟨_, rfl⟩) (fun t ht hW => ⟨⟨(), _, rfl, trivial, rfl⟩, hS.F ht⟩) hS.2.2 dX5_wordOf_69

theorem dX5_wordOf_70 : decode cX5_wordOf 70 = .ok (.ldc 98, 2) := by decide +kernel
theorem dX5_wordOf_72 : decode cX5_wordOf 72 = .ok (.areturn, 1) := by decide +kernel
set_option maxHeartbeats 4000000 in
set_option maxRecDepth 100000 in
theorem x_wordOf_6 (l : Launch) (D : va_G) (k : Nat → ClassId) (st : Nat → Nat) (lo : Nat)   : CRr l D k st lo yX5_wordOf cX5_wordOf 1 (some (.object "java/lang/String")) ({ frames := 0, cells := 0, slots := 0, locals := 0 }) [.int 6] [] (st (100 + 6)) := by
  intro sz
  refine Met.ofW (cc := cX5_wordOf) (maxL := 1) (ret := (some (.object "java/lang/String"))) (by decide) rfl ?_
  intro p e s m args below meth c s₁ B hml hv
  obtain ⟨rfl, hsz, hlo, hP, hK, hDL, hZ⟩ := hv
  have hx := B.exec
  have hb := B.bytes
  have hr := B.returns
  have hts := WS_ts B.pre
  have hown : s.vm.findClass RX5 = some m.cls := findClass_of_methodNamed B.named
  have hlocks := B.notSynchronized
  subst hsz
  have hA : ∀ q : Nat, s.heap.size ≤ q → (fun q : Nat => s.heap.size ≤ q) q := fun _ h => h
  have hAlo : ∀ q : Nat, (fun q : Nat => s.heap.size ≤ q) q → lo ≤ q := fun q h => Nat.le_trans hlo h
  have hS : va_S (fun q : Nat => s.heap.size ≤ q) s.heap s.heap [] := va_S.rf
  have hl := lv_entry ([.int 6]) (n := 1) (Nat.le_of_ble_eq_true rfl)
  rw [lg_entry_eq]
  generalize (lg_sl ([.int 6]) ++ List.replicate (1 - (lg_sl ([.int 6])).length) Slot.unset).toArray = ls at hl ⊢
  have hl : lv_has ls 1 [(0, .int 6)] := hl
  refine lv_iload_n hx hb dX5_wordOf_0 rfl (lv_at hl 0 rfl) ?_
  refine lv_tableIn (tgt := 70) hx hb dX5_wordOf_1 (by decide) (by decide) rfl (by decide) ?_
  refine va_ldcS hx hb hown (hZ.2.2.2.2.2.2.2.2.2.2 (RX5, 98, "see", 6) (List.mem_of_getElem? (i := 6) rfl)) dX5_wordOf_70 ?_
  exact W.aret (v := .ref (st (100 + 6))) hx hb hr (.inl ⟨_, rfl⟩) (.inr ⟨_, rfl⟩) (fun t ht hW => ⟨⟨(), _, rfl, trivial, rfl⟩, hS.F ht⟩) hS.2.2 dX5_wordOf_72

theorem dX5_wordOf_73 : decode cX5_wordOf 73 = .ok (.ldc 100, 2) := by decide +kernel
theorem dX5_wordOf_75 : decode cX5_wordOf 75 = .ok (.areturn, 1) := by decide +kernel
set_option maxHeartbeats 4000000 in
set_option maxRecDepth 100000 in
theorem x_wordOf_7 (l : Launch) (D : va_G) (k : Nat → ClassId) (st : Nat → Nat) (lo : Nat)   : CRr l D k st lo yX5_wordOf cX5_wordOf 1 (some (.object "java/lang/String")) ({ frames := 0, cells := 0, slots := 0, locals := 0 }) [.int 7] [] (st (100 + 7)) := by
  intro sz
  refine Met.ofW (cc := cX5_wordOf) (maxL := 1) (ret := (some (.object "java/lang/String"))) (by decide) rfl ?_
  intro p e s m args below meth c s₁ B hml hv
  obtain ⟨rfl, hsz, hlo, hP, hK, hDL, hZ⟩ := hv
  have hx := B.exec
  have hb := B.bytes
  have hr := B.returns
  have hts := WS_ts B.pre
  have hown : s.vm.findClass RX5 = some m.cls := findClass_of_methodNamed B.named
  have hlocks := B.notSynchronized
  subst hsz
  have hA : ∀ q : Nat, s.heap.size ≤ q → (fun q : Nat => s.heap.size ≤ q) q := fun _ h => h
  have hAlo : ∀ q : Nat, (fun q : Nat => s.heap.size ≤ q) q → lo ≤ q := fun q h => Nat.le_trans hlo h
  have hS : va_S (fun q : Nat => s.heap.size ≤ q) s.heap s.heap [] := va_S.rf
  have hl := lv_entry ([.int 7]) (n := 1) (Nat.le_of_ble_eq_true rfl)
  rw [lg_entry_eq]
  generalize (lg_sl ([.int 7]) ++ List.replicate (1 - (lg_sl ([.int 7])).length) Slot.unset).toArray = ls at hl ⊢
  have hl : lv_has ls 1 [(0, .int 7)] := hl
  refine lv_iload_n hx hb dX5_wordOf_0 rfl (lv_at hl 0 rfl) ?_
  refine lv_tableIn (tgt := 73) hx hb dX5_wordOf_1 (by decide) (by decide) rfl (by decide) ?_
  refine va_ldcS hx hb hown (hZ.2.2.2.2.2.2.2.2.2.2 (RX5, 100, "round", 7) (List.mem_of_getElem? (i := 7) rfl)) dX5_wordOf_73 ?_
  exact W.aret (v := .ref (st (100 + 7))) hx hb hr (.inl ⟨_, rfl⟩) (.inr ⟨_, rfl⟩) (fun t ht hW => ⟨⟨(), _, rfl, trivial, rfl⟩, hS.F ht⟩) hS.2.2 dX5_wordOf_75

theorem dX5_wordOf_76 : decode cX5_wordOf 76 = .ok (.ldc 102, 2) := by decide +kernel
theorem dX5_wordOf_78 : decode cX5_wordOf 78 = .ok (.areturn, 1) := by decide +kernel
set_option maxHeartbeats 4000000 in
set_option maxRecDepth 100000 in
theorem x_wordOf_8 (l : Launch) (D : va_G) (k : Nat → ClassId) (st : Nat → Nat) (lo : Nat)   : CRr l D k st lo yX5_wordOf cX5_wordOf 1 (some (.object "java/lang/String")) ({ frames := 0, cells := 0, slots := 0, locals := 0 }) [.int 8] [] (st (100 + 8)) := by
  intro sz
  refine Met.ofW (cc := cX5_wordOf) (maxL := 1) (ret := (some (.object "java/lang/String"))) (by decide) rfl ?_
  intro p e s m args below meth c s₁ B hml hv
  obtain ⟨rfl, hsz, hlo, hP, hK, hDL, hZ⟩ := hv
  have hx := B.exec
  have hb := B.bytes
  have hr := B.returns
  have hts := WS_ts B.pre
  have hown : s.vm.findClass RX5 = some m.cls := findClass_of_methodNamed B.named
  have hlocks := B.notSynchronized
  subst hsz
  have hA : ∀ q : Nat, s.heap.size ≤ q → (fun q : Nat => s.heap.size ≤ q) q := fun _ h => h
  have hAlo : ∀ q : Nat, (fun q : Nat => s.heap.size ≤ q) q → lo ≤ q := fun q h => Nat.le_trans hlo h
  have hS : va_S (fun q : Nat => s.heap.size ≤ q) s.heap s.heap [] := va_S.rf
  have hl := lv_entry ([.int 8]) (n := 1) (Nat.le_of_ble_eq_true rfl)
  rw [lg_entry_eq]
  generalize (lg_sl ([.int 8]) ++ List.replicate (1 - (lg_sl ([.int 8])).length) Slot.unset).toArray = ls at hl ⊢
  have hl : lv_has ls 1 [(0, .int 8)] := hl
  refine lv_iload_n hx hb dX5_wordOf_0 rfl (lv_at hl 0 rfl) ?_
  refine lv_tableIn (tgt := 76) hx hb dX5_wordOf_1 (by decide) (by decide) rfl (by decide) ?_
  refine va_ldcS hx hb hown (hZ.2.2.2.2.2.2.2.2.2.2 (RX5, 102, "times", 8) (List.mem_of_getElem? (i := 8) rfl)) dX5_wordOf_76 ?_
  exact W.aret (v := .ref (st (100 + 8))) hx hb hr (.inl ⟨_, rfl⟩) (.inr ⟨_, rfl⟩) (fun t ht hW => ⟨⟨(), _, rfl, trivial, rfl⟩, hS.F ht⟩) hS.2.2 dX5_wordOf_78

theorem dX5_wordOf_79 : decode cX5_wordOf 79 = .ok (.ldc 104, 2) := by decide +kernel
theorem dX5_wordOf_81 : decode cX5_wordOf 81 = .ok (.areturn, 1) := by decide +kernel
set_option maxHeartbeats 4000000 in
set_option maxRecDepth 100000 in
theorem x_wordOf_9 (l : Launch) (D : va_G) (k : Nat → ClassId) (st : Nat → Nat) (lo : Nat)   : CRr l D k st lo yX5_wordOf cX5_wordOf 1 (some (.object "java/lang/String")) ({ frames := 0, cells := 0, slots := 0, locals := 0 }) [.int 9] [] (st (100 + 9)) := by
  intro sz
  refine Met.ofW (cc := cX5_wordOf) (maxL := 1) (ret := (some (.object "java/lang/String"))) (by decide) rfl ?_
  intro p e s m args below meth c s₁ B hml hv
  obtain ⟨rfl, hsz, hlo, hP, hK, hDL, hZ⟩ := hv
  have hx := B.exec
  have hb := B.bytes
  have hr := B.returns
  have hts := WS_ts B.pre
  have hown : s.vm.findClass RX5 = some m.cls := findClass_of_methodNamed B.named
  have hlocks := B.notSynchronized
  subst hsz
  have hA : ∀ q : Nat, s.heap.size ≤ q → (fun q : Nat => s.heap.size ≤ q) q := fun _ h => h
  have hAlo : ∀ q : Nat, (fun q : Nat => s.heap.size ≤ q) q → lo ≤ q := fun q h => Nat.le_trans hlo h
  have hS : va_S (fun q : Nat => s.heap.size ≤ q) s.heap s.heap [] := va_S.rf
  have hl := lv_entry ([.int 9]) (n := 1) (Nat.le_of_ble_eq_true rfl)
  rw [lg_entry_eq]
  generalize (lg_sl ([.int 9]) ++ List.replicate (1 - (lg_sl ([.int 9])).length) Slot.unset).toArray = ls at hl ⊢
  have hl : lv_has ls 1 [(0, .int 9)] := hl
  refine lv_iload_n hx hb dX5_wordOf_0 rfl (lv_at hl 0 rfl) ?_
  refine lv_tableOut (tgt := 79) hx hb dX5_wordOf_1 (by decide) (by decide) ?_
  refine va_ldcS hx hb hown (hZ.2.2.2.2.2.2.2.2.2.2 (RX5, 104, "garage", 9) (List.mem_of_getElem? (i := 9) rfl)) dX5_wordOf_79 ?_
  exact W.aret (v := .ref (st (100 + 9))) hx hb hr (.inl ⟨_, rfl⟩) (.inr ⟨_, rfl⟩) (fun t ht hW => ⟨⟨(), _, rfl, trivial, rfl⟩, hS.F ht⟩) hS.2.2 dX5_wordOf_81

theorem dX5_doors_0 : decode cX5_doors 0 = .ok (.aload_n 0, 1) := by decide +kernel
theorem dX5_doors_1 : decode cX5_doors 1 = .ok (.getfield 9, 3) := by decide +kernel
theorem dX5_doors_4 : decode cX5_doors 4 = .ok (.iconst 0, 1) := by decide +kernel
theorem dX5_doors_5 : decode cX5_doors 5 = .ok (.iaload, 1) := by decide +kernel
theorem dX5_doors_6 : decode cX5_doors 6 = .ok (.ireturn, 1) := by decide +kernel
set_option maxHeartbeats 4000000 in
set_option maxRecDepth 100000 in
theorem x_doors (l : Launch) (D : va_G) (k : Nat → ClassId) (st : Nat → Nat) (lo : Nat) (h0 : Nat) (h1 : Nat) (h2 : Nat) (h3 : Nat) (h4 : Nat) (n : Nat) (see : Nat) (tm : Nat) (g : Nat → Int32)  : CRi l D k st lo yX5_doors cX5_doors 1 (some .int) ({ frames := 0, cells := 0, slots := 0, locals := 0 }) [.ref h0] [(h0, .inr (5, (fX5 h1 h2 h3 h4))), (aI k h1 10 (vv n see tm g))] (fun r => r = nI n) := by
  intro sz
  refine Met.ofW (cc := cX5_doors) (maxL := 1) (ret := (some .int)) (by decide) rfl ?_
  intro p e s m args below meth c s₁ B hml hv
  obtain ⟨rfl, hsz, hlo, hP, hK, hDL, hZ⟩ := hv
  have hx := B.exec
  have hb := B.bytes
  have hr := B.returns
  have hts := WS_ts B.pre
  have hown : s.vm.findClass RX5 = some m.cls := findClass_of_methodNamed B.named
  have hlocks := B.notSynchronized
  subst hsz
  have hA : ∀ q : Nat, s.heap.size ≤ q → (fun q : Nat => s.heap.size ≤ q) q := fun _ h => h
  have hAlo : ∀ q : Nat, (fun q : Nat => s.heap.size ≤ q) q → lo ≤ q := fun q h => Nat.le_trans hlo h
  have hS : va_S (fun q : Nat => s.heap.size ≤ q) s.heap s.heap [] := va_S.rf
  have hl := lv_entry ([.ref h0]) (n := 1) (Nat.le_of_ble_eq_true rfl)
  rw [lg_entry_eq]
  generalize (lg_sl ([.ref h0]) ++ List.replicate (1 - (lg_sl ([.ref h0])).length) Slot.unset).toArray = ls at hl ⊢
  have hl : lv_has ls 1 [(0, .ref h0)] := hl
  refine lv_aload_n hx hb dX5_doors_0 rfl (lv_at hl 0 rfl) ?_
  refine va_get (D := D) (ci := 5) (v := .ref h1) (C := RX5) (T := TX5) (N := 4) hx hb hts inX5 hown hK hP 0 rfl rfl 0 (by decide) (hts _ tw_146) (fun _ h9 => h9) rfl dX5_doors_1 ?_
  refine lv_iconst (v := 0) hx hb dX5_doors_4 (by decide) ?_
  refine va_iald hx hb hK hP 1 1 rfl rfl (by unfold vp_in; decide) dX5_doors_5 ?_
  refine lv_ti (y := (nI n)) (by rfl) ?_
  exact W.iret (v := (nI n)) hx hb hr (fun t ht hW => ⟨⟨(nI n), (), rfl, rfl, trivial⟩, hS.F ht⟩) hS.2.2 dX5_doors_6

theorem f_x_arrivalOf_rows : True := trivial
theorem dX5_arrivalOf_0 : decode cX5_arrivalOf 0 = .ok (.iload_n 1, 1) := by decide +kernel
theorem dX5_arrivalOf_1 : decode cX5_arrivalOf 1 = .ok (.aload_n 0, 1) := by decide +kernel
theorem dX5_arrivalOf_2 : decode cX5_arrivalOf 2 = .ok (.getfield 9, 3) := by decide +kernel
theorem dX5_arrivalOf_5 : decode cX5_arrivalOf 5 = .ok (.iconst 0, 1) := by decide +kernel
theorem dX5_arrivalOf_6 : decode cX5_arrivalOf 6 = .ok (.iaload, 1) := by decide +kernel
theorem dX5_arrivalOf_7 : decode cX5_arrivalOf 7 = .ok (.aload_n 0, 1) := by decide +kernel
theorem dX5_arrivalOf_8 : decode cX5_arrivalOf 8 = .ok (.getfield 9, 3) := by decide +kernel
theorem dX5_arrivalOf_11 : decode cX5_arrivalOf 11 = .ok (.bipush 7, 2) := by decide +kernel
theorem dX5_arrivalOf_13 : decode cX5_arrivalOf 13 = .ok (.iaload, 1) := by decide +kernel
theorem dX5_arrivalOf_14 : decode cX5_arrivalOf 14 = .ok (.iadd, 1) := by decide +kernel
theorem dX5_arrivalOf_15 : decode cX5_arrivalOf 15 = .ok (.imul, 1) := by decide +kernel
theorem dX5_arrivalOf_16 : decode cX5_arrivalOf 16 = .ok (.aload_n 0, 1) := by decide +kernel
theorem dX5_arrivalOf_17 : decode cX5_arrivalOf 17 = .ok (.getfield 9, 3) := by decide +kernel
theorem dX5_arrivalOf_20 : decode cX5_arrivalOf 20 = .ok (.iconst 0, 1) := by decide +kernel
theorem dX5_arrivalOf_21 : decode cX5_arrivalOf 21 = .ok (.iaload, 1) := by decide +kernel
theorem dX5_arrivalOf_22 : decode cX5_arrivalOf 22 = .ok (.iadd, 1) := by decide +kernel
theorem dX5_arrivalOf_23 : decode cX5_arrivalOf 23 = .ok (.ireturn, 1) := by decide +kernel
theorem f_x_become_rows : True := trivial
theorem dX5_become_0 : decode cX5_become 0 = .ok (.aload_n 1, 1) := by decide +kernel
theorem dX5_become_1 : decode cX5_become 1 = .ok (.getfield 9, 3) := by decide +kernel
theorem dX5_become_4 : decode cX5_become 4 = .ok (.iconst 0, 1) := by decide +kernel
theorem dX5_become_5 : decode cX5_become 5 = .ok (.aload_n 0, 1) := by decide +kernel
theorem dX5_become_6 : decode cX5_become 6 = .ok (.getfield 9, 3) := by decide +kernel
theorem dX5_become_9 : decode cX5_become 9 = .ok (.iconst 0, 1) := by decide +kernel
theorem dX5_become_10 : decode cX5_become 10 = .ok (.bipush 10, 2) := by decide +kernel
theorem dX5_become_12 : decode cX5_become 12 = .ok (.invokestatic 24, 3) := by decide +kernel
theorem dX5_become_15 : decode cX5_become 15 = .ok (.aload_n 1, 1) := by decide +kernel
theorem dX5_become_16 : decode cX5_become 16 = .ok (.getfield 15, 3) := by decide +kernel
theorem dX5_become_19 : decode cX5_become 19 = .ok (.iconst 0, 1) := by decide +kernel
theorem dX5_become_20 : decode cX5_become 20 = .ok (.aload_n 0, 1) := by decide +kernel
theorem dX5_become_21 : decode cX5_become 21 = .ok (.getfield 15, 3) := by decide +kernel
theorem dX5_become_24 : decode cX5_become 24 = .ok (.iconst 0, 1) := by decide +kernel
theorem dX5_become_25 : decode cX5_become 25 = .ok (.bipush 24, 2) := by decide +kernel
theorem dX5_become_27 : decode cX5_become 27 = .ok (.invokestatic 24, 3) := by decide +kernel
theorem dX5_become_30 : decode cX5_become 30 = .ok (.aload_n 1, 1) := by decide +kernel
theorem dX5_become_31 : decode cX5_become 31 = .ok (.getfield 18, 3) := by decide +kernel
theorem dX5_become_34 : decode cX5_become 34 = .ok (.iconst 0, 1) := by decide +kernel
theorem dX5_become_35 : decode cX5_become 35 = .ok (.aload_n 0, 1) := by decide +kernel
theorem dX5_become_36 : decode cX5_become 36 = .ok (.getfield 18, 3) := by decide +kernel
theorem dX5_become_39 : decode cX5_become 39 = .ok (.iconst 0, 1) := by decide +kernel
theorem dX5_become_40 : decode cX5_become 40 = .ok (.bipush 24, 2) := by decide +kernel
theorem dX5_become_42 : decode cX5_become 42 = .ok (.invokestatic 24, 3) := by decide +kernel
theorem dX5_become_45 : decode cX5_become 45 = .ok (.iconst 0, 1) := by decide +kernel
theorem dX5_become_46 : decode cX5_become 46 = .ok (.istore_n 2, 1) := by decide +kernel
theorem dX5_become_47 : decode cX5_become 47 = .ok (.iload_n 2, 1) := by decide +kernel
theorem dX5_become_48 : decode cX5_become 48 = .ok (.iconst 4, 1) := by decide +kernel
theorem dX5_become_49 : decode cX5_become 49 = .ok (.if_icmp .ge 38, 3) := by decide +kernel
theorem dX5_become_52 : decode cX5_become 52 = .ok (.aload_n 0, 1) := by decide +kernel
theorem dX5_become_53 : decode cX5_become 53 = .ok (.getfield 21, 3) := by decide +kernel
theorem dX5_become_56 : decode cX5_become 56 = .ok (.iload_n 2, 1) := by decide +kernel
theorem dX5_become_57 : decode cX5_become 57 = .ok (.aload_n 0, 1) := by decide +kernel
theorem dX5_become_58 : decode cX5_become 58 = .ok (.getfield 9, 3) := by decide +kernel
theorem dX5_become_61 : decode cX5_become 61 = .ok (.iconst 4, 1) := by decide +kernel
theorem dX5_become_62 : decode cX5_become 62 = .ok (.iaload, 1) := by decide +kernel
theorem dX5_become_63 : decode cX5_become 63 = .ok (.iconst 0, 1) := by decide +kernel
theorem dX5_become_64 : decode cX5_become 64 = .ok (.aload_n 0, 1) := by decide +kernel
theorem dX5_become_65 : decode cX5_become 65 = .ok (.iload_n 2, 1) := by decide +kernel
theorem dX5_become_66 : decode cX5_become 66 = .ok (.invokevirtual 30, 3) := by decide +kernel
theorem dX5_become_69 : decode cX5_become 69 = .ok (.aload_n 0, 1) := by decide +kernel
theorem dX5_become_70 : decode cX5_become 70 = .ok (.getfield 9, 3) := by decide +kernel
theorem dX5_become_73 : decode cX5_become 73 = .ok (.iconst 5, 1) := by decide +kernel
theorem dX5_become_74 : decode cX5_become 74 = .ok (.iaload, 1) := by decide +kernel
theorem dX5_become_75 : decode cX5_become 75 = .ok (.isub, 1) := by decide +kernel
theorem dX5_become_76 : decode cX5_become 76 = .ok (.invokestatic 34, 3) := by decide +kernel
theorem dX5_become_79 : decode cX5_become 79 = .ok (.imul, 1) := by decide +kernel
theorem dX5_become_80 : decode cX5_become 80 = .ok (.iastore, 1) := by decide +kernel
theorem dX5_become_81 : decode cX5_become 81 = .ok (.iinc 2 1, 3) := by decide +kernel
theorem dX5_become_84 : decode cX5_become 84 = .ok (.goto (-37), 3) := by decide +kernel
theorem dX5_become_87 : decode cX5_become 87 = .ok (.return_, 1) := by decide +kernel
theorem f_x_takeClauseWord_rows : True := trivial
theorem dX5_takeClauseWord_0 : decode cX5_takeClauseWord 0 = .ok (.iconst 0, 1) := by decide +kernel
theorem dX5_takeClauseWord_1 : decode cX5_takeClauseWord 1 = .ok (.istore_n 1, 1) := by decide +kernel
theorem dX5_takeClauseWord_2 : decode cX5_takeClauseWord 2 = .ok (.iload_n 1, 1) := by decide +kernel
theorem dX5_takeClauseWord_3 : decode cX5_takeClauseWord 3 = .ok (.bipush 10, 2) := by decide +kernel
theorem dX5_takeClauseWord_5 : decode cX5_takeClauseWord 5 = .ok (.if_icmp .ge 28, 3) := by decide +kernel
theorem dX5_takeClauseWord_8 : decode cX5_takeClauseWord 8 = .ok (.iload_n 1, 1) := by decide +kernel
theorem dX5_takeClauseWord_9 : decode cX5_takeClauseWord 9 = .ok (.bipush 8, 2) := by decide +kernel
theorem dX5_takeClauseWord_11 : decode cX5_takeClauseWord 11 = .ok (.if_icmp .eq 16, 3) := by decide +kernel
theorem dX5_takeClauseWord_14 : decode cX5_takeClauseWord 14 = .ok (.aload_n 0, 1) := by decide +kernel
theorem dX5_takeClauseWord_15 : decode cX5_takeClauseWord 15 = .ok (.iload_n 1, 1) := by decide +kernel
theorem dX5_takeClauseWord_16 : decode cX5_takeClauseWord 16 = .ok (.invokestatic 79, 3) := by decide +kernel
theorem dX5_takeClauseWord_19 : decode cX5_takeClauseWord 19 = .ok (.invokevirtual 83, 3) := by decide +kernel
theorem dX5_takeClauseWord_22 : decode cX5_takeClauseWord 22 = .ok (.ifCond .eq 5, 3) := by decide +kernel
theorem dX5_takeClauseWord_25 : decode cX5_takeClauseWord 25 = .ok (.iload_n 1, 1) := by decide +kernel
theorem dX5_takeClauseWord_26 : decode cX5_takeClauseWord 26 = .ok (.ireturn, 1) := by decide +kernel
theorem dX5_takeClauseWord_27 : decode cX5_takeClauseWord 27 = .ok (.iinc 1 1, 3) := by decide +kernel
theorem dX5_takeClauseWord_30 : decode cX5_takeClauseWord 30 = .ok (.goto (-28), 3) := by decide +kernel
theorem dX5_takeClauseWord_33 : decode cX5_takeClauseWord 33 = .ok (.iconst (-1), 1) := by decide +kernel
theorem dX5_takeClauseWord_34 : decode cX5_takeClauseWord 34 = .ok (.ireturn, 1) := by decide +kernel
theorem f_x_readDoors_rows : True := trivial
theorem dX5_readDoors_0 : decode cX5_readDoors 0 = .ok (.aload_n 1, 1) := by decide +kernel
theorem dX5_readDoors_1 : decode cX5_readDoors 1 = .ok (.getstatic 106, 3) := by decide +kernel
theorem dX5_readDoors_4 : decode cX5_readDoors 4 = .ok (.iconst 0, 1) := by decide +kernel
theorem dX5_readDoors_5 : decode cX5_readDoors 5 = .ok (.iaload, 1) := by decide +kernel
theorem dX5_readDoors_6 : decode cX5_readDoors 6 = .ok (.getstatic 109, 3) := by decide +kernel
theorem dX5_readDoors_9 : decode cX5_readDoors 9 = .ok (.iconst 0, 1) := by decide +kernel
theorem dX5_readDoors_10 : decode cX5_readDoors 10 = .ok (.iaload, 1) := by decide +kernel
theorem dX5_readDoors_11 : decode cX5_readDoors 11 = .ok (.invokevirtual 112, 3) := by decide +kernel
theorem dX5_readDoors_14 : decode cX5_readDoors 14 = .ok (.istore_n 2, 1) := by decide +kernel
theorem dX5_readDoors_15 : decode cX5_readDoors 15 = .ok (.aload_n 0, 1) := by decide +kernel
theorem dX5_readDoors_16 : decode cX5_readDoors 16 = .ok (.invokevirtual 72, 3) := by decide +kernel
theorem dX5_readDoors_19 : decode cX5_readDoors 19 = .ok (.istore_n 3, 1) := by decide +kernel
theorem dX5_readDoors_20 : decode cX5_readDoors 20 = .ok (.aload_n 1, 1) := by decide +kernel
theorem dX5_readDoors_21 : decode cX5_readDoors 21 = .ok (.invokevirtual 43, 3) := by decide +kernel
theorem dX5_readDoors_24 : decode cX5_readDoors 24 = .ok (.ifCond .ne 20, 3) := by decide +kernel
theorem dX5_readDoors_27 : decode cX5_readDoors 27 = .ok (.iload_n 3, 1) := by decide +kernel
theorem dX5_readDoors_28 : decode cX5_readDoors 28 = .ok (.iload_n 2, 1) := by decide +kernel
theorem dX5_readDoors_29 : decode cX5_readDoors 29 = .ok (.iadd, 1) := by decide +kernel
theorem dX5_readDoors_30 : decode cX5_readDoors 30 = .ok (.bipush 24, 2) := by decide +kernel
theorem dX5_readDoors_32 : decode cX5_readDoors 32 = .ok (.if_icmp .le 12, 3) := by decide +kernel
theorem dX5_readDoors_35 : decode cX5_readDoors 35 = .ok (.aload_n 1, 1) := by decide +kernel
theorem dX5_readDoors_36 : decode cX5_readDoors 36 = .ok (.iconst 4, 1) := by decide +kernel
theorem dX5_readDoors_37 : decode cX5_readDoors 37 = .ok (.aload_n 1, 1) := by decide +kernel
theorem dX5_readDoors_38 : decode cX5_readDoors 38 = .ok (.getfield 115, 3) := by decide +kernel
theorem dX5_readDoors_41 : decode cX5_readDoors 41 = .ok (.invokevirtual 60, 3) := by decide +kernel
theorem dX5_readDoors_44 : decode cX5_readDoors 44 = .ok (.aload_n 1, 1) := by decide +kernel
theorem dX5_readDoors_45 : decode cX5_readDoors 45 = .ok (.ldc 118, 2) := by decide +kernel
theorem dX5_readDoors_47 : decode cX5_readDoors 47 = .ok (.invokevirtual 120, 3) := by decide +kernel
theorem dX5_readDoors_50 : decode cX5_readDoors 50 = .ok (.aload_n 1, 1) := by decide +kernel
theorem dX5_readDoors_51 : decode cX5_readDoors 51 = .ok (.iconst 0, 1) := by decide +kernel
theorem dX5_readDoors_52 : decode cX5_readDoors 52 = .ok (.bipush 100, 2) := by decide +kernel
theorem dX5_readDoors_54 : decode cX5_readDoors 54 = .ok (.invokevirtual 112, 3) := by decide +kernel
theorem dX5_readDoors_57 : decode cX5_readDoors 57 = .ok (.istore 4, 2) := by decide +kernel
theorem dX5_readDoors_59 : decode cX5_readDoors 59 = .ok (.aload_n 1, 1) := by decide +kernel
theorem dX5_readDoors_60 : decode cX5_readDoors 60 = .ok (.ldc 124, 2) := by decide +kernel
theorem dX5_readDoors_62 : decode cX5_readDoors 62 = .ok (.invokevirtual 120, 3) := by decide +kernel
theorem dX5_readDoors_65 : decode cX5_readDoors 65 = .ok (.aload_n 1, 1) := by decide +kernel
theorem dX5_readDoors_66 : decode cX5_readDoors 66 = .ok (.iconst 0, 1) := by decide +kernel
theorem dX5_readDoors_67 : decode cX5_readDoors 67 = .ok (.sipush 999, 3) := by decide +kernel
theorem dX5_readDoors_70 : decode cX5_readDoors 70 = .ok (.invokevirtual 112, 3) := by decide +kernel
theorem dX5_readDoors_73 : decode cX5_readDoors 73 = .ok (.istore 5, 2) := by decide +kernel
theorem dX5_readDoors_75 : decode cX5_readDoors 75 = .ok (.aload_n 1, 1) := by decide +kernel
theorem dX5_readDoors_76 : decode cX5_readDoors 76 = .ok (.invokevirtual 126, 3) := by decide +kernel
theorem dX5_readDoors_79 : decode cX5_readDoors 79 = .ok (.aload_n 1, 1) := by decide +kernel
theorem dX5_readDoors_80 : decode cX5_readDoors 80 = .ok (.invokevirtual 43, 3) := by decide +kernel
theorem dX5_readDoors_83 : decode cX5_readDoors 83 = .ok (.ifCond .eq 4, 3) := by decide +kernel
theorem dX5_readDoors_86 : decode cX5_readDoors 86 = .ok (.return_, 1) := by decide +kernel
theorem dX5_readDoors_87 : decode cX5_readDoors 87 = .ok (.iload_n 3, 1) := by decide +kernel
theorem dX5_readDoors_88 : decode cX5_readDoors 88 = .ok (.istore 6, 2) := by decide +kernel
theorem dX5_readDoors_90 : decode cX5_readDoors 90 = .ok (.iload 6, 2) := by decide +kernel
theorem dX5_readDoors_92 : decode cX5_readDoors 92 = .ok (.iload_n 3, 1) := by decide +kernel
theorem dX5_readDoors_93 : decode cX5_readDoors 93 = .ok (.iload_n 2, 1) := by decide +kernel
theorem dX5_readDoors_94 : decode cX5_readDoors 94 = .ok (.iadd, 1) := by decide +kernel
theorem dX5_readDoors_95 : decode cX5_readDoors 95 = .ok (.if_icmp .ge 34, 3) := by decide +kernel
theorem dX5_readDoors_98 : decode cX5_readDoors 98 = .ok (.iload 6, 2) := by decide +kernel
theorem dX5_readDoors_100 : decode cX5_readDoors 100 = .ok (.bipush 24, 2) := by decide +kernel
theorem dX5_readDoors_102 : decode cX5_readDoors 102 = .ok (.if_icmp .ge 27, 3) := by decide +kernel
theorem dX5_readDoors_105 : decode cX5_readDoors 105 = .ok (.aload_n 0, 1) := by decide +kernel
theorem dX5_readDoors_106 : decode cX5_readDoors 106 = .ok (.getfield 15, 3) := by decide +kernel
theorem dX5_readDoors_109 : decode cX5_readDoors 109 = .ok (.iload 6, 2) := by decide +kernel
theorem dX5_readDoors_111 : decode cX5_readDoors 111 = .ok (.iload 4, 2) := by decide +kernel
theorem dX5_readDoors_113 : decode cX5_readDoors 113 = .ok (.iastore, 1) := by decide +kernel
theorem dX5_readDoors_114 : decode cX5_readDoors 114 = .ok (.aload_n 0, 1) := by decide +kernel
theorem dX5_readDoors_115 : decode cX5_readDoors 115 = .ok (.getfield 18, 3) := by decide +kernel
theorem dX5_readDoors_118 : decode cX5_readDoors 118 = .ok (.iload 6, 2) := by decide +kernel
theorem dX5_readDoors_120 : decode cX5_readDoors 120 = .ok (.iload 5, 2) := by decide +kernel
theorem dX5_readDoors_122 : decode cX5_readDoors 122 = .ok (.iastore, 1) := by decide +kernel
theorem dX5_readDoors_123 : decode cX5_readDoors 123 = .ok (.iinc 6 1, 3) := by decide +kernel
theorem dX5_readDoors_126 : decode cX5_readDoors 126 = .ok (.goto (-36), 3) := by decide +kernel
theorem dX5_readDoors_129 : decode cX5_readDoors 129 = .ok (.aload_n 0, 1) := by decide +kernel
theorem dX5_readDoors_130 : decode cX5_readDoors 130 = .ok (.getfield 9, 3) := by decide +kernel
theorem dX5_readDoors_133 : decode cX5_readDoors 133 = .ok (.iconst 0, 1) := by decide +kernel
theorem dX5_readDoors_134 : decode cX5_readDoors 134 = .ok (.iload_n 3, 1) := by decide +kernel
theorem dX5_readDoors_135 : decode cX5_readDoors 135 = .ok (.iload_n 2, 1) := by decide +kernel
theorem dX5_readDoors_136 : decode cX5_readDoors 136 = .ok (.iadd, 1) := by decide +kernel
theorem dX5_readDoors_137 : decode cX5_readDoors 137 = .ok (.iastore, 1) := by decide +kernel
theorem dX5_readDoors_138 : decode cX5_readDoors 138 = .ok (.return_, 1) := by decide +kernel
theorem f_x_readClause_rows : True := trivial
theorem dX5_readClause_0 : decode cX5_readClause 0 = .ok (.aload_n 0, 1) := by decide +kernel
theorem dX5_readClause_1 : decode cX5_readClause 1 = .ok (.getfield 9, 3) := by decide +kernel
theorem dX5_readClause_4 : decode cX5_readClause 4 = .ok (.iload_n 2, 1) := by decide +kernel
theorem dX5_readClause_5 : decode cX5_readClause 5 = .ok (.aload_n 1, 1) := by decide +kernel
theorem dX5_readClause_6 : decode cX5_readClause 6 = .ok (.getstatic 106, 3) := by decide +kernel
theorem dX5_readClause_9 : decode cX5_readClause 9 = .ok (.iload_n 2, 1) := by decide +kernel
theorem dX5_readClause_10 : decode cX5_readClause 10 = .ok (.iaload, 1) := by decide +kernel
theorem dX5_readClause_11 : decode cX5_readClause 11 = .ok (.getstatic 109, 3) := by decide +kernel
theorem dX5_readClause_14 : decode cX5_readClause 14 = .ok (.iload_n 2, 1) := by decide +kernel
theorem dX5_readClause_15 : decode cX5_readClause 15 = .ok (.iaload, 1) := by decide +kernel
theorem dX5_readClause_16 : decode cX5_readClause 16 = .ok (.invokevirtual 112, 3) := by decide +kernel
theorem dX5_readClause_19 : decode cX5_readClause 19 = .ok (.iastore, 1) := by decide +kernel
theorem dX5_readClause_20 : decode cX5_readClause 20 = .ok (.iload_n 2, 1) := by decide +kernel
theorem dX5_readClause_21 : decode cX5_readClause 21 = .ok (.bipush 7, 2) := by decide +kernel
theorem dX5_readClause_23 : decode cX5_readClause 23 = .ok (.if_icmp .ne 35, 3) := by decide +kernel
theorem dX5_readClause_26 : decode cX5_readClause 26 = .ok (.aload_n 1, 1) := by decide +kernel
theorem dX5_readClause_27 : decode cX5_readClause 27 = .ok (.bipush 8, 2) := by decide +kernel
theorem dX5_readClause_29 : decode cX5_readClause 29 = .ok (.invokestatic 79, 3) := by decide +kernel
theorem dX5_readClause_32 : decode cX5_readClause 32 = .ok (.invokevirtual 120, 3) := by decide +kernel
theorem dX5_readClause_35 : decode cX5_readClause 35 = .ok (.aload_n 0, 1) := by decide +kernel
theorem dX5_readClause_36 : decode cX5_readClause 36 = .ok (.getfield 9, 3) := by decide +kernel
theorem dX5_readClause_39 : decode cX5_readClause 39 = .ok (.bipush 8, 2) := by decide +kernel
theorem dX5_readClause_41 : decode cX5_readClause 41 = .ok (.aload_n 1, 1) := by decide +kernel
theorem dX5_readClause_42 : decode cX5_readClause 42 = .ok (.getstatic 106, 3) := by decide +kernel
theorem dX5_readClause_45 : decode cX5_readClause 45 = .ok (.bipush 8, 2) := by decide +kernel
theorem dX5_readClause_47 : decode cX5_readClause 47 = .ok (.iaload, 1) := by decide +kernel
theorem dX5_readClause_48 : decode cX5_readClause 48 = .ok (.getstatic 109, 3) := by decide +kernel
theorem dX5_readClause_51 : decode cX5_readClause 51 = .ok (.bipush 8, 2) := by decide +kernel
theorem dX5_readClause_53 : decode cX5_readClause 53 = .ok (.iaload, 1) := by decide +kernel
theorem dX5_readClause_54 : decode cX5_readClause 54 = .ok (.invokevirtual 112, 3) := by decide +kernel
theorem dX5_readClause_57 : decode cX5_readClause 57 = .ok (.iastore, 1) := by decide +kernel
theorem dX5_readClause_58 : decode cX5_readClause 58 = .ok (.aload_n 1, 1) := by decide +kernel
theorem dX5_readClause_59 : decode cX5_readClause 59 = .ok (.invokevirtual 126, 3) := by decide +kernel
theorem dX5_readClause_62 : decode cX5_readClause 62 = .ok (.return_, 1) := by decide +kernel
theorem f_x_Street_readFrom_rows : True := trivial
theorem dX5_readFrom_0 : decode cX5_readFrom 0 = .ok (.getstatic 40, 3) := by decide +kernel
theorem dX5_readFrom_3 : decode cX5_readFrom 3 = .ok (.iconst 0, 1) := by decide +kernel
theorem dX5_readFrom_4 : decode cX5_readFrom 4 = .ok (.aload_n 0, 1) := by decide +kernel
theorem dX5_readFrom_5 : decode cX5_readFrom 5 = .ok (.getfield 9, 3) := by decide +kernel
theorem dX5_readFrom_8 : decode cX5_readFrom 8 = .ok (.iconst 0, 1) := by decide +kernel
theorem dX5_readFrom_9 : decode cX5_readFrom 9 = .ok (.bipush 10, 2) := by decide +kernel
theorem dX5_readFrom_11 : decode cX5_readFrom 11 = .ok (.invokestatic 24, 3) := by decide +kernel
theorem dX5_readFrom_14 : decode cX5_readFrom 14 = .ok (.iconst 0, 1) := by decide +kernel
theorem dX5_readFrom_15 : decode cX5_readFrom 15 = .ok (.istore_n 2, 1) := by decide +kernel
theorem dX5_readFrom_16 : decode cX5_readFrom 16 = .ok (.iconst 0, 1) := by decide +kernel
theorem dX5_readFrom_17 : decode cX5_readFrom 17 = .ok (.istore_n 3, 1) := by decide +kernel
theorem dX5_readFrom_18 : decode cX5_readFrom 18 = .ok (.iload_n 3, 1) := by decide +kernel
theorem dX5_readFrom_19 : decode cX5_readFrom 19 = .ok (.sipush 240, 3) := by decide +kernel
theorem dX5_readFrom_22 : decode cX5_readFrom 22 = .ok (.if_icmp .ge 97, 3) := by decide +kernel
theorem dX5_readFrom_25 : decode cX5_readFrom 25 = .ok (.aload_n 1, 1) := by decide +kernel
theorem dX5_readFrom_26 : decode cX5_readFrom 26 = .ok (.invokevirtual 43, 3) := by decide +kernel
theorem dX5_readFrom_29 : decode cX5_readFrom 29 = .ok (.ifCond .ne 90, 3) := by decide +kernel
theorem dX5_readFrom_32 : decode cX5_readFrom 32 = .ok (.aload_n 1, 1) := by decide +kernel
theorem dX5_readFrom_33 : decode cX5_readFrom 33 = .ok (.invokevirtual 49, 3) := by decide +kernel
theorem dX5_readFrom_36 : decode cX5_readFrom 36 = .ok (.ifCond .ne 83, 3) := by decide +kernel
theorem dX5_readFrom_39 : decode cX5_readFrom 39 = .ok (.aload_n 1, 1) := by decide +kernel
theorem dX5_readFrom_40 : decode cX5_readFrom 40 = .ok (.getfield 52, 3) := by decide +kernel
theorem dX5_readFrom_43 : decode cX5_readFrom 43 = .ok (.istore 4, 2) := by decide +kernel
theorem dX5_readFrom_45 : decode cX5_readFrom 45 = .ok (.aload_n 1, 1) := by decide +kernel
theorem dX5_readFrom_46 : decode cX5_readFrom 46 = .ok (.invokestatic 56, 3) := by decide +kernel
theorem dX5_readFrom_49 : decode cX5_readFrom 49 = .ok (.istore 5, 2) := by decide +kernel
theorem dX5_readFrom_51 : decode cX5_readFrom 51 = .ok (.iload 5, 2) := by decide +kernel
theorem dX5_readFrom_53 : decode cX5_readFrom 53 = .ok (.iconst (-1), 1) := by decide +kernel
theorem dX5_readFrom_54 : decode cX5_readFrom 54 = .ok (.if_icmp .ne 13, 3) := by decide +kernel
theorem dX5_readFrom_57 : decode cX5_readFrom 57 = .ok (.aload_n 1, 1) := by decide +kernel
theorem dX5_readFrom_58 : decode cX5_readFrom 58 = .ok (.iconst 1, 1) := by decide +kernel
theorem dX5_readFrom_59 : decode cX5_readFrom 59 = .ok (.iload 4, 2) := by decide +kernel
theorem dX5_readFrom_61 : decode cX5_readFrom 61 = .ok (.invokevirtual 60, 3) := by decide +kernel
theorem dX5_readFrom_64 : decode cX5_readFrom 64 = .ok (.goto 49, 3) := by decide +kernel
theorem dX5_readFrom_67 : decode cX5_readFrom 67 = .ok (.iload_n 2, 1) := by decide +kernel
theorem dX5_readFrom_68 : decode cX5_readFrom 68 = .ok (.iload 5, 2) := by decide +kernel
theorem dX5_readFrom_70 : decode cX5_readFrom 70 = .ok (.ishr, 1) := by decide +kernel
theorem dX5_readFrom_71 : decode cX5_readFrom 71 = .ok (.iconst 1, 1) := by decide +kernel
theorem dX5_readFrom_72 : decode cX5_readFrom 72 = .ok (.iand, 1) := by decide +kernel
theorem dX5_readFrom_73 : decode cX5_readFrom 73 = .ok (.ifCond .eq 13, 3) := by decide +kernel
theorem dX5_readFrom_76 : decode cX5_readFrom 76 = .ok (.aload_n 1, 1) := by decide +kernel
theorem dX5_readFrom_77 : decode cX5_readFrom 77 = .ok (.iconst 3, 1) := by decide +kernel
theorem dX5_readFrom_78 : decode cX5_readFrom 78 = .ok (.iload 4, 2) := by decide +kernel
theorem dX5_readFrom_80 : decode cX5_readFrom 80 = .ok (.invokevirtual 60, 3) := by decide +kernel
theorem dX5_readFrom_83 : decode cX5_readFrom 83 = .ok (.goto 30, 3) := by decide +kernel
theorem dX5_readFrom_86 : decode cX5_readFrom 86 = .ok (.iload 5, 2) := by decide +kernel
theorem dX5_readFrom_88 : decode cX5_readFrom 88 = .ok (.ifCond .ne 11, 3) := by decide +kernel
theorem dX5_readFrom_91 : decode cX5_readFrom 91 = .ok (.aload_n 0, 1) := by decide +kernel
theorem dX5_readFrom_92 : decode cX5_readFrom 92 = .ok (.aload_n 1, 1) := by decide +kernel
theorem dX5_readFrom_93 : decode cX5_readFrom 93 = .ok (.invokevirtual 64, 3) := by decide +kernel
theorem dX5_readFrom_96 : decode cX5_readFrom 96 = .ok (.goto 17, 3) := by decide +kernel
theorem dX5_readFrom_99 : decode cX5_readFrom 99 = .ok (.aload_n 0, 1) := by decide +kernel
theorem dX5_readFrom_100 : decode cX5_readFrom 100 = .ok (.aload_n 1, 1) := by decide +kernel
theorem dX5_readFrom_101 : decode cX5_readFrom 101 = .ok (.iload 5, 2) := by decide +kernel
theorem dX5_readFrom_103 : decode cX5_readFrom 103 = .ok (.invokevirtual 68, 3) := by decide +kernel
theorem dX5_readFrom_106 : decode cX5_readFrom 106 = .ok (.iload_n 2, 1) := by decide +kernel
theorem dX5_readFrom_107 : decode cX5_readFrom 107 = .ok (.iconst 1, 1) := by decide +kernel
theorem dX5_readFrom_108 : decode cX5_readFrom 108 = .ok (.iload 5, 2) := by decide +kernel
theorem dX5_readFrom_110 : decode cX5_readFrom 110 = .ok (.ishl, 1) := by decide +kernel
theorem dX5_readFrom_111 : decode cX5_readFrom 111 = .ok (.ior, 1) := by decide +kernel
theorem dX5_readFrom_112 : decode cX5_readFrom 112 = .ok (.istore_n 2, 1) := by decide +kernel
theorem dX5_readFrom_113 : decode cX5_readFrom 113 = .ok (.iinc 3 1, 3) := by decide +kernel
theorem dX5_readFrom_116 : decode cX5_readFrom 116 = .ok (.goto (-98), 3) := by decide +kernel
theorem dX5_readFrom_119 : decode cX5_readFrom 119 = .ok (.aload_n 1, 1) := by decide +kernel
theorem dX5_readFrom_120 : decode cX5_readFrom 120 = .ok (.invokevirtual 43, 3) := by decide +kernel
theorem dX5_readFrom_123 : decode cX5_readFrom 123 = .ok (.ifCond .ne 19, 3) := by decide +kernel
theorem dX5_readFrom_126 : decode cX5_readFrom 126 = .ok (.aload_n 0, 1) := by decide +kernel
theorem dX5_readFrom_127 : decode cX5_readFrom 127 = .ok (.invokevirtual 72, 3) := by decide +kernel
theorem dX5_readFrom_130 : decode cX5_readFrom 130 = .ok (.ifCond .ne 12, 3) := by decide +kernel
theorem dX5_readFrom_133 : decode cX5_readFrom 133 = .ok (.aload_n 1, 1) := by decide +kernel
theorem dX5_readFrom_134 : decode cX5_readFrom 134 = .ok (.iconst 1, 1) := by decide +kernel
theorem dX5_readFrom_135 : decode cX5_readFrom 135 = .ok (.aload_n 1, 1) := by decide +kernel
theorem dX5_readFrom_136 : decode cX5_readFrom 136 = .ok (.getfield 76, 3) := by decide +kernel
theorem dX5_readFrom_139 : decode cX5_readFrom 139 = .ok (.invokevirtual 60, 3) := by decide +kernel
theorem dX5_readFrom_142 : decode cX5_readFrom 142 = .ok (.return_, 1) := by decide +kernel
theorem f_x_chanceOf_rows : True := trivial
theorem dX5_chanceOf_0 : decode cX5_chanceOf 0 = .ok (.iload_n 1, 1) := by decide +kernel
theorem dX5_chanceOf_1 : decode cX5_chanceOf 1 = .ok (.ifCond .ne 10, 3) := by decide +kernel
theorem dX5_chanceOf_4 : decode cX5_chanceOf 4 = .ok (.aload_n 0, 1) := by decide +kernel
theorem dX5_chanceOf_5 : decode cX5_chanceOf 5 = .ok (.getfield 15, 3) := by decide +kernel
theorem dX5_chanceOf_8 : decode cX5_chanceOf 8 = .ok (.iload_n 1, 1) := by decide +kernel
theorem dX5_chanceOf_9 : decode cX5_chanceOf 9 = .ok (.iaload, 1) := by decide +kernel
theorem dX5_chanceOf_10 : decode cX5_chanceOf 10 = .ok (.ireturn, 1) := by decide +kernel
theorem dX5_chanceOf_11 : decode cX5_chanceOf 11 = .ok (.iload_n 2, 1) := by decide +kernel
theorem dX5_chanceOf_12 : decode cX5_chanceOf 12 = .ok (.ifCond .eq 19, 3) := by decide +kernel
theorem dX5_chanceOf_15 : decode cX5_chanceOf 15 = .ok (.aload_n 0, 1) := by decide +kernel
theorem dX5_chanceOf_16 : decode cX5_chanceOf 16 = .ok (.getfield 15, 3) := by decide +kernel
theorem dX5_chanceOf_19 : decode cX5_chanceOf 19 = .ok (.iload_n 1, 1) := by decide +kernel
theorem dX5_chanceOf_20 : decode cX5_chanceOf 20 = .ok (.iaload, 1) := by decide +kernel
theorem dX5_chanceOf_21 : decode cX5_chanceOf 21 = .ok (.aload_n 0, 1) := by decide +kernel
theorem dX5_chanceOf_22 : decode cX5_chanceOf 22 = .ok (.getfield 9, 3) := by decide +kernel
theorem dX5_chanceOf_25 : decode cX5_chanceOf 25 = .ok (.iconst 1, 1) := by decide +kernel
theorem dX5_chanceOf_26 : decode cX5_chanceOf 26 = .ok (.iaload, 1) := by decide +kernel
theorem dX5_chanceOf_27 : decode cX5_chanceOf 27 = .ok (.iadd, 1) := by decide +kernel
theorem dX5_chanceOf_28 : decode cX5_chanceOf 28 = .ok (.goto 16, 3) := by decide +kernel
theorem dX5_chanceOf_31 : decode cX5_chanceOf 31 = .ok (.aload_n 0, 1) := by decide +kernel
theorem dX5_chanceOf_32 : decode cX5_chanceOf 32 = .ok (.getfield 15, 3) := by decide +kernel
theorem dX5_chanceOf_35 : decode cX5_chanceOf 35 = .ok (.iload_n 1, 1) := by decide +kernel
theorem dX5_chanceOf_36 : decode cX5_chanceOf 36 = .ok (.iaload, 1) := by decide +kernel
theorem dX5_chanceOf_37 : decode cX5_chanceOf 37 = .ok (.aload_n 0, 1) := by decide +kernel
theorem dX5_chanceOf_38 : decode cX5_chanceOf 38 = .ok (.getfield 9, 3) := by decide +kernel
theorem dX5_chanceOf_41 : decode cX5_chanceOf 41 = .ok (.iconst 1, 1) := by decide +kernel
theorem dX5_chanceOf_42 : decode cX5_chanceOf 42 = .ok (.iaload, 1) := by decide +kernel
theorem dX5_chanceOf_43 : decode cX5_chanceOf 43 = .ok (.isub, 1) := by decide +kernel
theorem dX5_chanceOf_44 : decode cX5_chanceOf 44 = .ok (.istore_n 3, 1) := by decide +kernel
theorem dX5_chanceOf_45 : decode cX5_chanceOf 45 = .ok (.iconst 0, 1) := by decide +kernel
theorem dX5_chanceOf_46 : decode cX5_chanceOf 46 = .ok (.bipush 100, 2) := by decide +kernel
theorem dX5_chanceOf_48 : decode cX5_chanceOf 48 = .ok (.iload_n 3, 1) := by decide +kernel
theorem dX5_chanceOf_49 : decode cX5_chanceOf 49 = .ok (.invokestatic 129, 3) := by decide +kernel
theorem dX5_chanceOf_52 : decode cX5_chanceOf 52 = .ok (.invokestatic 34, 3) := by decide +kernel
theorem dX5_chanceOf_55 : decode cX5_chanceOf 55 = .ok (.ireturn, 1) := by decide +kernel
theorem f_x_isLateIn_rows : True := trivial
theorem dX5_isLateIn_0 : decode cX5_isLateIn 0 = .ok (.aload_n 0, 1) := by decide +kernel
theorem dX5_isLateIn_1 : decode cX5_isLateIn 1 = .ok (.iload_n 1, 1) := by decide +kernel
theorem dX5_isLateIn_2 : decode cX5_isLateIn 2 = .ok (.invokevirtual 30, 3) := by decide +kernel
theorem dX5_isLateIn_5 : decode cX5_isLateIn 5 = .ok (.aload_n 0, 1) := by decide +kernel
theorem dX5_isLateIn_6 : decode cX5_isLateIn 6 = .ok (.getfield 9, 3) := by decide +kernel
theorem dX5_isLateIn_9 : decode cX5_isLateIn 9 = .ok (.iconst 5, 1) := by decide +kernel
theorem dX5_isLateIn_10 : decode cX5_isLateIn 10 = .ok (.iaload, 1) := by decide +kernel
theorem dX5_isLateIn_11 : decode cX5_isLateIn 11 = .ok (.if_icmp .le 7, 3) := by decide +kernel
theorem dX5_isLateIn_14 : decode cX5_isLateIn 14 = .ok (.iconst 1, 1) := by decide +kernel
theorem dX5_isLateIn_15 : decode cX5_isLateIn 15 = .ok (.goto 4, 3) := by decide +kernel
theorem dX5_isLateIn_18 : decode cX5_isLateIn 18 = .ok (.iconst 0, 1) := by decide +kernel
theorem dX5_isLateIn_19 : decode cX5_isLateIn 19 = .ok (.ireturn, 1) := by decide +kernel
theorem dX5_takingBy_0 : decode cX5_takingBy 0 = .ok (.aload_n 0, 1) := by decide +kernel
theorem dX5_takingBy_1 : decode cX5_takingBy 1 = .ok (.getfield 18, 3) := by decide +kernel
theorem dX5_takingBy_4 : decode cX5_takingBy 4 = .ok (.iload_n 3, 1) := by decide +kernel
theorem dX5_takingBy_5 : decode cX5_takingBy 5 = .ok (.iaload, 1) := by decide +kernel
theorem dX5_takingBy_6 : decode cX5_takingBy 6 = .ok (.iload_n 1, 1) := by decide +kernel
theorem dX5_takingBy_7 : decode cX5_takingBy 7 = .ok (.aload_n 0, 1) := by decide +kernel
theorem dX5_takingBy_8 : decode cX5_takingBy 8 = .ok (.getfield 9, 3) := by decide +kernel
theorem dX5_takingBy_11 : decode cX5_takingBy 11 = .ok (.iconst 0, 1) := by decide +kernel
theorem dX5_takingBy_12 : decode cX5_takingBy 12 = .ok (.iaload, 1) := by decide +kernel
theorem dX5_takingBy_13 : decode cX5_takingBy 13 = .ok (.iload_n 3, 1) := by decide +kernel
theorem dX5_takingBy_14 : decode cX5_takingBy 14 = .ok (.isub, 1) := by decide +kernel
theorem dX5_takingBy_15 : decode cX5_takingBy 15 = .ok (.imul, 1) := by decide +kernel
theorem dX5_takingBy_16 : decode cX5_takingBy 16 = .ok (.iadd, 1) := by decide +kernel
theorem dX5_takingBy_17 : decode cX5_takingBy 17 = .ok (.aload_n 0, 1) := by decide +kernel
theorem dX5_takingBy_18 : decode cX5_takingBy 18 = .ok (.getfield 21, 3) := by decide +kernel
theorem dX5_takingBy_21 : decode cX5_takingBy 21 = .ok (.iload_n 2, 1) := by decide +kernel
theorem dX5_takingBy_22 : decode cX5_takingBy 22 = .ok (.iaload, 1) := by decide +kernel
theorem dX5_takingBy_23 : decode cX5_takingBy 23 = .ok (.iadd, 1) := by decide +kernel
theorem dX5_takingBy_24 : decode cX5_takingBy 24 = .ok (.sipush 1000, 3) := by decide +kernel
theorem dX5_takingBy_27 : decode cX5_takingBy 27 = .ok (.imul, 1) := by decide +kernel
theorem dX5_takingBy_28 : decode cX5_takingBy 28 = .ok (.ireturn, 1) := by decide +kernel
set_option maxHeartbeats 4000000 in
set_option maxRecDepth 100000 in
theorem x_takingBy (l : Launch) (D : va_G) (k : Nat → ClassId) (st : Nat → Nat) (lo : Nat) (h0 : Nat) (h1 : Nat) (h2 : Nat) (h3 : Nat) (h4 : Nat) (n : Nat) (see : Nat) (tm : Nat) (g : Nat → Int32) (fp : Nat → Int32) (fl : Nat → Int32) (p0 : Int32) (rn : Nat) (i : Nat) (hrn : rn ≤ 3) (hi : i < 24) : CRi l D k st lo yX5_takingBy cX5_takingBy 4 (some .int) ({ frames := 0, cells := 0, slots := 0, locals := 0 }) [.ref h0, .int p0, .int (nI rn), .int (nI i)] [(h0, .inr (5, (fX5 h1 h2 h3 h4))), (aI k h1 10 (vv n see tm g)), (aI k h3 24 fp), (aI k h4 4 fl)] (fun _ => True) := by
  intro sz
  refine Met.ofW (cc := cX5_takingBy) (maxL := 4) (ret := (some .int)) (by decide) rfl ?_
  intro p e s m args below meth c s₁ B hml hv
  obtain ⟨rfl, hsz, hlo, hP, hK, hDL, hZ⟩ := hv
  have hx := B.exec
  have hb := B.bytes
  have hr := B.returns
  have hts := WS_ts B.pre
  have hown : s.vm.findClass RX5 = some m.cls := findClass_of_methodNamed B.named
  have hlocks := B.notSynchronized
  subst hsz
  have hA : ∀ q : Nat, s.heap.size ≤ q → (fun q : Nat => s.heap.size ≤ q) q := fun _ h => h
  have hAlo : ∀ q : Nat, (fun q : Nat => s.heap.size ≤ q) q → lo ≤ q := fun q h => Nat.le_trans hlo h
  have hS : va_S (fun q : Nat => s.heap.size ≤ q) s.heap s.heap [] := va_S.rf
  have hl := lv_entry ([.ref h0, .int p0, .int (nI rn), .int (nI i)]) (n := 4) (Nat.le_of_ble_eq_true rfl)
  rw [lg_entry_eq]
  generalize (lg_sl ([.ref h0, .int p0, .int (nI rn), .int (nI i)]) ++ List.replicate (4 - (lg_sl ([.ref h0, .int p0, .int (nI rn), .int (nI i)])).length) Slot.unset).toArray = ls at hl ⊢
  have hl : lv_has ls 4 [(0, .ref h0), (1, .int p0), (2, .int (nI rn)), (3, .int (nI i))] := hl
  refine lv_aload_n hx hb dX5_takingBy_0 rfl (lv_at hl 0 rfl) ?_
  refine va_get (D := D) (ci := 5) (v := .ref h3) (C := RX5) (T := TX5) (N := 4) hx hb hts inX5 hown hK hP 0 rfl rfl 2 (by decide) (hts _ tw_152) (fun _ h9 => h9) rfl dX5_takingBy_1 ?_
  refine lv_iload_n hx hb dX5_takingBy_4 rfl (lv_at hl 3 rfl) ?_
  refine va_iald hx hb hK hP 2 1 rfl rfl (vp_in_nI (by omega) (by decide)) dX5_takingBy_5 ?_
  refine lv_ti (y := (fp i)) (by rw [nI_clamp (by omega)]) ?_
  refine lv_iload_n hx hb dX5_takingBy_6 rfl (lv_at hl 1 rfl) ?_
  refine lv_aload_n hx hb dX5_takingBy_7 rfl (lv_at hl 0 rfl) ?_
  refine va_get (D := D) (ci := 5) (v := .ref h1) (C := RX5) (T := TX5) (N := 4) hx hb hts inX5 hown hK hP 0 rfl rfl 0 (by decide) (hts _ tw_146) (fun _ h9 => h9) rfl dX5_takingBy_8 ?_
  refine lv_iconst (v := 0) hx hb dX5_takingBy_11 (by decide) ?_
  refine va_iald hx hb hK hP 1 1 rfl rfl (by unfold vp_in; decide) dX5_takingBy_12 ?_
  refine lv_ti (y := (nI n)) (by rfl) ?_
  refine lv_iload_n hx hb dX5_takingBy_13 rfl (lv_at hl 3 rfl) ?_
  refine lv_isub hx hb dX5_takingBy_14 ?_
  refine lv_topi (fun x_1 ex_1 => ?_)
  refine lv_imul hx hb dX5_takingBy_15 ?_
  refine lv_topi (fun x_2 ex_2 => ?_)
  refine lv_iadd hx hb dX5_takingBy_16 ?_
  refine lv_topi (fun x_3 ex_3 => ?_)
  refine lv_aload_n hx hb dX5_takingBy_17 rfl (lv_at hl 0 rfl) ?_
  refine va_get (D := D) (ci := 5) (v := .ref h4) (C := RX5) (T := TX5) (N := 4) hx hb hts inX5 hown hK hP 0 rfl rfl 3 (by decide) (hts _ tw_154) (fun _ h9 => h9) rfl dX5_takingBy_18 ?_
  refine lv_iload_n hx hb dX5_takingBy_21 rfl (lv_at hl 2 rfl) ?_
  refine va_iald hx hb hK hP 3 1 rfl rfl (vp_in_nI (by omega) (by decide)) dX5_takingBy_22 ?_
  refine lv_ti (y := (fl rn)) (by rw [nI_clamp (by omega)]) ?_
  refine lv_iadd hx hb dX5_takingBy_23 ?_
  refine lv_topi (fun x_4 ex_4 => ?_)
  refine lv_sipush (v := 1000) hx hb dX5_takingBy_24 (by decide) ?_
  refine lv_imul hx hb dX5_takingBy_27 ?_
  refine lv_topi (fun x_5 ex_5 => ?_)
  exact W.iret (v := x_5) hx hb hr (fun t ht hW => ⟨⟨x_5, (), rfl, trivial, trivial⟩, hS.F ht⟩) hS.2.2 dX5_takingBy_28

theorem f_x_takingOf_rows : True := trivial
theorem dX5_takingOf_0 : decode cX5_takingOf 0 = .ok (.aload_n 0, 1) := by decide +kernel
theorem dX5_takingOf_1 : decode cX5_takingOf 1 = .ok (.aload_n 0, 1) := by decide +kernel
theorem dX5_takingOf_2 : decode cX5_takingOf 2 = .ok (.getfield 9, 3) := by decide +kernel
theorem dX5_takingOf_5 : decode cX5_takingOf 5 = .ok (.iconst 2, 1) := by decide +kernel
theorem dX5_takingOf_6 : decode cX5_takingOf 6 = .ok (.iaload, 1) := by decide +kernel
theorem dX5_takingOf_7 : decode cX5_takingOf 7 = .ok (.iload_n 1, 1) := by decide +kernel
theorem dX5_takingOf_8 : decode cX5_takingOf 8 = .ok (.iload_n 2, 1) := by decide +kernel
theorem dX5_takingOf_9 : decode cX5_takingOf 9 = .ok (.invokevirtual 132, 3) := by decide +kernel
theorem dX5_takingOf_12 : decode cX5_takingOf 12 = .ok (.ireturn, 1) := by decide +kernel
theorem dX5_garageOf_0 : decode cX5_garageOf 0 = .ok (.aload_n 0, 1) := by decide +kernel
theorem dX5_garageOf_1 : decode cX5_garageOf 1 = .ok (.getfield 9, 3) := by decide +kernel
theorem dX5_garageOf_4 : decode cX5_garageOf 4 = .ok (.bipush 9, 2) := by decide +kernel
theorem dX5_garageOf_6 : decode cX5_garageOf 6 = .ok (.iaload, 1) := by decide +kernel
theorem dX5_garageOf_7 : decode cX5_garageOf 7 = .ok (.aload_n 0, 1) := by decide +kernel
theorem dX5_garageOf_8 : decode cX5_garageOf 8 = .ok (.getfield 21, 3) := by decide +kernel
theorem dX5_garageOf_11 : decode cX5_garageOf 11 = .ok (.iload_n 1, 1) := by decide +kernel
theorem dX5_garageOf_12 : decode cX5_garageOf 12 = .ok (.iaload, 1) := by decide +kernel
theorem dX5_garageOf_13 : decode cX5_garageOf 13 = .ok (.iadd, 1) := by decide +kernel
theorem dX5_garageOf_14 : decode cX5_garageOf 14 = .ok (.sipush 1000, 3) := by decide +kernel
theorem dX5_garageOf_17 : decode cX5_garageOf 17 = .ok (.imul, 1) := by decide +kernel
theorem dX5_garageOf_18 : decode cX5_garageOf 18 = .ok (.ireturn, 1) := by decide +kernel
set_option maxHeartbeats 4000000 in
set_option maxRecDepth 100000 in
theorem x_garageOf (l : Launch) (D : va_G) (k : Nat → ClassId) (st : Nat → Nat) (lo : Nat) (h0 : Nat) (h1 : Nat) (h2 : Nat) (h3 : Nat) (h4 : Nat) (n : Nat) (see : Nat) (tm : Nat) (g : Nat → Int32) (fl : Nat → Int32) (rn : Nat) (hrn : rn ≤ 3) : CRi l D k st lo yX5_garageOf cX5_garageOf 2 (some .int) ({ frames := 0, cells := 0, slots := 0, locals := 0 }) [.ref h0, .int (nI rn)] [(h0, .inr (5, (fX5 h1 h2 h3 h4))), (aI k h1 10 (vv n see tm g)), (aI k h4 4 fl)] (fun _ => True) := by
  intro sz
  refine Met.ofW (cc := cX5_garageOf) (maxL := 2) (ret := (some .int)) (by decide) rfl ?_
  intro p e s m args below meth c s₁ B hml hv
  obtain ⟨rfl, hsz, hlo, hP, hK, hDL, hZ⟩ := hv
  have hx := B.exec
  have hb := B.bytes
  have hr := B.returns
  have hts := WS_ts B.pre
  have hown : s.vm.findClass RX5 = some m.cls := findClass_of_methodNamed B.named
  have hlocks := B.notSynchronized
  subst hsz
  have hA : ∀ q : Nat, s.heap.size ≤ q → (fun q : Nat => s.heap.size ≤ q) q := fun _ h => h
  have hAlo : ∀ q : Nat, (fun q : Nat => s.heap.size ≤ q) q → lo ≤ q := fun q h => Nat.le_trans hlo h
  have hS : va_S (fun q : Nat => s.heap.size ≤ q) s.heap s.heap [] := va_S.rf
  have hl := lv_entry ([.ref h0, .int (nI rn)]) (n := 2) (Nat.le_of_ble_eq_true rfl)
  rw [lg_entry_eq]
  generalize (lg_sl ([.ref h0, .int (nI rn)]) ++ List.replicate (2 - (lg_sl ([.ref h0, .int (nI rn)])).length) Slot.unset).toArray = ls at hl ⊢
  have hl : lv_has ls 2 [(0, .ref h0), (1, .int (nI rn))] := hl
  refine lv_aload_n hx hb dX5_garageOf_0 rfl (lv_at hl 0 rfl) ?_
  refine va_get (D := D) (ci := 5) (v := .ref h1) (C := RX5) (T := TX5) (N := 4) hx hb hts inX5 hown hK hP 0 rfl rfl 0 (by decide) (hts _ tw_146) (fun _ h9 => h9) rfl dX5_garageOf_1 ?_
  refine lv_bipush (v := 9) hx hb dX5_garageOf_4 (by decide) ?_
  refine va_iald hx hb hK hP 1 1 rfl rfl (by unfold vp_in; decide) dX5_garageOf_6 ?_
  refine lv_ti (y := (g 9)) (by rfl) ?_
  refine lv_aload_n hx hb dX5_garageOf_7 rfl (lv_at hl 0 rfl) ?_
  refine va_get (D := D) (ci := 5) (v := .ref h4) (C := RX5) (T := TX5) (N := 4) hx hb hts inX5 hown hK hP 0 rfl rfl 3 (by decide) (hts _ tw_154) (fun _ h9 => h9) rfl dX5_garageOf_8 ?_
  refine lv_iload_n hx hb dX5_garageOf_11 rfl (lv_at hl 1 rfl) ?_
  refine va_iald hx hb hK hP 2 1 rfl rfl (vp_in_nI (by omega) (by decide)) dX5_garageOf_12 ?_
  refine lv_ti (y := (fl rn)) (by rw [nI_clamp (by omega)]) ?_
  refine lv_iadd hx hb dX5_garageOf_13 ?_
  refine lv_topi (fun x_1 ex_1 => ?_)
  refine lv_sipush (v := 1000) hx hb dX5_garageOf_14 (by decide) ?_
  refine lv_imul hx hb dX5_garageOf_17 ?_
  refine lv_topi (fun x_2 ex_2 => ?_)
  exact W.iret (v := x_2) hx hb hr (fun t ht hW => ⟨⟨x_2, (), rfl, trivial, trivial⟩, hS.F ht⟩) hS.2.2 dX5_garageOf_18

theorem dX5_passing_0 : decode cX5_passing 0 = .ok (.aload_n 0, 1) := by decide +kernel
theorem dX5_passing_1 : decode cX5_passing 1 = .ok (.getfield 9, 3) := by decide +kernel
theorem dX5_passing_4 : decode cX5_passing 4 = .ok (.iconst 3, 1) := by decide +kernel
theorem dX5_passing_5 : decode cX5_passing 5 = .ok (.iaload, 1) := by decide +kernel
theorem dX5_passing_6 : decode cX5_passing 6 = .ok (.sipush 1000, 3) := by decide +kernel
theorem dX5_passing_9 : decode cX5_passing 9 = .ok (.imul, 1) := by decide +kernel
theorem dX5_passing_10 : decode cX5_passing 10 = .ok (.ireturn, 1) := by decide +kernel
set_option maxHeartbeats 4000000 in
set_option maxRecDepth 100000 in
theorem x_passing (l : Launch) (D : va_G) (k : Nat → ClassId) (st : Nat → Nat) (lo : Nat) (h0 : Nat) (h1 : Nat) (h2 : Nat) (h3 : Nat) (h4 : Nat) (n : Nat) (see : Nat) (tm : Nat) (g : Nat → Int32)  : CRi l D k st lo yX5_passing cX5_passing 1 (some .int) ({ frames := 0, cells := 0, slots := 0, locals := 0 }) [.ref h0] [(h0, .inr (5, (fX5 h1 h2 h3 h4))), (aI k h1 10 (vv n see tm g))] (fun _ => True) := by
  intro sz
  refine Met.ofW (cc := cX5_passing) (maxL := 1) (ret := (some .int)) (by decide) rfl ?_
  intro p e s m args below meth c s₁ B hml hv
  obtain ⟨rfl, hsz, hlo, hP, hK, hDL, hZ⟩ := hv
  have hx := B.exec
  have hb := B.bytes
  have hr := B.returns
  have hts := WS_ts B.pre
  have hown : s.vm.findClass RX5 = some m.cls := findClass_of_methodNamed B.named
  have hlocks := B.notSynchronized
  subst hsz
  have hA : ∀ q : Nat, s.heap.size ≤ q → (fun q : Nat => s.heap.size ≤ q) q := fun _ h => h
  have hAlo : ∀ q : Nat, (fun q : Nat => s.heap.size ≤ q) q → lo ≤ q := fun q h => Nat.le_trans hlo h
  have hS : va_S (fun q : Nat => s.heap.size ≤ q) s.heap s.heap [] := va_S.rf
  have hl := lv_entry ([.ref h0]) (n := 1) (Nat.le_of_ble_eq_true rfl)
  rw [lg_entry_eq]
  generalize (lg_sl ([.ref h0]) ++ List.replicate (1 - (lg_sl ([.ref h0])).length) Slot.unset).toArray = ls at hl ⊢
  have hl : lv_has ls 1 [(0, .ref h0)] := hl
  refine lv_aload_n hx hb dX5_passing_0 rfl (lv_at hl 0 rfl) ?_
  refine va_get (D := D) (ci := 5) (v := .ref h1) (C := RX5) (T := TX5) (N := 4) hx hb hts inX5 hown hK hP 0 rfl rfl 0 (by decide) (hts _ tw_146) (fun _ h9 => h9) rfl dX5_passing_1 ?_
  refine lv_iconst (v := 3) hx hb dX5_passing_4 (by decide) ?_
  refine va_iald hx hb hK hP 1 1 rfl rfl (by unfold vp_in; decide) dX5_passing_5 ?_
  refine lv_ti (y := (g 3)) (by rfl) ?_
  refine lv_sipush (v := 1000) hx hb dX5_passing_6 (by decide) ?_
  refine lv_imul hx hb dX5_passing_9 ?_
  refine lv_topi (fun x_1 ex_1 => ?_)
  exact W.iret (v := x_1) hx hb hr (fun t ht hW => ⟨⟨x_1, (), rfl, trivial, trivial⟩, hS.F ht⟩) hS.2.2 dX5_passing_10

theorem f_x_roundDrive_rows : True := trivial
theorem dX5_roundDrive_0 : decode cX5_roundDrive 0 = .ok (.aload_n 0, 1) := by decide +kernel
theorem dX5_roundDrive_1 : decode cX5_roundDrive 1 = .ok (.getfield 9, 3) := by decide +kernel
theorem dX5_roundDrive_4 : decode cX5_roundDrive 4 = .ok (.iconst 3, 1) := by decide +kernel
theorem dX5_roundDrive_5 : decode cX5_roundDrive 5 = .ok (.iaload, 1) := by decide +kernel
theorem dX5_roundDrive_6 : decode cX5_roundDrive 6 = .ok (.aload_n 0, 1) := by decide +kernel
theorem dX5_roundDrive_7 : decode cX5_roundDrive 7 = .ok (.getfield 9, 3) := by decide +kernel
theorem dX5_roundDrive_10 : decode cX5_roundDrive 10 = .ok (.bipush 7, 2) := by decide +kernel
theorem dX5_roundDrive_12 : decode cX5_roundDrive 12 = .ok (.iaload, 1) := by decide +kernel
theorem dX5_roundDrive_13 : decode cX5_roundDrive 13 = .ok (.imul, 1) := by decide +kernel
theorem dX5_roundDrive_14 : decode cX5_roundDrive 14 = .ok (.sipush 1000, 3) := by decide +kernel
theorem dX5_roundDrive_17 : decode cX5_roundDrive 17 = .ok (.imul, 1) := by decide +kernel
theorem dX5_roundDrive_18 : decode cX5_roundDrive 18 = .ok (.ireturn, 1) := by decide +kernel
theorem f_x_sightsAt_rows : True := trivial
theorem dX5_sightsAt_0 : decode cX5_sightsAt 0 = .ok (.iconst 1, 1) := by decide +kernel
theorem dX5_sightsAt_1 : decode cX5_sightsAt 1 = .ok (.aload_n 0, 1) := by decide +kernel
theorem dX5_sightsAt_2 : decode cX5_sightsAt 2 = .ok (.getfield 9, 3) := by decide +kernel
theorem dX5_sightsAt_5 : decode cX5_sightsAt 5 = .ok (.bipush 6, 2) := by decide +kernel
theorem dX5_sightsAt_7 : decode cX5_sightsAt 7 = .ok (.iaload, 1) := by decide +kernel
theorem dX5_sightsAt_8 : decode cX5_sightsAt 8 = .ok (.iconst 1, 1) := by decide +kernel
theorem dX5_sightsAt_9 : decode cX5_sightsAt 9 = .ok (.iadd, 1) := by decide +kernel
theorem dX5_sightsAt_10 : decode cX5_sightsAt 10 = .ok (.aload_n 0, 1) := by decide +kernel
theorem dX5_sightsAt_11 : decode cX5_sightsAt 11 = .ok (.getfield 9, 3) := by decide +kernel
theorem dX5_sightsAt_14 : decode cX5_sightsAt 14 = .ok (.iconst 0, 1) := by decide +kernel
theorem dX5_sightsAt_15 : decode cX5_sightsAt 15 = .ok (.iaload, 1) := by decide +kernel
theorem dX5_sightsAt_16 : decode cX5_sightsAt 16 = .ok (.iload_n 1, 1) := by decide +kernel
theorem dX5_sightsAt_17 : decode cX5_sightsAt 17 = .ok (.isub, 1) := by decide +kernel
theorem dX5_sightsAt_18 : decode cX5_sightsAt 18 = .ok (.invokestatic 129, 3) := by decide +kernel
theorem dX5_sightsAt_21 : decode cX5_sightsAt 21 = .ok (.ishl, 1) := by decide +kernel
theorem dX5_sightsAt_22 : decode cX5_sightsAt 22 = .ok (.ireturn, 1) := by decide +kernel

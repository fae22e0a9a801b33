theorem x_glue3 : True := trivial
theorem clsplit {n : Nat} (h : 1 ≤ n ∧ n ≤ 9 ∧ n ≠ 8) : n = 1 ∨ n = 2 ∨ n = 3 ∨ n = 4 ∨ n = 5 ∨ n = 6 ∨ n = 7 ∨ n = 9 := by omega

theorem dX5_wordOf_0 : decode cX5_wordOf 0 = .ok (.iload_n 0, 1) := by decide +kernel
theorem dX5_wordOf_1 : decode cX5_wordOf 1 = .ok (.tableswitch 78 0 8 #[51, 54, 57, 60, 63, 66, 69, 72, 75], 51) := by decide +kernel
theorem dX5_wordOf_52 : decode cX5_wordOf 52 = .ok (.ldc 87, 2) := by decide +kernel
theorem dX5_wordOf_54 : decode cX5_wordOf 54 = .ok (.areturn, 1) := by decide +kernel
set_option maxHeartbeats 4000000 in
set_option maxRecDepth 100000 in
theorem x_wordOf_0 (l : Launch) (D : va_G) (k : Nat → ClassId) (st : Nat → Nat) (lo : Nat)   : CRr l D k st lo yX5_wordOf cX5_wordOf 1 (some (.object "java/lang/String")) ({ frames := 0, cells := 0, slots := 0, locals := 0 }) [.int 0] [] (st (100 + 0)) := by
  intro sz
  refine Met.ofW (cc := cX5_wordOf) (maxL := 1) (ret := (some (.object "java/lang/String"))) (by decide) rfl ?_
  intro p e s m args below meth c s₁ B hml hv
  obtain ⟨rfl, hsz, hlo, hP, hK, hDL, hZ⟩ := hv
  have hx := B.exec
  have hb := B.bytes
  have hr := B.returns
  have hts := WS_ts B.pre
  have hown : s.vm.findClass RX5 = some m.cls := findClass_of_methodNamed B.named
  have hlocks := B.notSynchronized
  subst hsz
  have hA : ∀ q : Nat, s.heap.size ≤ q → (fun q : Nat => s.heap.size ≤ q) q := fun _ h => h
  have hAlo : ∀ q : Nat, (fun q : Nat => s.heap.size ≤ q) q → lo ≤ q := fun q h => Nat.le_trans hlo h
  have hS : va_S (fun q : Nat => s.heap.size ≤ q) s.heap s.heap [] := va_S.rf
  have hl := lv_entry ([.int 0]) (n := 1) (Nat.le_of_ble_eq_true rfl)
  rw [lg_entry_eq]
  generalize (lg_sl ([.int 0]) ++ List.replicate (1 - (lg_sl ([.int 0])).length) Slot.unset).toArray = ls at hl ⊢
  have hl : lv_has ls 1 [(0, .int 0)] := hl
  refine lv_iload_n hx hb dX5_wordOf_0 rfl (lv_at hl 0 rfl) ?_
  refine lv_tableIn (tgt := 52) hx hb dX5_wordOf_1 (by decide) (by decide) rfl (by decide) ?_
  refine va_ldcS hx hb hown (hZ.2.2.2.2.2.2.2.2.2.2 (RX5, 87, "doors", 0) (List.mem_of_getElem? (i := 0) rfl)) dX5_wordOf_52 ?_
  exact W.aret (v := .ref (st (100 + 0))) hx hb hr (.inl ⟨_, rfl⟩) (.inr ⟨_, rfl⟩) (fun t ht hW => ⟨⟨(), _, rfl, trivial, rfl⟩, hS.F ht⟩) hS.2.2 dX5_wordOf_54

theorem dX5_wordOf_55 : decode cX5_wordOf 55 = .ok (.ldc 88, 2) := by decide +kernel
theorem dX5_wordOf_57 : decode cX5_wordOf 57 = .ok (.areturn, 1) := by decide +kernel
set_option maxHeartbeats 4000000 in
set_option maxRecDepth 100000 in
theorem x_wordOf_1 (l : Launch) (D : va_G) (k : Nat → ClassId) (st : Nat → Nat) (lo : Nat)   : CRr l D k st lo yX5_wordOf cX5_wordOf 1 (some (.object "java/lang/String")) ({ frames := 0, cells := 0, slots := 0, locals := 0 }) [.int 1] [] (st (100 + 1)) := by
  intro sz
  refine Met.ofW (cc := cX5_wordOf) (maxL := 1) (ret := (some (.object "java/lang/String"))) (by decide) rfl ?_
  intro p e s m args below meth c s₁ B hml hv
  obtain ⟨rfl, hsz, hlo, hP, hK, hDL, hZ⟩ := hv
  have hx := B.exec
  have hb := B.bytes
  have hr := B.returns
  have hts := WS_ts B.pre
  have hown : s.vm.findClass RX5 = some m.cls := findClass_of_methodNamed B.named
  have hlocks := B.notSynchronized
  subst hsz
  have hA : ∀ q : Nat, s.heap.size ≤ q → (fun q : Nat => s.heap.size ≤ q) q := fun _ h => h
  have hAlo : ∀ q : Nat, (fun q : Nat => s.heap.size ≤ q) q → lo ≤ q := fun q h => Nat.le_trans hlo h
  have hS : va_S (fun q : Nat => s.heap.size ≤ q) s.heap s.heap [] := va_S.rf
  have hl := lv_entry ([.int 1]) (n := 1) (Nat.le_of_ble_eq_true rfl)
  rw [lg_entry_eq]
  generalize (lg_sl ([.int 1]) ++ List.replicate (1 - (lg_sl ([.int 1])).length) Slot.unset).toArray = ls at hl ⊢
  have hl : lv_has ls 1 [(0, .int 1)] := hl
  refine lv_iload_n hx hb dX5_wordOf_0 rfl (lv_at hl 0 rfl) ?_
  refine lv_tableIn (tgt := 55) hx hb dX5_wordOf_1 (by decide) (by decide) rfl (by decide) ?_
  refine va_ldcS hx hb hown (hZ.2.2.2.2.2.2.2.2.2.2 (RX5, 88, "alike", 1) (List.mem_of_getElem? (i := 1) rfl)) dX5_wordOf_55 ?_
  exact W.aret (v := .ref (st (100 + 1))) hx hb hr (.inl ⟨_, rfl⟩) (.inr ⟨_, rfl⟩) (fun t ht hW => ⟨⟨(), _, rfl, trivial, rfl⟩, hS.F ht⟩) hS.2.2 dX5_wordOf_57

theorem dX5_wordOf_58 : decode cX5_wordOf 58 = .ok (.ldc 90, 2) := by decide +kernel
theorem dX5_wordOf_60 : decode cX5_wordOf 60 = .ok (.areturn, 1) := by decide +kernel
set_option maxHeartbeats 4000000 in
set_option maxRecDepth 100000 in
theorem x_wordOf_2 (l : Launch) (D : va_G) (k : Nat → ClassId) (st : Nat → Nat) (lo : Nat)   : CRr l D k st lo yX5_wordOf cX5_wordOf 1 (some (.object "java/lang/String")) ({ frames := 0, cells := 0, slots := 0, locals := 0 }) [.int 2] [] (st (100 + 2)) := by
  intro sz
  refine Met.ofW (cc := cX5_wordOf) (maxL := 1) (ret := (some (.object "java/lang/String"))) (by decide) rfl ?_
  intro p e s m args below meth c s₁ B hml hv
  obtain ⟨rfl, hsz, hlo, hP, hK, hDL, hZ⟩ := hv
  have hx := B.exec
  have hb := B.bytes
  have hr := B.returns
  have hts := WS_ts B.pre
  have hown : s.vm.findClass RX5 = some m.cls := findClass_of_methodNamed B.named
  have hlocks := B.notSynchronized
  subst hsz
  have hA : ∀ q : Nat, s.heap.size ≤ q → (fun q : Nat => s.heap.size ≤ q) q := fun _ h => h
  have hAlo : ∀ q : Nat, (fun q : Nat => s.heap.size ≤ q) q → lo ≤ q := fun q h => Nat.le_trans hlo h
  have hS : va_S (fun q : Nat => s.heap.size ≤ q) s.heap s.heap [] := va_S.rf
  have hl := lv_entry ([.int 2]) (n := 1) (Nat.le_of_ble_eq_true rfl)
  rw [lg_entry_eq]
  generalize (lg_sl ([.int 2]) ++ List.replicate (1 - (lg_sl ([.int 2])).length) Slot.unset).toArray = ls at hl ⊢
  have hl : lv_has ls 1 [(0, .int 2)] := hl
  refine lv_iload_n hx hb dX5_wordOf_0 rfl (lv_at hl 0 rfl) ?_
  refine lv_tableIn (tgt := 58) hx hb dX5_wordOf_1 (by decide) (by decide) rfl (by decide) ?_
  refine va_ldcS hx hb hown (hZ.2.2.2.2.2.2.2.2.2.2 (RX5, 90, "walk", 2) (List.mem_of_getElem? (i := 2) rfl)) dX5_wordOf_58 ?_
  exact W.aret (v := .ref (st (100 + 2))) hx hb hr (.inl ⟨_, rfl⟩) (.inr ⟨_, rfl⟩) (fun t ht hW => ⟨⟨(), _, rfl, trivial, rfl⟩, hS.F ht⟩) hS.2.2 dX5_wordOf_60

theorem dX5_wordOf_61 : decode cX5_wordOf 61 = .ok (.ldc 92, 2) := by decide +kernel
theorem dX5_wordOf_63 : decode cX5_wordOf 63 = .ok (.areturn, 1) := by decide +kernel
set_option maxHeartbeats 4000000 in
set_option maxRecDepth 100000 in
theorem x_wordOf_3 (l : Launch) (D : va_G) (k : Nat → ClassId) (st : Nat → Nat) (lo : Nat)   : CRr l D k st lo yX5_wordOf cX5_wordOf 1 (some (.object "java/lang/String")) ({ frames := 0, cells := 0, slots := 0, locals := 0 }) [.int 3] [] (st (100 + 3)) := by
  intro sz
  refine Met.ofW (cc := cX5_wordOf) (maxL := 1) (ret := (some (.object "java/lang/String"))) (by decide) rfl ?_
  intro p e s m args below meth c s₁ B hml hv
  obtain ⟨rfl, hsz, hlo, hP, hK, hDL, hZ⟩ := hv
  have hx := B.exec
  have hb := B.bytes
  have hr := B.returns
  have hts := WS_ts B.pre
  have hown : s.vm.findClass RX5 = some m.cls := findClass_of_methodNamed B.named
  have hlocks := B.notSynchronized
  subst hsz
  have hA : ∀ q : Nat, s.heap.size ≤ q → (fun q : Nat => s.heap.size ≤ q) q := fun _ h => h
  have hAlo : ∀ q : Nat, (fun q : Nat => s.heap.size ≤ q) q → lo ≤ q := fun q h => Nat.le_trans hlo h
  have hS : va_S (fun q : Nat => s.heap.size ≤ q) s.heap s.heap [] := va_S.rf
  have hl := lv_entry ([.int 3]) (n := 1) (Nat.le_of_ble_eq_true rfl)
  rw [lg_entry_eq]
  generalize (lg_sl ([.int 3]) ++ List.replicate (1 - (lg_sl ([.int 3])).length) Slot.unset).toArray = ls at hl ⊢
  have hl : lv_has ls 1 [(0, .int 3)] := hl
  refine lv_iload_n hx hb dX5_wordOf_0 rfl (lv_at hl 0 rfl) ?_
  refine lv_tableIn (tgt := 61) hx hb dX5_wordOf_1 (by decide) (by decide) rfl (by decide) ?_
  refine va_ldcS hx hb hown (hZ.2.2.2.2.2.2.2.2.2.2 (RX5, 92, "drive", 3) (List.mem_of_getElem? (i := 3) rfl)) dX5_wordOf_61 ?_
  exact W.aret (v := .ref (st (100 + 3))) hx hb hr (.inl ⟨_, rfl⟩) (.inr ⟨_, rfl⟩) (fun t ht hW => ⟨⟨(), _, rfl, trivial, rfl⟩, hS.F ht⟩) hS.2.2 dX5_wordOf_63

theorem dX5_wordOf_64 : decode cX5_wordOf 64 = .ok (.ldc 94, 2) := by decide +kernel
theorem dX5_wordOf_66 : decode cX5_wordOf 66 = .ok (.areturn, 1) := by decide +kernel
set_option maxHeartbeats 4000000 in
set_option maxRecDepth 100000 in
theorem x_wordOf_4 (l : Launch) (D : va_G) (k : Nat → ClassId) (st : Nat → Nat) (lo : Nat)   : CRr l D k st lo yX5_wordOf cX5_wordOf 1 (some (.object "java/lang/String")) ({ frames := 0, cells := 0, slots := 0, locals := 0 }) [.int 4] [] (st (100 + 4)) := by
  intro sz
  refine Met.ofW (cc := cX5_wordOf) (maxL := 1) (ret := (some (.object "java/lang/String"))) (by decide) rfl ?_
  intro p e s m args below meth c s₁ B hml hv
  obtain ⟨rfl, hsz, hlo, hP, hK, hDL, hZ⟩ := hv
  have hx := B.exec
  have hb := B.bytes
  have hr := B.returns
  have hts := WS_ts B.pre
  have hown : s.vm.findClass RX5 = some m.cls := findClass_of_methodNamed B.named
  have hlocks := B.notSynchronized
  subst hsz
  have hA : ∀ q : Nat, s.heap.size ≤ q → (fun q : Nat => s.heap.size ≤ q) q := fun _ h => h
  have hAlo : ∀ q : Nat, (fun q : Nat => s.heap.size ≤ q) q → lo ≤ q := fun q h => Nat.le_trans hlo h
  have hS : va_S (fun q : Nat => s.heap.size ≤ q) s.heap s.heap [] := va_S.rf
  have hl := lv_entry ([.int 4]) (n := 1) (Nat.le_of_ble_eq_true rfl)
  rw [lg_entry_eq]
  generalize (lg_sl ([.int 4]) ++ List.replicate (1 - (lg_sl ([.int 4])).length) Slot.unset).toArray = ls at hl ⊢
  have hl : lv_has ls 1 [(0, .int 4)] := hl
  refine lv_iload_n hx hb dX5_wordOf_0 rfl (lv_at hl 0 rfl) ?_
  refine lv_tableIn (tgt := 64) hx hb dX5_wordOf_1 (by decide) (by decide) rfl (by decide) ?_
  refine va_ldcS hx hb hown (hZ.2.2.2.2.2.2.2.2.2.2 (RX5, 94, "late", 4) (List.mem_of_getElem? (i := 4) rfl)) dX5_wordOf_64 ?_
  exact W.aret (v := .ref (st (100 + 4))) hx hb hr (.inl ⟨_, rfl⟩) (.inr ⟨_, rfl⟩) (fun t ht hW => ⟨⟨(), _, rfl, trivial, rfl⟩, hS.F ht⟩) hS.2.2 dX5_wordOf_66

theorem dX5_wordOf_67 : decode cX5_wordOf 67 = .ok (.ldc 96, 2) := by decide +kernel
theorem dX5_wordOf_69 : decode cX5_wordOf 69 = .ok (.areturn, 1) := by decide +kernel
set_option maxHeartbeats 4000000 in
set_option maxRecDepth 100000 in
theorem x_wordOf_5 (l : Launch) (D : va_G) (k : Nat → ClassId) (st : Nat → Nat) (lo : Nat)   : CRr l D k st lo yX5_wordOf cX5_wordOf 1 (some (.object "java/lang/String")) ({ frames := 0, cells := 0, slots := 0, locals := 0 }) [.int 5] [] (st (100 + 5)) := by
  intro sz
  refine Met.ofW (cc := cX5_wordOf) (maxL := 1) (ret := (some (.object "java/lang/String"))) (by decide) rfl ?_
  intro p e s m args below meth c s₁ B hml hv
  obtain ⟨rfl, hsz, hlo, hP, hK, hDL, hZ⟩ := hv
  have hx := B.exec
  have hb := B.bytes
  have hr := B.returns
  have hts := WS_ts B.pre
  have hown : s.vm.findClass RX5 = some m.cls := findClass_of_methodNamed B.named
  have hlocks := B.notSynchronized
  subst hsz
  have hA : ∀ q : Nat, s.heap.size ≤ q → (fun q : Nat => s.heap.size ≤ q) q := fun _ h => h
  have hAlo : ∀ q : Nat, (fun q : Nat => s.heap.size ≤ q) q → lo ≤ q := fun q h => Nat.le_trans hlo h
  have hS : va_S (fun q : Nat => s.heap.size ≤ q) s.heap s.heap [] := va_S.rf
  have hl := lv_entry ([.int 5]) (n := 1) (Nat.le_of_ble_eq_true rfl)
  rw [lg_entry_eq]
  generalize (lg_sl ([.int 5]) ++ List.replicate (1 - (lg_sl ([.int 5])).length) Slot.unset).toArray = ls at hl ⊢
  have hl : lv_has ls 1 [(0, .int 5)] := hl
  refine lv_iload_n hx hb dX5_wordOf_0 rfl (lv_at hl 0 rfl) ?_
  refine lv_tableIn (tgt := 67) hx hb dX5_wordOf_1 (by decide) (by decide) rfl (by decide) ?_
  refine va_ldcS hx hb hown (hZ.2.2.2.2.2.2.2.2.2.2 (RX5, 96, "curtain", 5) (List.mem_of_getElem? (i := 5) rfl)) dX5_wordOf_67 ?_
  exact W.aret (v := .ref (st (100 + 5))) hx hb hr (.inl ⟨_, rfl⟩) (.inr ⟨_, rfl⟩) (fun t ht hW => ⟨⟨(), _, rfl, trivial, rfl⟩, hS.F ht⟩) hS.2.2 dX5_wordOf_69

theorem dX5_wordOf_70 : decode cX5_wordOf 70 = .ok (.ldc 98, 2) := by decide +kernel
theorem dX5_wordOf_72 : decode cX5_wordOf 72 = .ok (.areturn, 1) := by decide +kernel
set_option maxHeartbeats 4000000 in
set_option maxRecDepth 100000 in
theorem x_wordOf_6 (l : Launch) (D : va_G) (k : Nat → ClassId) (st : Nat → Nat) (lo : Nat)   : CRr l D k st lo yX5_wordOf cX5_wordOf 1 (some (.object "java/lang/String")) ({ frames := 0, cells := 0, slots := 0, locals := 0 }) [.int 6] [] (st (100 + 6)) := by
  intro sz
  refine Met.ofW (cc := cX5_wordOf) (maxL := 1) (ret := (some (.object "java/lang/String"))) (by decide) rfl ?_
  intro p e s m args below meth c s₁ B hml hv
  obtain ⟨rfl, hsz, hlo, hP, hK, hDL, hZ⟩ := hv
  have hx := B.exec
  have hb := B.bytes
  have hr := B.returns
  have hts := WS_ts B.pre
  have hown : s.vm.findClass RX5 = some m.cls := findClass_of_methodNamed B.named
  have hlocks := B.notSynchronized
  subst hsz
  have hA : ∀ q : Nat, s.heap.size ≤ q → (fun q : Nat => s.heap.size ≤ q) q := fun _ h => h
  have hAlo : ∀ q : Nat, (fun q : Nat => s.heap.size ≤ q) q → lo ≤ q := fun q h => Nat.le_trans hlo h
  have hS : va_S (fun q : Nat => s.heap.size ≤ q) s.heap s.heap [] := va_S.rf
  have hl := lv_entry ([.int 6]) (n := 1) (Nat.le_of_ble_eq_true rfl)
  rw [lg_entry_eq]
  generalize (lg_sl ([.int 6]) ++ List.replicate (1 - (lg_sl ([.int 6])).length) Slot.unset).toArray = ls at hl ⊢
  have hl : lv_has ls 1 [(0, .int 6)] := hl
  refine lv_iload_n hx hb dX5_wordOf_0 rfl (lv_at hl 0 rfl) ?_
  refine lv_tableIn (tgt := 70) hx hb dX5_wordOf_1 (by decide) (by decide) rfl (by decide) ?_
  refine va_ldcS hx hb hown (hZ.2.2.2.2.2.2.2.2.2.2 (RX5, 98, "see", 6) (List.mem_of_getElem? (i := 6) rfl)) dX5_wordOf_70 ?_
  exact W.aret (v := .ref (st (100 + 6))) hx hb hr (.inl ⟨_, rfl⟩) (.inr ⟨_, rfl⟩) (fun t ht hW => ⟨⟨(), _, rfl, trivial, rfl⟩, hS.F ht⟩) hS.2.2 dX5_wordOf_72

theorem dX5_wordOf_73 : decode cX5_wordOf 73 = .ok (.ldc 100, 2) := by decide +kernel
theorem dX5_wordOf_75 : decode cX5_wordOf 75 = .ok (.areturn, 1) := by decide +kernel
set_option maxHeartbeats 4000000 in
set_option maxRecDepth 100000 in
theorem x_wordOf_7 (l : Launch) (D : va_G) (k : Nat → ClassId) (st : Nat → Nat) (lo : Nat)   : CRr l D k st lo yX5_wordOf cX5_wordOf 1 (some (.object "java/lang/String")) ({ frames := 0, cells := 0, slots := 0, locals := 0 }) [.int 7] [] (st (100 + 7)) := by
  intro sz
  refine Met.ofW (cc := cX5_wordOf) (maxL := 1) (ret := (some (.object "java/lang/String"))) (by decide) rfl ?_
  intro p e s m args below meth c s₁ B hml hv
  obtain ⟨rfl, hsz, hlo, hP, hK, hDL, hZ⟩ := hv
  have hx := B.exec
  have hb := B.bytes
  have hr := B.returns
  have hts := WS_ts B.pre
  have hown : s.vm.findClass RX5 = some m.cls := findClass_of_methodNamed B.named
  have hlocks := B.notSynchronized
  subst hsz
  have hA : ∀ q : Nat, s.heap.size ≤ q → (fun q : Nat => s.heap.size ≤ q) q := fun _ h => h
  have hAlo : ∀ q : Nat, (fun q : Nat => s.heap.size ≤ q) q → lo ≤ q := fun q h => Nat.le_trans hlo h
  have hS : va_S (fun q : Nat => s.heap.size ≤ q) s.heap s.heap [] := va_S.rf
  have hl := lv_entry ([.int 7]) (n := 1) (Nat.le_of_ble_eq_true rfl)
  rw [lg_entry_eq]
  generalize (lg_sl ([.int 7]) ++ List.replicate (1 - (lg_sl ([.int 7])).length) Slot.unset).toArray = ls at hl ⊢
  have hl : lv_has ls 1 [(0, .int 7)] := hl
  refine lv_iload_n hx hb dX5_wordOf_0 rfl (lv_at hl 0 rfl) ?_
  refine lv_tableIn (tgt := 73) hx hb dX5_wordOf_1 (by decide) (by decide) rfl (by decide) ?_
  refine va_ldcS hx hb hown (hZ.2.2.2.2.2.2.2.2.2.2 (RX5, 100, "round", 7) (List.mem_of_getElem? (i := 7) rfl)) dX5_wordOf_73 ?_
  exact W.aret (v := .ref (st (100 + 7))) hx hb hr (.inl ⟨_, rfl⟩) (.inr ⟨_, rfl⟩) (fun t ht hW => ⟨⟨(), _, rfl, trivial, rfl⟩, hS.F ht⟩) hS.2.2 dX5_wordOf_75

theorem dX5_wordOf_76 : decode cX5_wordOf 76 = .ok (.ldc 102, 2) := by decide +kernel
theorem dX5_wordOf_78 : decode cX5_wordOf 78 = .ok (.areturn, 1) := by decide +kernel
set_option maxHeartbeats 4000000 in
set_option maxRecDepth 100000 in
theorem x_wordOf_8 (l : Launch) (D : va_G) (k : Nat → ClassId) (st : Nat → Nat) (lo : Nat)   : CRr l D k st lo yX5_wordOf cX5_wordOf 1 (some (.object "java/lang/String")) ({ frames := 0, cells := 0, slots := 0, locals := 0 }) [.int 8] [] (st (100 + 8)) := by
  intro sz
  refine Met.ofW (cc := cX5_wordOf) (maxL := 1) (ret := (some (.object "java/lang/String"))) (by decide) rfl ?_
  intro p e s m args below meth c s₁ B hml hv
  obtain ⟨rfl, hsz, hlo, hP, hK, hDL, hZ⟩ := hv
  have hx := B.exec
  have hb := B.bytes
  have hr := B.returns
  have hts := WS_ts B.pre
  have hown : s.vm.findClass RX5 = some m.cls := findClass_of_methodNamed B.named
  have hlocks := B.notSynchronized
  subst hsz
  have hA : ∀ q : Nat, s.heap.size ≤ q → (fun q : Nat => s.heap.size ≤ q) q := fun _ h => h
  have hAlo : ∀ q : Nat, (fun q : Nat => s.heap.size ≤ q) q → lo ≤ q := fun q h => Nat.le_trans hlo h
  have hS : va_S (fun q : Nat => s.heap.size ≤ q) s.heap s.heap [] := va_S.rf
  have hl := lv_entry ([.int 8]) (n := 1) (Nat.le_of_ble_eq_true rfl)
  rw [lg_entry_eq]
  generalize (lg_sl ([.int 8]) ++ List.replicate (1 - (lg_sl ([.int 8])).length) Slot.unset).toArray = ls at hl ⊢
  have hl : lv_has ls 1 [(0, .int 8)] := hl
  refine lv_iload_n hx hb dX5_wordOf_0 rfl (lv_at hl 0 rfl) ?_
  refine lv_tableIn (tgt := 76) hx hb dX5_wordOf_1 (by decide) (by decide) rfl (by decide) ?_
  refine va_ldcS hx hb hown (hZ.2.2.2.2.2.2.2.2.2.2 (RX5, 102, "times", 8) (List.mem_of_getElem? (i := 8) rfl)) dX5_wordOf_76 ?_
  exact W.aret (v := .ref (st (100 + 8))) hx hb hr (.inl ⟨_, rfl⟩) (.inr ⟨_, rfl⟩) (fun t ht hW => ⟨⟨(), _, rfl, trivial, rfl⟩, hS.F ht⟩) hS.2.2 dX5_wordOf_78

theorem dX5_wordOf_79 : decode cX5_wordOf 79 = .ok (.ldc 104, 2) := by decide +kernel
theorem dX5_wordOf_81 : decode cX5_wordOf 81 = .ok (.areturn, 1) := by decide +kernel
set_option maxHeartbeats 4000000 in
set_option maxRecDepth 100000 in
theorem x_wordOf_9 (l : Launch) (D : va_G) (k : Nat → ClassId) (st : Nat → Nat) (lo : Nat)   : CRr l D k st lo yX5_wordOf cX5_wordOf 1 (some (.object "java/lang/String")) ({ frames := 0, cells := 0, slots := 0, locals := 0 }) [.int 9] [] (st (100 + 9)) := by
  intro sz
  refine Met.ofW (cc := cX5_wordOf) (maxL := 1) (ret := (some (.object "java/lang/String"))) (by decide) rfl ?_
  intro p e s m args below meth c s₁ B hml hv
  obtain ⟨rfl, hsz, hlo, hP, hK, hDL, hZ⟩ := hv
  have hx := B.exec
  have hb := B.bytes
  have hr := B.returns
  have hts := WS_ts B.pre
  have hown : s.vm.findClass RX5 = some m.cls := findClass_of_methodNamed B.named
  have hlocks := B.notSynchronized
  subst hsz
  have hA : ∀ q : Nat, s.heap.size ≤ q → (fun q : Nat => s.heap.size ≤ q) q := fun _ h => h
  have hAlo : ∀ q : Nat, (fun q : Nat => s.heap.size ≤ q) q → lo ≤ q := fun q h => Nat.le_trans hlo h
  have hS : va_S (fun q : Nat => s.heap.size ≤ q) s.heap s.heap [] := va_S.rf
  have hl := lv_entry ([.int 9]) (n := 1) (Nat.le_of_ble_eq_true rfl)
  rw [lg_entry_eq]
  generalize (lg_sl ([.int 9]) ++ List.replicate (1 - (lg_sl ([.int 9])).length) Slot.unset).toArray = ls at hl ⊢
  have hl : lv_has ls 1 [(0, .int 9)] := hl
  refine lv_iload_n hx hb dX5_wordOf_0 rfl (lv_at hl 0 rfl) ?_
  refine lv_tableOut (tgt := 79) hx hb dX5_wordOf_1 (by decide) (by decide) ?_
  refine va_ldcS hx hb hown (hZ.2.2.2.2.2.2.2.2.2.2 (RX5, 104, "garage", 9) (List.mem_of_getElem? (i := 9) rfl)) dX5_wordOf_79 ?_
  exact W.aret (v := .ref (st (100 + 9))) hx hb hr (.inl ⟨_, rfl⟩) (.inr ⟨_, rfl⟩) (fun t ht hW => ⟨⟨(), _, rfl, trivial, rfl⟩, hS.F ht⟩) hS.2.2 dX5_wordOf_81

theorem dX5_doors_0 : decode cX5_doors 0 = .ok (.aload_n 0, 1) := by decide +kernel
theorem dX5_doors_1 : decode cX5_doors 1 = .ok (.getfield 9, 3) := by decide +kernel
theorem dX5_doors_4 : decode cX5_doors 4 = .ok (.iconst 0, 1) := by decide +kernel
theorem dX5_doors_5 : decode cX5_doors 5 = .ok (.iaload, 1) := by decide +kernel
theorem dX5_doors_6 : decode cX5_doors 6 = .ok (.ireturn, 1) := by decide +kernel
set_option maxHeartbeats 4000000 in
set_option maxRecDepth 100000 in
theorem x_doors (l : Launch) (D : va_G) (k : Nat → ClassId) (st : Nat → Nat) (lo : Nat) (h0 : Nat) (h1 : Nat) (h2 : Nat) (h3 : Nat) (h4 : Nat) (n : Nat) (see : Nat) (tm : Nat) (g : Nat → Int32)  : CRi l D k st lo yX5_doors cX5_doors 1 (some .int) ({ frames := 0, cells := 0, slots := 0, locals := 0 }) [.ref h0] [(h0, .inr (5, (fX5 h1 h2 h3 h4))), (aI k h1 10 (vv n see tm g))] (fun r => r = nI n) := by
  intro sz
  refine Met.ofW (cc := cX5_doors) (maxL := 1) (ret := (some .int)) (by decide) rfl ?_
  intro p e s m args below meth c s₁ B hml hv
  obtain ⟨rfl, hsz, hlo, hP, hK, hDL, hZ⟩ := hv
  have hx := B.exec
  have hb := B.bytes
  have hr := B.returns
  have hts := WS_ts B.pre
  have hown : s.vm.findClass RX5 = some m.cls := findClass_of_methodNamed B.named
  have hlocks := B.notSynchronized
  subst hsz
  have hA : ∀ q : Nat, s.heap.size ≤ q → (fun q : Nat => s.heap.size ≤ q) q := fun _ h => h
  have hAlo : ∀ q : Nat, (fun q : Nat => s.heap.size ≤ q) q → lo ≤ q := fun q h => Nat.le_trans hlo h
  have hS : va_S (fun q : Nat => s.heap.size ≤ q) s.heap s.heap [] := va_S.rf
  have hl := lv_entry ([.ref h0]) (n := 1) (Nat.le_of_ble_eq_true rfl)
  rw [lg_entry_eq]
  generalize (lg_sl ([.ref h0]) ++ List.replicate (1 - (lg_sl ([.ref h0])).length) Slot.unset).toArray = ls at hl ⊢
  have hl : lv_has ls 1 [(0, .ref h0)] := hl
  refine lv_aload_n hx hb dX5_doors_0 rfl (lv_at hl 0 rfl) ?_
  refine va_get (D := D) (ci := 5) (v := .ref h1) (C := RX5) (T := TX5) (N := 4) hx hb hts inX5 hown hK hP 0 rfl rfl 0 (by decide) (hts _ tw_146) (fun _ h9 => h9) rfl dX5_doors_1 ?_
  refine lv_iconst (v := 0) hx hb dX5_doors_4 (by decide) ?_
  refine va_iald hx hb hK hP 1 1 rfl rfl (by unfold vp_in; decide) dX5_doors_5 ?_
  refine lv_ti (y := (nI n)) (by rfl) ?_
  exact W.iret (v := (nI n)) hx hb hr (fun t ht hW => ⟨⟨(nI n), (), rfl, rfl, trivial⟩, hS.F ht⟩) hS.2.2 dX5_doors_6

theorem dX5_arrivalOf_0 : decode cX5_arrivalOf 0 = .ok (.iload_n 1, 1) := by decide +kernel
theorem dX5_arrivalOf_1 : decode cX5_arrivalOf 1 = .ok (.aload_n 0, 1) := by decide +kernel
theorem dX5_arrivalOf_2 : decode cX5_arrivalOf 2 = .ok (.getfield 9, 3) := by decide +kernel
theorem dX5_arrivalOf_5 : decode cX5_arrivalOf 5 = .ok (.iconst 0, 1) := by decide +kernel
theorem dX5_arrivalOf_6 : decode cX5_arrivalOf 6 = .ok (.iaload, 1) := by decide +kernel
theorem dX5_arrivalOf_7 : decode cX5_arrivalOf 7 = .ok (.aload_n 0, 1) := by decide +kernel
theorem dX5_arrivalOf_8 : decode cX5_arrivalOf 8 = .ok (.getfield 9, 3) := by decide +kernel
theorem dX5_arrivalOf_11 : decode cX5_arrivalOf 11 = .ok (.bipush 7, 2) := by decide +kernel
theorem dX5_arrivalOf_13 : decode cX5_arrivalOf 13 = .ok (.iaload, 1) := by decide +kernel
theorem dX5_arrivalOf_14 : decode cX5_arrivalOf 14 = .ok (.iadd, 1) := by decide +kernel
theorem dX5_arrivalOf_15 : decode cX5_arrivalOf 15 = .ok (.imul, 1) := by decide +kernel
theorem dX5_arrivalOf_16 : decode cX5_arrivalOf 16 = .ok (.aload_n 0, 1) := by decide +kernel
theorem dX5_arrivalOf_17 : decode cX5_arrivalOf 17 = .ok (.getfield 9, 3) := by decide +kernel
theorem dX5_arrivalOf_20 : decode cX5_arrivalOf 20 = .ok (.iconst 0, 1) := by decide +kernel
theorem dX5_arrivalOf_21 : decode cX5_arrivalOf 21 = .ok (.iaload, 1) := by decide +kernel
theorem dX5_arrivalOf_22 : decode cX5_arrivalOf 22 = .ok (.iadd, 1) := by decide +kernel
theorem dX5_arrivalOf_23 : decode cX5_arrivalOf 23 = .ok (.ireturn, 1) := by decide +kernel
set_option maxHeartbeats 4000000 in
set_option maxRecDepth 100000 in
theorem x_arrivalOf (l : Launch) (D : va_G) (k : Nat → ClassId) (st : Nat → Nat) (lo : Nat) (h0 : Nat) (h1 : Nat) (h2 : Nat) (h3 : Nat) (h4 : Nat) (n : Nat) (see : Nat) (tm : Nat) (g : Nat → Int32) (rn : Nat)  : CRi l D k st lo yX5_arrivalOf cX5_arrivalOf 2 (some .int) ({ frames := 0, cells := 0, slots := 0, locals := 0 }) [.ref h0, .int (nI rn)] [(h0, .inr (5, (fX5 h1 h2 h3 h4))), (aI k h1 10 (vv n see tm g))] (fun _ => True) := by
  intro sz
  refine Met.ofW (cc := cX5_arrivalOf) (maxL := 2) (ret := (some .int)) (by decide) rfl ?_
  intro p e s m args below meth c s₁ B hml hv
  obtain ⟨rfl, hsz, hlo, hP, hK, hDL, hZ⟩ := hv
  have hx := B.exec
  have hb := B.bytes
  have hr := B.returns
  have hts := WS_ts B.pre
  have hown : s.vm.findClass RX5 = some m.cls := findClass_of_methodNamed B.named
  have hlocks := B.notSynchronized
  subst hsz
  have hA : ∀ q : Nat, s.heap.size ≤ q → (fun q : Nat => s.heap.size ≤ q) q := fun _ h => h
  have hAlo : ∀ q : Nat, (fun q : Nat => s.heap.size ≤ q) q → lo ≤ q := fun q h => Nat.le_trans hlo h
  have hS : va_S (fun q : Nat => s.heap.size ≤ q) s.heap s.heap [] := va_S.rf
  have hl := lv_entry ([.ref h0, .int (nI rn)]) (n := 2) (Nat.le_of_ble_eq_true rfl)
  rw [lg_entry_eq]
  generalize (lg_sl ([.ref h0, .int (nI rn)]) ++ List.replicate (2 - (lg_sl ([.ref h0, .int (nI rn)])).length) Slot.unset).toArray = ls at hl ⊢
  have hl : lv_has ls 2 [(0, .ref h0), (1, .int (nI rn))] := hl
  refine lv_iload_n hx hb dX5_arrivalOf_0 rfl (lv_at hl 1 rfl) ?_
  refine lv_aload_n hx hb dX5_arrivalOf_1 rfl (lv_at hl 0 rfl) ?_
  refine va_get (D := D) (ci := 5) (v := .ref h1) (C := RX5) (T := TX5) (N := 4) hx hb hts inX5 hown hK hP 0 rfl rfl 0 (by decide) (hts _ tw_146) (fun _ h9 => h9) rfl dX5_arrivalOf_2 ?_
  refine lv_iconst (v := 0) hx hb dX5_arrivalOf_5 (by decide) ?_
  refine va_iald hx hb hK hP 1 1 rfl rfl (by unfold vp_in; decide) dX5_arrivalOf_6 ?_
  refine lv_ti (y := (nI n)) (by rfl) ?_
  refine lv_aload_n hx hb dX5_arrivalOf_7 rfl (lv_at hl 0 rfl) ?_
  refine va_get (D := D) (ci := 5) (v := .ref h1) (C := RX5) (T := TX5) (N := 4) hx hb hts inX5 hown hK hP 0 rfl rfl 0 (by decide) (hts _ tw_146) (fun _ h9 => h9) rfl dX5_arrivalOf_8 ?_
  refine lv_bipush (v := 7) hx hb dX5_arrivalOf_11 (by decide) ?_
  refine va_iald hx hb hK hP 1 1 rfl rfl (by unfold vp_in; decide) dX5_arrivalOf_13 ?_
  refine lv_ti (y := (g 7)) (by rfl) ?_
  refine lv_iadd hx hb dX5_arrivalOf_14 ?_
  refine lv_topi (fun x_1 ex_1 => ?_)
  refine lv_imul hx hb dX5_arrivalOf_15 ?_
  refine lv_topi (fun x_2 ex_2 => ?_)
  refine lv_aload_n hx hb dX5_arrivalOf_16 rfl (lv_at hl 0 rfl) ?_
  refine va_get (D := D) (ci := 5) (v := .ref h1) (C := RX5) (T := TX5) (N := 4) hx hb hts inX5 hown hK hP 0 rfl rfl 0 (by decide) (hts _ tw_146) (fun _ h9 => h9) rfl dX5_arrivalOf_17 ?_
  refine lv_iconst (v := 0) hx hb dX5_arrivalOf_20 (by decide) ?_
  refine va_iald hx hb hK hP 1 1 rfl rfl (by unfold vp_in; decide) dX5_arrivalOf_21 ?_
  refine lv_ti (y := (nI n)) (by rfl) ?_
  refine lv_iadd hx hb dX5_arrivalOf_22 ?_
  refine lv_topi (fun x_3 ex_3 => ?_)
  exact W.iret (v := x_3) hx hb hr (fun t ht hW => ⟨⟨x_3, (), rfl, trivial, trivial⟩, hS.F ht⟩) hS.2.2 dX5_arrivalOf_23

theorem dX5_become_0 : decode cX5_become 0 = .ok (.aload_n 1, 1) := by decide +kernel
theorem dX5_become_1 : decode cX5_become 1 = .ok (.getfield 9, 3) := by decide +kernel
theorem dX5_become_4 : decode cX5_become 4 = .ok (.iconst 0, 1) := by decide +kernel
theorem dX5_become_5 : decode cX5_become 5 = .ok (.aload_n 0, 1) := by decide +kernel
theorem dX5_become_6 : decode cX5_become 6 = .ok (.getfield 9, 3) := by decide +kernel
theorem dX5_become_9 : decode cX5_become 9 = .ok (.iconst 0, 1) := by decide +kernel
theorem dX5_become_10 : decode cX5_become 10 = .ok (.bipush 10, 2) := by decide +kernel
theorem dX5_become_12 : decode cX5_become 12 = .ok (.invokestatic 24, 3) := by decide +kernel
theorem dX5_become_15 : decode cX5_become 15 = .ok (.aload_n 1, 1) := by decide +kernel
theorem dX5_become_16 : decode cX5_become 16 = .ok (.getfield 15, 3) := by decide +kernel
theorem dX5_become_19 : decode cX5_become 19 = .ok (.iconst 0, 1) := by decide +kernel
theorem dX5_become_20 : decode cX5_become 20 = .ok (.aload_n 0, 1) := by decide +kernel
theorem dX5_become_21 : decode cX5_become 21 = .ok (.getfield 15, 3) := by decide +kernel
theorem dX5_become_24 : decode cX5_become 24 = .ok (.iconst 0, 1) := by decide +kernel
theorem dX5_become_25 : decode cX5_become 25 = .ok (.bipush 24, 2) := by decide +kernel
theorem dX5_become_27 : decode cX5_become 27 = .ok (.invokestatic 24, 3) := by decide +kernel
theorem dX5_become_30 : decode cX5_become 30 = .ok (.aload_n 1, 1) := by decide +kernel
theorem dX5_become_31 : decode cX5_become 31 = .ok (.getfield 18, 3) := by decide +kernel
theorem dX5_become_34 : decode cX5_become 34 = .ok (.iconst 0, 1) := by decide +kernel
theorem dX5_become_35 : decode cX5_become 35 = .ok (.aload_n 0, 1) := by decide +kernel
theorem dX5_become_36 : decode cX5_become 36 = .ok (.getfield 18, 3) := by decide +kernel
theorem dX5_become_39 : decode cX5_become 39 = .ok (.iconst 0, 1) := by decide +kernel
theorem dX5_become_40 : decode cX5_become 40 = .ok (.bipush 24, 2) := by decide +kernel
theorem dX5_become_42 : decode cX5_become 42 = .ok (.invokestatic 24, 3) := by decide +kernel
theorem dX5_become_45 : decode cX5_become 45 = .ok (.iconst 0, 1) := by decide +kernel
theorem dX5_become_46 : decode cX5_become 46 = .ok (.istore_n 2, 1) := by decide +kernel
theorem dX5_become_47 : decode cX5_become 47 = .ok (.iload_n 2, 1) := by decide +kernel
theorem dX5_become_48 : decode cX5_become 48 = .ok (.iconst 4, 1) := by decide +kernel
theorem dX5_become_49 : decode cX5_become 49 = .ok (.if_icmp .ge 38, 3) := by decide +kernel
theorem dX5_become_52 : decode cX5_become 52 = .ok (.aload_n 0, 1) := by decide +kernel
theorem dX5_become_53 : decode cX5_become 53 = .ok (.getfield 21, 3) := by decide +kernel
theorem dX5_become_56 : decode cX5_become 56 = .ok (.iload_n 2, 1) := by decide +kernel
theorem dX5_become_57 : decode cX5_become 57 = .ok (.aload_n 0, 1) := by decide +kernel
theorem dX5_become_58 : decode cX5_become 58 = .ok (.getfield 9, 3) := by decide +kernel
theorem dX5_become_61 : decode cX5_become 61 = .ok (.iconst 4, 1) := by decide +kernel
theorem dX5_become_62 : decode cX5_become 62 = .ok (.iaload, 1) := by decide +kernel
theorem dX5_become_63 : decode cX5_become 63 = .ok (.iconst 0, 1) := by decide +kernel
theorem dX5_become_64 : decode cX5_become 64 = .ok (.aload_n 0, 1) := by decide +kernel
theorem dX5_become_65 : decode cX5_become 65 = .ok (.iload_n 2, 1) := by decide +kernel
theorem dX5_become_66 : decode cX5_become 66 = .ok (.invokevirtual 30, 3) := by decide +kernel
theorem dX5_become_69 : decode cX5_become 69 = .ok (.aload_n 0, 1) := by decide +kernel
theorem dX5_become_70 : decode cX5_become 70 = .ok (.getfield 9, 3) := by decide +kernel
theorem dX5_become_73 : decode cX5_become 73 = .ok (.iconst 5, 1) := by decide +kernel
theorem dX5_become_74 : decode cX5_become 74 = .ok (.iaload, 1) := by decide +kernel
theorem dX5_become_75 : decode cX5_become 75 = .ok (.isub, 1) := by decide +kernel
theorem dX5_become_76 : decode cX5_become 76 = .ok (.invokestatic 34, 3) := by decide +kernel
theorem dX5_become_79 : decode cX5_become 79 = .ok (.imul, 1) := by decide +kernel
theorem dX5_become_80 : decode cX5_become 80 = .ok (.iastore, 1) := by decide +kernel
theorem dX5_become_81 : decode cX5_become 81 = .ok (.iinc 2 1, 3) := by decide +kernel
theorem dX5_become_84 : decode cX5_become 84 = .ok (.goto (-37), 3) := by decide +kernel
theorem dX5_become_87 : decode cX5_become 87 = .ok (.return_, 1) := by decide +kernel
set_option maxHeartbeats 4000000 in
set_option maxRecDepth 100000 in
theorem x_become (l : Launch) (D : va_G) (k : Nat → ClassId) (st : Nat → Nat) (lo : Nat) (h0 : Nat) (h1 : Nat) (h2 : Nat) (h3 : Nat) (h4 : Nat) (n : Nat) (see : Nat) (tm : Nat) (g : Nat → Int32) (ff : Nat → Int32) (fp : Nat → Int32) (fl : Nat → Int32) (d0 : Nat) (d1 : Nat) (d2 : Nat) (d3 : Nat) (d4 : Nat) (nq : Nat) (seeq : Nat) (tmq : Nat) (gq : Nat → Int32) (ffq : Nat → Int32) (fpq : Nat → Int32) (flq : Nat → Int32) (hn : nq ≤ 24) (hsee : seeq ≤ 2) (htm9 : tmq ≤ 3) : CWv l D k st lo yX5_become cX5_become 3 none ({ frames := 1, cells := 0, slots := 0, locals := 60 }) 0 0 [.ref h0, .ref d0] [(h0, .inr (5, (fX5 h1 h2 h3 h4))), (aI k h1 10 (vv n see tm g)), (aI k h2 24 ff), (aI k h3 24 fp), (aI k h4 4 fl), (d0, .inr (5, (fX5 d1 d2 d3 d4))), (aI k d1 10 (vv nq seeq tmq gq)), (aI k d2 24 ffq), (aI k d3 24 fpq), (aI k d4 4 flq)] (fun (u : Nat × Nat × Nat × (Nat → Int32) × (Nat → Int32) × (Nat → Int32) × (Nat → Int32)) => match u with | (n_, see_, tm_, g_, ff_, fp_, fl_) => n_ ≤ 24 ∧ see_ ≤ 2 ∧ tm_ ≤ 3) (fun (u : Nat × Nat × Nat × (Nat → Int32) × (Nat → Int32) × (Nat → Int32) × (Nat → Int32)) => match u with | (n_, see_, tm_, g_, ff_, fp_, fl_) => [(h0, .inr (5, (fX5 h1 h2 h3 h4))), (aI k h1 10 (vv n_ see_ tm_ g_)), (aI k h2 24 ff_), (aI k h3 24 fp_), (aI k h4 4 fl_), (d0, .inr (5, (fX5 d1 d2 d3 d4))), (aI k d1 10 (vv nq seeq tmq gq)), (aI k d2 24 ffq), (aI k d3 24 fpq), (aI k d4 4 flq)]) := by
  intro sz
  refine Met.ofW (cc := cX5_become) (maxL := 3) (ret := none) (by decide) rfl ?_
  intro p e s m args below meth c s₁ B hml hv
  obtain ⟨rfl, hsz, hlo, hP, hK, hDL, hZ⟩ := hv
  have hx := B.exec
  have hb := B.bytes
  have hr := B.returns
  have hts := WS_ts B.pre
  have hown : s.vm.findClass RX5 = some m.cls := findClass_of_methodNamed B.named
  have hlocks := B.notSynchronized
  subst hsz
  have hD := hDL.self (sz := s.heap.size)
  have hAlo := A_lo hDL hlo
  generalize hAe : va_A [(h0, .inr (5, (fX5 h1 h2 h3 h4))), (aI k h1 10 (vv n see tm g)), (aI k h2 24 ff), (aI k h3 24 fp), (aI k h4 4 fl), (d0, .inr (5, (fX5 d1 d2 d3 d4))), (aI k d1 10 (vv nq seeq tmq gq)), (aI k d2 24 ffq), (aI k d3 24 fpq), (aI k d4 4 flq)] s.heap.size = A at hD hAlo ⊢
  have hA : ∀ q : Nat, s.heap.size ≤ q → A q := fun q h => by rw [← hAe]; exact Or.inr h
  have hS : va_S A s.heap s.heap [] := va_S.rf
  have hl := lv_entry ([.ref h0, .ref d0]) (n := 3) (Nat.le_of_ble_eq_true rfl)
  rw [lg_entry_eq]
  generalize (lg_sl ([.ref h0, .ref d0]) ++ List.replicate (3 - (lg_sl ([.ref h0, .ref d0])).length) Slot.unset).toArray = ls at hl ⊢
  have hl : lv_has ls 3 [(0, .ref h0), (1, .ref d0)] := hl
  refine lv_aload_n hx hb dX5_become_0 rfl (lv_at hl 1 rfl) ?_
  refine va_get (D := D) (ci := 5) (v := .ref d1) (C := RX5) (T := TX5) (N := 4) hx hb hts inX5 hown hK hP 5 rfl rfl 0 (by decide) (hts _ tw_146) (fun _ h9 => h9) rfl dX5_become_1 ?_
  refine lv_iconst (v := 0) hx hb dX5_become_4 (by decide) ?_
  refine lv_aload_n hx hb dX5_become_5 rfl (lv_at hl 0 rfl) ?_
  refine va_get (D := D) (ci := 5) (v := .ref h1) (C := RX5) (T := TX5) (N := 4) hx hb hts inX5 hown hK hP 0 rfl rfl 0 (by decide) (hts _ tw_146) (fun _ h9 => h9) rfl dX5_become_6 ?_
  refine lv_iconst (v := 0) hx hb dX5_become_9 (by decide) ?_
  refine lv_bipush (v := 10) hx hb dX5_become_10 (by decide) ?_
  refine va_copyi hx hb (by rw [hml]; exact hl.1.symm) hown (hts _ tw_364) (hts _ tw_366) (hts _ tw_365) (hts _ tw_88) hK hP hD hS 6 1 1 1 rfl rfl rfl rfl rfl (by decide) (by decide) (by decide) (by decide) (by decide) (fun _ _ => rfl) (Nat.le_of_ble_eq_true rfl) (Nat.le_of_ble_eq_true rfl) dX5_become_12 (fun H locs hP hD hS => ?_)
  replace hP : va_P D classes [(h0, .inr (5, (fX5 h1 h2 h3 h4))), (aI k h1 10 (va_cpy (vv nq seeq tmq gq) (vv n see tm g) 0 0 10)), (aI k h2 24 ff), (aI k h3 24 fp), (aI k h4 4 fl), (d0, .inr (5, (fX5 d1 d2 d3 d4))), (aI k d1 10 (vv nq seeq tmq gq)), (aI k d2 24 ffq), (aI k d3 24 fpq), (aI k d4 4 flq)] H := hP
  replace hD : va_D A [(h0, .inr (5, (fX5 h1 h2 h3 h4))), (aI k h1 10 (va_cpy (vv nq seeq tmq gq) (vv n see tm g) 0 0 10)), (aI k h2 24 ff), (aI k h3 24 fp), (aI k h4 4 fl), (d0, .inr (5, (fX5 d1 d2 d3 d4))), (aI k d1 10 (vv nq seeq tmq gq)), (aI k d2 24 ffq), (aI k d3 24 fpq), (aI k d4 4 flq)] := hD
  rw [show va_cpy (vv nq seeq tmq gq) (vv n see tm g) 0 0 10 = vv nq seeq tmq (va_cpy gq g 0 0 10) from vv_cpy _ _ _ _ _ _ _ _] at hP hD
  generalize va_cpy gq g 0 0 10 = gg_1 at hP hD
  replace hP : va_P D classes [(h0, .inr (5, (fX5 h1 h2 h3 h4))), (aI k h1 10 (vv nq seeq tmq gg_1)), (aI k h2 24 ff), (aI k h3 24 fp), (aI k h4 4 fl), (d0, .inr (5, (fX5 d1 d2 d3 d4))), (aI k d1 10 (vv nq seeq tmq gq)), (aI k d2 24 ffq), (aI k d3 24 fpq), (aI k d4 4 flq)] H := hP
  replace hD : va_D A [(h0, .inr (5, (fX5 h1 h2 h3 h4))), (aI k h1 10 (vv nq seeq tmq gg_1)), (aI k h2 24 ff), (aI k h3 24 fp), (aI k h4 4 fl), (d0, .inr (5, (fX5 d1 d2 d3 d4))), (aI k d1 10 (vv nq seeq tmq gq)), (aI k d2 24 ffq), (aI k d3 24 fpq), (aI k d4 4 flq)] := hD
  refine lv_aload_n hx hb dX5_become_15 rfl (lv_at hl 1 rfl) ?_
  refine va_get (D := D) (ci := 5) (v := .ref d2) (C := RX5) (T := TX5) (N := 4) hx hb hts inX5 hown hK hP 5 rfl rfl 1 (by decide) (hts _ tw_150) (fun _ h9 => h9) rfl dX5_become_16 ?_
  refine lv_iconst (v := 0) hx hb dX5_become_19 (by decide) ?_
  refine lv_aload_n hx hb dX5_become_20 rfl (lv_at hl 0 rfl) ?_
  refine va_get (D := D) (ci := 5) (v := .ref h2) (C := RX5) (T := TX5) (N := 4) hx hb hts inX5 hown hK hP 0 rfl rfl 1 (by decide) (hts _ tw_150) (fun _ h9 => h9) rfl dX5_become_21 ?_
  refine lv_iconst (v := 0) hx hb dX5_become_24 (by decide) ?_
  refine lv_bipush (v := 24) hx hb dX5_become_25 (by decide) ?_
  refine va_copyi hx hb (by rw [hml]; exact hl.1.symm) hown (hts _ tw_364) (hts _ tw_366) (hts _ tw_365) (hts _ tw_88) hK hP hD hS 7 2 1 1 rfl rfl rfl rfl rfl (by decide) (by decide) (by decide) (by decide) (by decide) (fun _ _ => rfl) (Nat.le_of_ble_eq_true rfl) (Nat.le_of_ble_eq_true rfl) dX5_become_27 (fun H locs hP hD hS => ?_)
  replace hP : va_P D classes [(h0, .inr (5, (fX5 h1 h2 h3 h4))), (aI k h1 10 (vv nq seeq tmq gg_1)), (aI k h2 24 (va_cpy ffq ff 0 0 24)), (aI k h3 24 fp), (aI k h4 4 fl), (d0, .inr (5, (fX5 d1 d2 d3 d4))), (aI k d1 10 (vv nq seeq tmq gq)), (aI k d2 24 ffq), (aI k d3 24 fpq), (aI k d4 4 flq)] H := hP
  replace hD : va_D A [(h0, .inr (5, (fX5 h1 h2 h3 h4))), (aI k h1 10 (vv nq seeq tmq gg_1)), (aI k h2 24 (va_cpy ffq ff 0 0 24)), (aI k h3 24 fp), (aI k h4 4 fl), (d0, .inr (5, (fX5 d1 d2 d3 d4))), (aI k d1 10 (vv nq seeq tmq gq)), (aI k d2 24 ffq), (aI k d3 24 fpq), (aI k d4 4 flq)] := hD
  generalize (va_cpy ffq ff 0 0 24) = f_4 at hP hD
  refine lv_aload_n hx hb dX5_become_30 rfl (lv_at hl 1 rfl) ?_
  refine va_get (D := D) (ci := 5) (v := .ref d3) (C := RX5) (T := TX5) (N := 4) hx hb hts inX5 hown hK hP 5 rfl rfl 2 (by decide) (hts _ tw_152) (fun _ h9 => h9) rfl dX5_become_31 ?_
  refine lv_iconst (v := 0) hx hb dX5_become_34 (by decide) ?_
  refine lv_aload_n hx hb dX5_become_35 rfl (lv_at hl 0 rfl) ?_
  refine va_get (D := D) (ci := 5) (v := .ref h3) (C := RX5) (T := TX5) (N := 4) hx hb hts inX5 hown hK hP 0 rfl rfl 2 (by decide) (hts _ tw_152) (fun _ h9 => h9) rfl dX5_become_36 ?_
  refine lv_iconst (v := 0) hx hb dX5_become_39 (by decide) ?_
  refine lv_bipush (v := 24) hx hb dX5_become_40 (by decide) ?_
  refine va_copyi hx hb (by rw [hml]; exact hl.1.symm) hown (hts _ tw_364) (hts _ tw_366) (hts _ tw_365) (hts _ tw_88) hK hP hD hS 8 3 1 1 rfl rfl rfl rfl rfl (by decide) (by decide) (by decide) (by decide) (by decide) (fun _ _ => rfl) (Nat.le_of_ble_eq_true rfl) (Nat.le_of_ble_eq_true rfl) dX5_become_42 (fun H locs hP hD hS => ?_)
  replace hP : va_P D classes [(h0, .inr (5, (fX5 h1 h2 h3 h4))), (aI k h1 10 (vv nq seeq tmq gg_1)), (aI k h2 24 f_4), (aI k h3 24 (va_cpy fpq fp 0 0 24)), (aI k h4 4 fl), (d0, .inr (5, (fX5 d1 d2 d3 d4))), (aI k d1 10 (vv nq seeq tmq gq)), (aI k d2 24 ffq), (aI k d3 24 fpq), (aI k d4 4 flq)] H := hP
  replace hD : va_D A [(h0, .inr (5, (fX5 h1 h2 h3 h4))), (aI k h1 10 (vv nq seeq tmq gg_1)), (aI k h2 24 f_4), (aI k h3 24 (va_cpy fpq fp 0 0 24)), (aI k h4 4 fl), (d0, .inr (5, (fX5 d1 d2 d3 d4))), (aI k d1 10 (vv nq seeq tmq gq)), (aI k d2 24 ffq), (aI k d3 24 fpq), (aI k d4 4 flq)] := hD
  generalize (va_cpy fpq fp 0 0 24) = f_6 at hP hD
  refine lv_iconst (v := 0) hx hb dX5_become_45 (by decide) ?_
  refine lv_istore_n (lv' := [(2, .int 0), (0, .ref h0), (1, .ref d0)]) hx hb dX5_become_46 rfl hl (by decide) rfl (fun ls hl => ?_)
  refine W_loop (σ := Nat × (Nat → Int32)) (fun (n_ : Nat) (x_ : Nat × (Nat → Int32)) (H : Heap) (locs : List Loc) (ls : Array Slot) => match x_ with | (rn2_7, fl2_7) => n_ = 4 - rn2_7 ∧ (rn2_7 ≤ 4) ∧ va_P D classes [(h0, .inr (5, (fX5 h1 h2 h3 h4))), (aI k h1 10 (vv nq seeq tmq gg_1)), (aI k h2 24 f_4), (aI k h3 24 f_6), (aI k h4 4 fl2_7), (d0, .inr (5, (fX5 d1 d2 d3 d4))), (aI k d1 10 (vv nq seeq tmq gq)), (aI k d2 24 ffq), (aI k d3 24 fpq), (aI k d4 4 flq)] H ∧ va_D A [(h0, .inr (5, (fX5 h1 h2 h3 h4))), (aI k h1 10 (vv nq seeq tmq gg_1)), (aI k h2 24 f_4), (aI k h3 24 f_6), (aI k h4 4 fl2_7), (d0, .inr (5, (fX5 d1 d2 d3 d4))), (aI k d1 10 (vv nq seeq tmq gq)), (aI k d2 24 ffq), (aI k d3 24 fpq), (aI k d4 4 flq)] ∧ va_S A s.heap H locs ∧ lv_has ls 3 [(2, .int (nI rn2_7)), (0, .ref h0), (1, .ref d0)]) (fun n_7 x_7 H locs ls hI ih_7 => ?_) _ (0, fl) ⟨rfl, (by omega), hP, hD, hS, (lv_sub hl [0, 1, 2] rfl)⟩
  obtain ⟨rn2_7, fl2_7⟩ := x_7
  obtain ⟨hm_7, hv_7, hP, hD, hS, hl⟩ := hI
  subst hm_7
  refine lv_iload_n hx hb dX5_become_47 rfl (lv_at hl 0 rfl) ?_
  refine lv_iconst (v := 4) hx hb dX5_become_48 (by decide) ?_
  refine lv_icmp_ge (tgt := 87) hx hb dX5_become_49 (by decide) (fun c_8 => ?_) (fun c_8 => ?_)
  · have c_8 := (nI_leI (a := 4) (b := rn2_7) (by omega) (by omega)).mp c_8
    have hP9 := hP.sub (ws' := [(h0, .inr (5, (fX5 h1 h2 h3 h4))), (aI k h1 10 (vv nq seeq tmq gg_1)), (aI k h2 24 f_4), (aI k h3 24 f_6), (aI k h4 4 fl2_7), (d0, .inr (5, (fX5 d1 d2 d3 d4))), (aI k d1 10 (vv nq seeq tmq gq)), (aI k d2 24 ffq), (aI k d3 24 fpq), (aI k d4 4 flq)]) [0, 1, 2, 3, 4, 5, 6, 7, 8, 9] rfl
    have hD9 := hD.sub (ws' := [(h0, .inr (5, (fX5 h1 h2 h3 h4))), (aI k h1 10 (vv nq seeq tmq gg_1)), (aI k h2 24 f_4), (aI k h3 24 f_6), (aI k h4 4 fl2_7), (d0, .inr (5, (fX5 d1 d2 d3 d4))), (aI k d1 10 (vv nq seeq tmq gq)), (aI k d2 24 ffq), (aI k d3 24 fpq), (aI k d4 4 flq)]) [0, 1, 2, 3, 4, 5, 6, 7, 8, 9] (by decide) rfl
    exact W.vret hx hb hr (fun t ht hW => ⟨⟨(nq, seeq, tmq, gg_1, f_4, f_6, fl2_7), rfl, ⟨by omega, by omega, by omega⟩, by rw [ht]; exact hP9, hD9⟩, hS.F ht⟩) hS.2.2 dX5_become_87
  · have c_8 : ¬ (4 ≤ rn2_7) := fun h => c_8 ((nI_leI (a := 4) (b := rn2_7) (by omega) (by omega)).mpr h)
    refine lv_aload_n hx hb dX5_become_52 rfl (lv_at hl 1 rfl) ?_
    refine va_get (D := D) (ci := 5) (v := .ref h4) (C := RX5) (T := TX5) (N := 4) hx hb hts inX5 hown hK hP 0 rfl rfl 3 (by decide) (hts _ tw_154) (fun _ h9 => h9) rfl dX5_become_53 ?_
    refine lv_iload_n hx hb dX5_become_56 rfl (lv_at hl 0 rfl) ?_
    refine lv_aload_n hx hb dX5_become_57 rfl (lv_at hl 1 rfl) ?_
    refine va_get (D := D) (ci := 5) (v := .ref h1) (C := RX5) (T := TX5) (N := 4) hx hb hts inX5 hown hK hP 0 rfl rfl 0 (by decide) (hts _ tw_146) (fun _ h9 => h9) rfl dX5_become_58 ?_
    refine lv_iconst (v := 4) hx hb dX5_become_61 (by decide) ?_
    refine va_iald hx hb hK hP 1 1 rfl rfl (by unfold vp_in; decide) dX5_become_62 ?_
    refine lv_ti (y := (gg_1 4)) (by rfl) ?_
    refine lv_iconst (v := 0) hx hb dX5_become_63 (by decide) ?_
    refine lv_aload_n hx hb dX5_become_64 rfl (lv_at hl 1 rfl) ?_
    refine lv_iload_n hx hb dX5_become_65 rfl (lv_at hl 0 rfl) ?_
    refine ro_i (D := D) (va_runV (As := [.int (nI rn2_7)]) (rest := [.int 0, .int (gg_1 4), .int (nI rn2_7), .ref h4]) ⟨hx, hb, hml, hown, hts⟩ ((x_arrivalOf l D k st lo h0 h1 h2 h3 h4 nq seeq tmq gg_1 rn2_7) H.size) (cwV 1 hts (gV tw_505 tw_507 tw_3 tw_81 tw_508) rfl rfl rfl (by decide +kernel) ⟨Nat.le_of_ble_eq_true rfl, Nat.le_of_ble_eq_true rfl⟩) (pV hS hAlo hlo hP hK (va_Dlo hD hAlo) hZ [0, 1] (by decide) rfl (ci := 5) (q := (RX5, TX5, 4)) (q0 := 0) rfl rfl) rfl rfl hl.1 rfl (lv_room (Nat.le_of_ble_eq_true rfl)) dX5_become_66 ⟨Nat.le_of_ble_eq_true rfl, Nat.le_of_ble_eq_true rfl⟩) hS hA hP (fun r_9 H locs hw_9 hP hS => ?_)
    try dsimp only at hw_9
    refine lv_aload_n hx hb dX5_become_69 rfl (lv_at hl 1 rfl) ?_
    refine va_get (D := D) (ci := 5) (v := .ref h1) (C := RX5) (T := TX5) (N := 4) hx hb hts inX5 hown hK hP 0 rfl rfl 0 (by decide) (hts _ tw_146) (fun _ h9 => h9) rfl dX5_become_70 ?_
    refine lv_iconst (v := 5) hx hb dX5_become_73 (by decide) ?_
    refine va_iald hx hb hK hP 1 1 rfl rfl (by unfold vp_in; decide) dX5_become_74 ?_
    refine lv_ti (y := (gg_1 5)) (by rfl) ?_
    refine lv_isub hx hb dX5_become_75 ?_
    refine lv_topi (fun x_10 ex_10 => ?_)
    refine va_mmax hx hb (by rw [hml]; exact hl.1.symm) hown (hts _ tw_509) (hts _ tw_510) (hts _ tw_93) (hts _ tw_511) (Nat.le_of_ble_eq_true rfl) (Nat.le_of_ble_eq_true rfl) (Nat.le_of_ble_eq_true rfl) (Nat.le_of_ble_eq_true rfl) dX5_become_76 ?_
    refine lv_topi (fun x_11 ex_11 => ?_)
    refine lv_imul hx hb dX5_become_79 ?_
    refine lv_topi (fun x_12 ex_12 => ?_)
    refine va_iast hx hb hK hP hD hS 4 1 rfl rfl (vp_in_nI (by omega) (by decide)) dX5_become_80 (fun H locs hP hD hS => ?_)
    replace hP : va_P D classes [(h0, .inr (5, (fX5 h1 h2 h3 h4))), (aI k h1 10 (vv nq seeq tmq gg_1)), (aI k h2 24 f_4), (aI k h3 24 f_6), (aI k h4 4 (upd fl2_7 (Int32.toNatClampNeg (nI rn2_7)) x_12)), (d0, .inr (5, (fX5 d1 d2 d3 d4))), (aI k d1 10 (vv nq seeq tmq gq)), (aI k d2 24 ffq), (aI k d3 24 fpq), (aI k d4 4 flq)] H := hP
    replace hD : va_D A [(h0, .inr (5, (fX5 h1 h2 h3 h4))), (aI k h1 10 (vv nq seeq tmq gg_1)), (aI k h2 24 f_4), (aI k h3 24 f_6), (aI k h4 4 (upd fl2_7 (Int32.toNatClampNeg (nI rn2_7)) x_12)), (d0, .inr (5, (fX5 d1 d2 d3 d4))), (aI k d1 10 (vv nq seeq tmq gq)), (aI k d2 24 ffq), (aI k d3 24 fpq), (aI k d4 4 flq)] := hD
    generalize (upd fl2_7 (Int32.toNatClampNeg (nI rn2_7)) x_12) = f_13 at hP hD
    refine lv_iinc (v := (nI (rn2_7 + 1))) (lv' := [(2, .int (nI (rn2_7 + 1))), (0, .ref h0), (1, .ref d0)]) hx hb dX5_become_81 hl (k := 0) rfl (nI_add rn2_7 1) (by decide) rfl (fun ls hl => ?_)
    refine lv_goto (tgt := 47) hx hb dX5_become_84 (by decide) ?_
    exact ih_7 _ (rn2_7 + 1, f_13) _ _ _ (by omega) ⟨rfl, (by omega), hP, hD, hS, (lv_sub hl [0, 1, 2] rfl)⟩

theorem dX5_takeClauseWord_0 : decode cX5_takeClauseWord 0 = .ok (.iconst 0, 1) := by decide +kernel
theorem dX5_takeClauseWord_1 : decode cX5_takeClauseWord 1 = .ok (.istore_n 1, 1) := by decide +kernel
theorem dX5_takeClauseWord_2 : decode cX5_takeClauseWord 2 = .ok (.iload_n 1, 1) := by decide +kernel
theorem dX5_takeClauseWord_3 : decode cX5_takeClauseWord 3 = .ok (.bipush 10, 2) := by decide +kernel
theorem dX5_takeClauseWord_5 : decode cX5_takeClauseWord 5 = .ok (.if_icmp .ge 28, 3) := by decide +kernel
theorem dX5_takeClauseWord_8 : decode cX5_takeClauseWord 8 = .ok (.iload_n 1, 1) := by decide +kernel
theorem dX5_takeClauseWord_9 : decode cX5_takeClauseWord 9 = .ok (.bipush 8, 2) := by decide +kernel
theorem dX5_takeClauseWord_11 : decode cX5_takeClauseWord 11 = .ok (.if_icmp .eq 16, 3) := by decide +kernel
theorem dX5_takeClauseWord_14 : decode cX5_takeClauseWord 14 = .ok (.aload_n 0, 1) := by decide +kernel
theorem dX5_takeClauseWord_15 : decode cX5_takeClauseWord 15 = .ok (.iload_n 1, 1) := by decide +kernel
theorem dX5_takeClauseWord_16 : decode cX5_takeClauseWord 16 = .ok (.invokestatic 79, 3) := by decide +kernel
theorem dX5_takeClauseWord_19 : decode cX5_takeClauseWord 19 = .ok (.invokevirtual 83, 3) := by decide +kernel
theorem dX5_takeClauseWord_22 : decode cX5_takeClauseWord 22 = .ok (.ifCond .eq 5, 3) := by decide +kernel
theorem dX5_takeClauseWord_25 : decode cX5_takeClauseWord 25 = .ok (.iload_n 1, 1) := by decide +kernel
theorem dX5_takeClauseWord_26 : decode cX5_takeClauseWord 26 = .ok (.ireturn, 1) := by decide +kernel
theorem dX5_takeClauseWord_27 : decode cX5_takeClauseWord 27 = .ok (.iinc 1 1, 3) := by decide +kernel
theorem dX5_takeClauseWord_30 : decode cX5_takeClauseWord 30 = .ok (.goto (-28), 3) := by decide +kernel
theorem dX5_takeClauseWord_33 : decode cX5_takeClauseWord 33 = .ok (.iconst (-1), 1) := by decide +kernel
theorem dX5_takeClauseWord_34 : decode cX5_takeClauseWord 34 = .ok (.ireturn, 1) := by decide +kernel
set_option maxHeartbeats 4000000 in
set_option maxRecDepth 100000 in
theorem x_takeClauseWord (l : Launch) (D : va_G) (k : Nat → ClassId) (st : Nat → Nat) (lo : Nat) (x0 : Nat) (x1 : Nat) (tz : Nat) (ta : Nat) (na : Int32) (fn : Int32) (fb : Int32) (fx : Nat → Int32) (ht : ta ≤ tz) (hz : tz ≤ 240) : CWi l D k st lo yX5_takeClauseWord cX5_takeClauseWord 2 (some .int) ({ frames := 5, cells := 0, slots := 0, locals := 108 }) 0 0 [.ref x0] [(x0, .inr (6, (fX6 x1 (nI tz) (nI ta) na fn fb))), (aB k x1 240 fx)] (fun (r : Int32) (ta_ : Nat) => (r = -1 ∨ ∃ j : Nat, (j ≤ 9 ∧ j ≠ 8) ∧ r = nI j) ∧ ta ≤ ta_ ∧ ta_ ≤ tz) (fun (ta_ : Nat) => [(x0, .inr (6, (fX6 x1 (nI tz) (nI ta_) na fn fb))), (aB k x1 240 fx)]) := by
  intro sz
  refine Met.ofW (cc := cX5_takeClauseWord) (maxL := 2) (ret := (some .int)) (by decide) rfl ?_
  intro p e s m args below meth c s₁ B hml hv
  obtain ⟨rfl, hsz, hlo, hP, hK, hDL, hZ⟩ := hv
  have hx := B.exec
  have hb := B.bytes
  have hr := B.returns
  have hts := WS_ts B.pre
  have hown : s.vm.findClass RX5 = some m.cls := findClass_of_methodNamed B.named
  have hlocks := B.notSynchronized
  subst hsz
  have hD := hDL.self (sz := s.heap.size)
  have hAlo := A_lo hDL hlo
  generalize hAe : va_A [(x0, .inr (6, (fX6 x1 (nI tz) (nI ta) na fn fb))), (aB k x1 240 fx)] s.heap.size = A at hD hAlo ⊢
  have hA : ∀ q : Nat, s.heap.size ≤ q → A q := fun q h => by rw [← hAe]; exact Or.inr h
  have hS : va_S A s.heap s.heap [] := va_S.rf
  have hl := lv_entry ([.ref x0]) (n := 2) (Nat.le_of_ble_eq_true rfl)
  rw [lg_entry_eq]
  generalize (lg_sl ([.ref x0]) ++ List.replicate (2 - (lg_sl ([.ref x0])).length) Slot.unset).toArray = ls at hl ⊢
  have hl : lv_has ls 2 [(0, .ref x0)] := hl
  refine lv_iconst (v := 0) hx hb dX5_takeClauseWord_0 (by decide) ?_
  refine lv_istore_n (lv' := [(1, .int 0), (0, .ref x0)]) hx hb dX5_takeClauseWord_1 rfl hl (by decide) rfl (fun ls hl => ?_)
  refine lv_iload_n hx hb dX5_takeClauseWord_2 rfl (lv_at hl 0 rfl) ?_
  refine lv_bipush (v := 10) hx hb dX5_takeClauseWord_3 (by decide) ?_
  refine lv_icmp_ge (tgt := 33) hx hb dX5_takeClauseWord_5 (by decide) (fun h => absurd h (by decide)) (fun _ => ?_)
  refine lv_iload_n hx hb dX5_takeClauseWord_8 rfl (lv_at hl 0 rfl) ?_
  refine lv_bipush (v := 8) hx hb dX5_takeClauseWord_9 (by decide) ?_
  refine lv_icmp_eq (tgt := 27) hx hb dX5_takeClauseWord_11 (by decide) (fun h => absurd h (by decide)) (fun _ => ?_)
  refine lv_aload_n hx hb dX5_takeClauseWord_14 rfl (lv_at hl 1 rfl) ?_
  refine lv_iload_n hx hb dX5_takeClauseWord_15 rfl (lv_at hl 0 rfl) ?_
  refine ro_r (D := D) (va_runS (As := [.int 0]) (rest := [.ref x0]) ⟨hx, hb, hml, hown, hts⟩ ((x_wordOf_0 l D k st lo ) s.heap.size) (va_cwS 1 hts (gS tw_386 tw_387 tw_81 tw_388) rfl rfl rfl (by decide +kernel) ⟨Nat.le_of_ble_eq_true rfl, Nat.le_of_ble_eq_true rfl⟩) (pS hS hAlo hlo hP hK (va_Dlo hD hAlo) hZ [] (by decide) rfl) rfl rfl hl.1 rfl (lv_room (Nat.le_of_ble_eq_true rfl)) dX5_takeClauseWord_16 ⟨Nat.le_of_ble_eq_true rfl, Nat.le_of_ble_eq_true rfl⟩) hS hA hP (fun H locs hP hS => ?_)
  refine rw_i (D := D) (wr := []) (va_runV (As := [.ref (st (100 + 0))]) (rest := []) ⟨hx, hb, hml, hown, hts⟩ ((x_takeWord l D k st lo x0 x1 tz ta na fn fb fx 0 (by omega) (by omega) (by omega)) H.size) (cwV 1 hts (gV tw_399 tw_400 tw_401 tw_80 tw_402) rfl rfl rfl (by decide +kernel) ⟨Nat.le_of_ble_eq_true rfl, Nat.le_of_ble_eq_true rfl⟩) (pV hS hAlo hlo hP hK (va_Dlo hD hAlo) hZ [0, 1] (by decide) rfl (ci := 6) (q := (RX6, TX6, 6)) (q0 := 0) rfl rfl) rfl rfl hl.1 rfl (lv_room (Nat.le_of_ble_eq_true rfl)) dX5_takeClauseWord_19 ⟨Nat.le_of_ble_eq_true rfl, Nat.le_of_ble_eq_true rfl⟩) hS hA hP hD [0, 1] [] rfl rfl (by decide) (by decide) (fun r_2 u H locs hw_2 hP hD hS => ?_)
  obtain ⟨ta__2, rfl⟩ : ∃ z, z = u := ⟨_, rfl⟩
  replace hP : va_P D classes [(x0, .inr (6, (fX6 x1 (nI tz) (nI ta__2) na fn fb))), (aB k x1 240 fx)] H := hP
  replace hD : va_D A [(x0, .inr (6, (fX6 x1 (nI tz) (nI ta__2) na fn fb))), (aB k x1 240 fx)] := hD
  try dsimp only at hw_2
  rcases hw_2 with ⟨rfl | rfl, hw_2⟩
  · refine lv_if_eq (tgt := 27) hx hb dX5_takeClauseWord_22 (by decide) (fun h => absurd h (by decide)) (fun _ => ?_)
    refine lv_iload_n hx hb dX5_takeClauseWord_25 rfl (lv_at hl 0 rfl) ?_
    have hP9 := hP.sub (ws' := [(x0, .inr (6, (fX6 x1 (nI tz) (nI ta__2) na fn fb))), (aB k x1 240 fx)]) [0, 1] rfl
    have hD9 := hD.sub (ws' := [(x0, .inr (6, (fX6 x1 (nI tz) (nI ta__2) na fn fb))), (aB k x1 240 fx)]) [0, 1] (by decide) rfl
    exact W.iret (v := 0) hx hb hr (fun t ht hW => ⟨⟨0, ta__2, rfl, ⟨.inr ⟨0, by omega, rfl⟩, by omega, by omega⟩, by rw [ht]; exact hP9, hD9⟩, hS.F ht⟩) hS.2.2 dX5_takeClauseWord_26
  · refine lv_if_eq (tgt := 27) hx hb dX5_takeClauseWord_22 (by decide) (fun _ => ?_) (fun h => absurd (by decide) h)
    refine lv_iinc (v := 1) (lv' := [(1, .int 1), (0, .ref x0)]) hx hb dX5_takeClauseWord_27 hl (k := 0) rfl (by decide) (by decide) rfl (fun ls hl => ?_)
    refine lv_goto (tgt := 2) hx hb dX5_takeClauseWord_30 (by decide) ?_
    refine lv_iload_n hx hb dX5_takeClauseWord_2 rfl (lv_at hl 0 rfl) ?_
    refine lv_bipush (v := 10) hx hb dX5_takeClauseWord_3 (by decide) ?_
    refine lv_icmp_ge (tgt := 33) hx hb dX5_takeClauseWord_5 (by decide) (fun h => absurd h (by decide)) (fun _ => ?_)
    refine lv_iload_n hx hb dX5_takeClauseWord_8 rfl (lv_at hl 0 rfl) ?_
    refine lv_bipush (v := 8) hx hb dX5_takeClauseWord_9 (by decide) ?_
    refine lv_icmp_eq (tgt := 27) hx hb dX5_takeClauseWord_11 (by decide) (fun h => absurd h (by decide)) (fun _ => ?_)
    refine lv_aload_n hx hb dX5_takeClauseWord_14 rfl (lv_at hl 1 rfl) ?_
    refine lv_iload_n hx hb dX5_takeClauseWord_15 rfl (lv_at hl 0 rfl) ?_
    refine ro_r (D := D) (va_runS (As := [.int 1]) (rest := [.ref x0]) ⟨hx, hb, hml, hown, hts⟩ ((x_wordOf_1 l D k st lo ) H.size) (va_cwS 1 hts (gS tw_386 tw_387 tw_81 tw_388) rfl rfl rfl (by decide +kernel) ⟨Nat.le_of_ble_eq_true rfl, Nat.le_of_ble_eq_true rfl⟩) (pS hS hAlo hlo hP hK (va_Dlo hD hAlo) hZ [] (by decide) rfl) rfl rfl hl.1 rfl (lv_room (Nat.le_of_ble_eq_true rfl)) dX5_takeClauseWord_16 ⟨Nat.le_of_ble_eq_true rfl, Nat.le_of_ble_eq_true rfl⟩) hS hA hP (fun H locs hP hS => ?_)
    refine rw_i (D := D) (wr := []) (va_runV (As := [.ref (st (100 + 1))]) (rest := []) ⟨hx, hb, hml, hown, hts⟩ ((x_takeWord l D k st lo x0 x1 tz ta__2 na fn fb fx 1 (by omega) (by omega) (by omega)) H.size) (cwV 1 hts (gV tw_399 tw_400 tw_401 tw_80 tw_402) rfl rfl rfl (by decide +kernel) ⟨Nat.le_of_ble_eq_true rfl, Nat.le_of_ble_eq_true rfl⟩) (pV hS hAlo hlo hP hK (va_Dlo hD hAlo) hZ [0, 1] (by decide) rfl (ci := 6) (q := (RX6, TX6, 6)) (q0 := 0) rfl rfl) rfl rfl hl.1 rfl (lv_room (Nat.le_of_ble_eq_true rfl)) dX5_takeClauseWord_19 ⟨Nat.le_of_ble_eq_true rfl, Nat.le_of_ble_eq_true rfl⟩) hS hA hP hD [0, 1] [] rfl rfl (by decide) (by decide) (fun r_4 u H locs hw_4 hP hD hS => ?_)
    obtain ⟨ta__4, rfl⟩ : ∃ z, z = u := ⟨_, rfl⟩
    replace hP : va_P D classes [(x0, .inr (6, (fX6 x1 (nI tz) (nI ta__4) na fn fb))), (aB k x1 240 fx)] H := hP
    replace hD : va_D A [(x0, .inr (6, (fX6 x1 (nI tz) (nI ta__4) na fn fb))), (aB k x1 240 fx)] := hD
    try dsimp only at hw_4
    rcases hw_4 with ⟨rfl | rfl, hw_4⟩
    · refine lv_if_eq (tgt := 27) hx hb dX5_takeClauseWord_22 (by decide) (fun h => absurd h (by decide)) (fun _ => ?_)
      refine lv_iload_n hx hb dX5_takeClauseWord_25 rfl (lv_at hl 0 rfl) ?_
      have hP9 := hP.sub (ws' := [(x0, .inr (6, (fX6 x1 (nI tz) (nI ta__4) na fn fb))), (aB k x1 240 fx)]) [0, 1] rfl
      have hD9 := hD.sub (ws' := [(x0, .inr (6, (fX6 x1 (nI tz) (nI ta__4) na fn fb))), (aB k x1 240 fx)]) [0, 1] (by decide) rfl
      exact W.iret (v := 1) hx hb hr (fun t ht hW => ⟨⟨1, ta__4, rfl, ⟨.inr ⟨1, by omega, rfl⟩, by omega, by omega⟩, by rw [ht]; exact hP9, hD9⟩, hS.F ht⟩) hS.2.2 dX5_takeClauseWord_26
    · refine lv_if_eq (tgt := 27) hx hb dX5_takeClauseWord_22 (by decide) (fun _ => ?_) (fun h => absurd (by decide) h)
      refine lv_iinc (v := 2) (lv' := [(1, .int 2), (0, .ref x0)]) hx hb dX5_takeClauseWord_27 hl (k := 0) rfl (by decide) (by decide) rfl (fun ls hl => ?_)
      refine lv_goto (tgt := 2) hx hb dX5_takeClauseWord_30 (by decide) ?_
      refine lv_iload_n hx hb dX5_takeClauseWord_2 rfl (lv_at hl 0 rfl) ?_
      refine lv_bipush (v := 10) hx hb dX5_takeClauseWord_3 (by decide) ?_
      refine lv_icmp_ge (tgt := 33) hx hb dX5_takeClauseWord_5 (by decide) (fun h => absurd h (by decide)) (fun _ => ?_)
      refine lv_iload_n hx hb dX5_takeClauseWord_8 rfl (lv_at hl 0 rfl) ?_
      refine lv_bipush (v := 8) hx hb dX5_takeClauseWord_9 (by decide) ?_
      refine lv_icmp_eq (tgt := 27) hx hb dX5_takeClauseWord_11 (by decide) (fun h => absurd h (by decide)) (fun _ => ?_)
      refine lv_aload_n hx hb dX5_takeClauseWord_14 rfl (lv_at hl 1 rfl) ?_
      refine lv_iload_n hx hb dX5_takeClauseWord_15 rfl (lv_at hl 0 rfl) ?_
      refine ro_r (D := D) (va_runS (As := [.int 2]) (rest := [.ref x0]) ⟨hx, hb, hml, hown, hts⟩ ((x_wordOf_2 l D k st lo ) H.size) (va_cwS 1 hts (gS tw_386 tw_387 tw_81 tw_388) rfl rfl rfl (by decide +kernel) ⟨Nat.le_of_ble_eq_true rfl, Nat.le_of_ble_eq_true rfl⟩) (pS hS hAlo hlo hP hK (va_Dlo hD hAlo) hZ [] (by decide) rfl) rfl rfl hl.1 rfl (lv_room (Nat.le_of_ble_eq_true rfl)) dX5_takeClauseWord_16 ⟨Nat.le_of_ble_eq_true rfl, Nat.le_of_ble_eq_true rfl⟩) hS hA hP (fun H locs hP hS => ?_)
      refine rw_i (D := D) (wr := []) (va_runV (As := [.ref (st (100 + 2))]) (rest := []) ⟨hx, hb, hml, hown, hts⟩ ((x_takeWord l D k st lo x0 x1 tz ta__4 na fn fb fx 2 (by omega) (by omega) (by omega)) H.size) (cwV 1 hts (gV tw_399 tw_400 tw_401 tw_80 tw_402) rfl rfl rfl (by decide +kernel) ⟨Nat.le_of_ble_eq_true rfl, Nat.le_of_ble_eq_true rfl⟩) (pV hS hAlo hlo hP hK (va_Dlo hD hAlo) hZ [0, 1] (by decide) rfl (ci := 6) (q := (RX6, TX6, 6)) (q0 := 0) rfl rfl) rfl rfl hl.1 rfl (lv_room (Nat.le_of_ble_eq_true rfl)) dX5_takeClauseWord_19 ⟨Nat.le_of_ble_eq_true rfl, Nat.le_of_ble_eq_true rfl⟩) hS hA hP hD [0, 1] [] rfl rfl (by decide) (by decide) (fun r_6 u H locs hw_6 hP hD hS => ?_)
      obtain ⟨ta__6, rfl⟩ : ∃ z, z = u := ⟨_, rfl⟩
      replace hP : va_P D classes [(x0, .inr (6, (fX6 x1 (nI tz) (nI ta__6) na fn fb))), (aB k x1 240 fx)] H := hP
      replace hD : va_D A [(x0, .inr (6, (fX6 x1 (nI tz) (nI ta__6) na fn fb))), (aB k x1 240 fx)] := hD
      try dsimp only at hw_6
      rcases hw_6 with ⟨rfl | rfl, hw_6⟩
      · refine lv_if_eq (tgt := 27) hx hb dX5_takeClauseWord_22 (by decide) (fun h => absurd h (by decide)) (fun _ => ?_)
        refine lv_iload_n hx hb dX5_takeClauseWord_25 rfl (lv_at hl 0 rfl) ?_
        have hP9 := hP.sub (ws' := [(x0, .inr (6, (fX6 x1 (nI tz) (nI ta__6) na fn fb))), (aB k x1 240 fx)]) [0, 1] rfl
        have hD9 := hD.sub (ws' := [(x0, .inr (6, (fX6 x1 (nI tz) (nI ta__6) na fn fb))), (aB k x1 240 fx)]) [0, 1] (by decide) rfl
        exact W.iret (v := 2) hx hb hr (fun t ht hW => ⟨⟨2, ta__6, rfl, ⟨.inr ⟨2, by omega, rfl⟩, by omega, by omega⟩, by rw [ht]; exact hP9, hD9⟩, hS.F ht⟩) hS.2.2 dX5_takeClauseWord_26
      · refine lv_if_eq (tgt := 27) hx hb dX5_takeClauseWord_22 (by decide) (fun _ => ?_) (fun h => absurd (by decide) h)
        refine lv_iinc (v := 3) (lv' := [(1, .int 3), (0, .ref x0)]) hx hb dX5_takeClauseWord_27 hl (k := 0) rfl (by decide) (by decide) rfl (fun ls hl => ?_)
        refine lv_goto (tgt := 2) hx hb dX5_takeClauseWord_30 (by decide) ?_
        refine lv_iload_n hx hb dX5_takeClauseWord_2 rfl (lv_at hl 0 rfl) ?_
        refine lv_bipush (v := 10) hx hb dX5_takeClauseWord_3 (by decide) ?_
        refine lv_icmp_ge (tgt := 33) hx hb dX5_takeClauseWord_5 (by decide) (fun h => absurd h (by decide)) (fun _ => ?_)
        refine lv_iload_n hx hb dX5_takeClauseWord_8 rfl (lv_at hl 0 rfl) ?_
        refine lv_bipush (v := 8) hx hb dX5_takeClauseWord_9 (by decide) ?_
        refine lv_icmp_eq (tgt := 27) hx hb dX5_takeClauseWord_11 (by decide) (fun h => absurd h (by decide)) (fun _ => ?_)
        refine lv_aload_n hx hb dX5_takeClauseWord_14 rfl (lv_at hl 1 rfl) ?_
        refine lv_iload_n hx hb dX5_takeClauseWord_15 rfl (lv_at hl 0 rfl) ?_
        refine ro_r (D := D) (va_runS (As := [.int 3]) (rest := [.ref x0]) ⟨hx, hb, hml, hown, hts⟩ ((x_wordOf_3 l D k st lo ) H.size) (va_cwS 1 hts (gS tw_386 tw_387 tw_81 tw_388) rfl rfl rfl (by decide +kernel) ⟨Nat.le_of_ble_eq_true rfl, Nat.le_of_ble_eq_true rfl⟩) (pS hS hAlo hlo hP hK (va_Dlo hD hAlo) hZ [] (by decide) rfl) rfl rfl hl.1 rfl (lv_room (Nat.le_of_ble_eq_true rfl)) dX5_takeClauseWord_16 ⟨Nat.le_of_ble_eq_true rfl, Nat.le_of_ble_eq_true rfl⟩) hS hA hP (fun H locs hP hS => ?_)
        refine rw_i (D := D) (wr := []) (va_runV (As := [.ref (st (100 + 3))]) (rest := []) ⟨hx, hb, hml, hown, hts⟩ ((x_takeWord l D k st lo x0 x1 tz ta__6 na fn fb fx 3 (by omega) (by omega) (by omega)) H.size) (cwV 1 hts (gV tw_399 tw_400 tw_401 tw_80 tw_402) rfl rfl rfl (by decide +kernel) ⟨Nat.le_of_ble_eq_true rfl, Nat.le_of_ble_eq_true rfl⟩) (pV hS hAlo hlo hP hK (va_Dlo hD hAlo) hZ [0, 1] (by decide) rfl (ci := 6) (q := (RX6, TX6, 6)) (q0 := 0) rfl rfl) rfl rfl hl.1 rfl (lv_room (Nat.le_of_ble_eq_true rfl)) dX5_takeClauseWord_19 ⟨Nat.le_of_ble_eq_true rfl, Nat.le_of_ble_eq_true rfl⟩) hS hA hP hD [0, 1] [] rfl rfl (by decide) (by decide) (fun r_8 u H locs hw_8 hP hD hS => ?_)
        obtain ⟨ta__8, rfl⟩ : ∃ z, z = u := ⟨_, rfl⟩
        replace hP : va_P D classes [(x0, .inr (6, (fX6 x1 (nI tz) (nI ta__8) na fn fb))), (aB k x1 240 fx)] H := hP
        replace hD : va_D A [(x0, .inr (6, (fX6 x1 (nI tz) (nI ta__8) na fn fb))), (aB k x1 240 fx)] := hD
        try dsimp only at hw_8
        rcases hw_8 with ⟨rfl | rfl, hw_8⟩
        · refine lv_if_eq (tgt := 27) hx hb dX5_takeClauseWord_22 (by decide) (fun h => absurd h (by decide)) (fun _ => ?_)
          refine lv_iload_n hx hb dX5_takeClauseWord_25 rfl (lv_at hl 0 rfl) ?_
          have hP9 := hP.sub (ws' := [(x0, .inr (6, (fX6 x1 (nI tz) (nI ta__8) na fn fb))), (aB k x1 240 fx)]) [0, 1] rfl
          have hD9 := hD.sub (ws' := [(x0, .inr (6, (fX6 x1 (nI tz) (nI ta__8) na fn fb))), (aB k x1 240 fx)]) [0, 1] (by decide) rfl
          exact W.iret (v := 3) hx hb hr (fun t ht hW => ⟨⟨3, ta__8, rfl, ⟨.inr ⟨3, by omega, rfl⟩, by omega, by omega⟩, by rw [ht]; exact hP9, hD9⟩, hS.F ht⟩) hS.2.2 dX5_takeClauseWord_26
        · refine lv_if_eq (tgt := 27) hx hb dX5_takeClauseWord_22 (by decide) (fun _ => ?_) (fun h => absurd (by decide) h)
          refine lv_iinc (v := 4) (lv' := [(1, .int 4), (0, .ref x0)]) hx hb dX5_takeClauseWord_27 hl (k := 0) rfl (by decide) (by decide) rfl (fun ls hl => ?_)
          refine lv_goto (tgt := 2) hx hb dX5_takeClauseWord_30 (by decide) ?_
          refine lv_iload_n hx hb dX5_takeClauseWord_2 rfl (lv_at hl 0 rfl) ?_
          refine lv_bipush (v := 10) hx hb dX5_takeClauseWord_3 (by decide) ?_
          refine lv_icmp_ge (tgt := 33) hx hb dX5_takeClauseWord_5 (by decide) (fun h => absurd h (by decide)) (fun _ => ?_)
          refine lv_iload_n hx hb dX5_takeClauseWord_8 rfl (lv_at hl 0 rfl) ?_
          refine lv_bipush (v := 8) hx hb dX5_takeClauseWord_9 (by decide) ?_
          refine lv_icmp_eq (tgt := 27) hx hb dX5_takeClauseWord_11 (by decide) (fun h => absurd h (by decide)) (fun _ => ?_)
          refine lv_aload_n hx hb dX5_takeClauseWord_14 rfl (lv_at hl 1 rfl) ?_
          refine lv_iload_n hx hb dX5_takeClauseWord_15 rfl (lv_at hl 0 rfl) ?_
          refine ro_r (D := D) (va_runS (As := [.int 4]) (rest := [.ref x0]) ⟨hx, hb, hml, hown, hts⟩ ((x_wordOf_4 l D k st lo ) H.size) (va_cwS 1 hts (gS tw_386 tw_387 tw_81 tw_388) rfl rfl rfl (by decide +kernel) ⟨Nat.le_of_ble_eq_true rfl, Nat.le_of_ble_eq_true rfl⟩) (pS hS hAlo hlo hP hK (va_Dlo hD hAlo) hZ [] (by decide) rfl) rfl rfl hl.1 rfl (lv_room (Nat.le_of_ble_eq_true rfl)) dX5_takeClauseWord_16 ⟨Nat.le_of_ble_eq_true rfl, Nat.le_of_ble_eq_true rfl⟩) hS hA hP (fun H locs hP hS => ?_)
          refine rw_i (D := D) (wr := []) (va_runV (As := [.ref (st (100 + 4))]) (rest := []) ⟨hx, hb, hml, hown, hts⟩ ((x_takeWord l D k st lo x0 x1 tz ta__8 na fn fb fx 4 (by omega) (by omega) (by omega)) H.size) (cwV 1 hts (gV tw_399 tw_400 tw_401 tw_80 tw_402) rfl rfl rfl (by decide +kernel) ⟨Nat.le_of_ble_eq_true rfl, Nat.le_of_ble_eq_true rfl⟩) (pV hS hAlo hlo hP hK (va_Dlo hD hAlo) hZ [0, 1] (by decide) rfl (ci := 6) (q := (RX6, TX6, 6)) (q0 := 0) rfl rfl) rfl rfl hl.1 rfl (lv_room (Nat.le_of_ble_eq_true rfl)) dX5_takeClauseWord_19 ⟨Nat.le_of_ble_eq_true rfl, Nat.le_of_ble_eq_true rfl⟩) hS hA hP hD [0, 1] [] rfl rfl (by decide) (by decide) (fun r_10 u H locs hw_10 hP hD hS => ?_)
          obtain ⟨ta__10, rfl⟩ : ∃ z, z = u := ⟨_, rfl⟩
          replace hP : va_P D classes [(x0, .inr (6, (fX6 x1 (nI tz) (nI ta__10) na fn fb))), (aB k x1 240 fx)] H := hP
          replace hD : va_D A [(x0, .inr (6, (fX6 x1 (nI tz) (nI ta__10) na fn fb))), (aB k x1 240 fx)] := hD
          try dsimp only at hw_10
          rcases hw_10 with ⟨rfl | rfl, hw_10⟩
          · refine lv_if_eq (tgt := 27) hx hb dX5_takeClauseWord_22 (by decide) (fun h => absurd h (by decide)) (fun _ => ?_)
            refine lv_iload_n hx hb dX5_takeClauseWord_25 rfl (lv_at hl 0 rfl) ?_
            have hP9 := hP.sub (ws' := [(x0, .inr (6, (fX6 x1 (nI tz) (nI ta__10) na fn fb))), (aB k x1 240 fx)]) [0, 1] rfl
            have hD9 := hD.sub (ws' := [(x0, .inr (6, (fX6 x1 (nI tz) (nI ta__10) na fn fb))), (aB k x1 240 fx)]) [0, 1] (by decide) rfl
            exact W.iret (v := 4) hx hb hr (fun t ht hW => ⟨⟨4, ta__10, rfl, ⟨.inr ⟨4, by omega, rfl⟩, by omega, by omega⟩, by rw [ht]; exact hP9, hD9⟩, hS.F ht⟩) hS.2.2 dX5_takeClauseWord_26
          · refine lv_if_eq (tgt := 27) hx hb dX5_takeClauseWord_22 (by decide) (fun _ => ?_) (fun h => absurd (by decide) h)
            refine lv_iinc (v := 5) (lv' := [(1, .int 5), (0, .ref x0)]) hx hb dX5_takeClauseWord_27 hl (k := 0) rfl (by decide) (by decide) rfl (fun ls hl => ?_)
            refine lv_goto (tgt := 2) hx hb dX5_takeClauseWord_30 (by decide) ?_
            refine lv_iload_n hx hb dX5_takeClauseWord_2 rfl (lv_at hl 0 rfl) ?_
            refine lv_bipush (v := 10) hx hb dX5_takeClauseWord_3 (by decide) ?_
            refine lv_icmp_ge (tgt := 33) hx hb dX5_takeClauseWord_5 (by decide) (fun h => absurd h (by decide)) (fun _ => ?_)
            refine lv_iload_n hx hb dX5_takeClauseWord_8 rfl (lv_at hl 0 rfl) ?_
            refine lv_bipush (v := 8) hx hb dX5_takeClauseWord_9 (by decide) ?_
            refine lv_icmp_eq (tgt := 27) hx hb dX5_takeClauseWord_11 (by decide) (fun h => absurd h (by decide)) (fun _ => ?_)
            refine lv_aload_n hx hb dX5_takeClauseWord_14 rfl (lv_at hl 1 rfl) ?_
            refine lv_iload_n hx hb dX5_takeClauseWord_15 rfl (lv_at hl 0 rfl) ?_
            refine ro_r (D := D) (va_runS (As := [.int 5]) (rest := [.ref x0]) ⟨hx, hb, hml, hown, hts⟩ ((x_wordOf_5 l D k st lo ) H.size) (va_cwS 1 hts (gS tw_386 tw_387 tw_81 tw_388) rfl rfl rfl (by decide +kernel) ⟨Nat.le_of_ble_eq_true rfl, Nat.le_of_ble_eq_true rfl⟩) (pS hS hAlo hlo hP hK (va_Dlo hD hAlo) hZ [] (by decide) rfl) rfl rfl hl.1 rfl (lv_room (Nat.le_of_ble_eq_true rfl)) dX5_takeClauseWord_16 ⟨Nat.le_of_ble_eq_true rfl, Nat.le_of_ble_eq_true rfl⟩) hS hA hP (fun H locs hP hS => ?_)
            refine rw_i (D := D) (wr := []) (va_runV (As := [.ref (st (100 + 5))]) (rest := []) ⟨hx, hb, hml, hown, hts⟩ ((x_takeWord l D k st lo x0 x1 tz ta__10 na fn fb fx 5 (by omega) (by omega) (by omega)) H.size) (cwV 1 hts (gV tw_399 tw_400 tw_401 tw_80 tw_402) rfl rfl rfl (by decide +kernel) ⟨Nat.le_of_ble_eq_true rfl, Nat.le_of_ble_eq_true rfl⟩) (pV hS hAlo hlo hP hK (va_Dlo hD hAlo) hZ [0, 1] (by decide) rfl (ci := 6) (q := (RX6, TX6, 6)) (q0 := 0) rfl rfl) rfl rfl hl.1 rfl (lv_room (Nat.le_of_ble_eq_true rfl)) dX5_takeClauseWord_19 ⟨Nat.le_of_ble_eq_true rfl, Nat.le_of_ble_eq_true rfl⟩) hS hA hP hD [0, 1] [] rfl rfl (by decide) (by decide) (fun r_12 u H locs hw_12 hP hD hS => ?_)
            obtain ⟨ta__12, rfl⟩ : ∃ z, z = u := ⟨_, rfl⟩
            replace hP : va_P D classes [(x0, .inr (6, (fX6 x1 (nI tz) (nI ta__12) na fn fb))), (aB k x1 240 fx)] H := hP
            replace hD : va_D A [(x0, .inr (6, (fX6 x1 (nI tz) (nI ta__12) na fn fb))), (aB k x1 240 fx)] := hD
            try dsimp only at hw_12
            rcases hw_12 with ⟨rfl | rfl, hw_12⟩
            · refine lv_if_eq (tgt := 27) hx hb dX5_takeClauseWord_22 (by decide) (fun h => absurd h (by decide)) (fun _ => ?_)
              refine lv_iload_n hx hb dX5_takeClauseWord_25 rfl (lv_at hl 0 rfl) ?_
              have hP9 := hP.sub (ws' := [(x0, .inr (6, (fX6 x1 (nI tz) (nI ta__12) na fn fb))), (aB k x1 240 fx)]) [0, 1] rfl
              have hD9 := hD.sub (ws' := [(x0, .inr (6, (fX6 x1 (nI tz) (nI ta__12) na fn fb))), (aB k x1 240 fx)]) [0, 1] (by decide) rfl
              exact W.iret (v := 5) hx hb hr (fun t ht hW => ⟨⟨5, ta__12, rfl, ⟨.inr ⟨5, by omega, rfl⟩, by omega, by omega⟩, by rw [ht]; exact hP9, hD9⟩, hS.F ht⟩) hS.2.2 dX5_takeClauseWord_26
            · refine lv_if_eq (tgt := 27) hx hb dX5_takeClauseWord_22 (by decide) (fun _ => ?_) (fun h => absurd (by decide) h)
              refine lv_iinc (v := 6) (lv' := [(1, .int 6), (0, .ref x0)]) hx hb dX5_takeClauseWord_27 hl (k := 0) rfl (by decide) (by decide) rfl (fun ls hl => ?_)
              refine lv_goto (tgt := 2) hx hb dX5_takeClauseWord_30 (by decide) ?_
              refine lv_iload_n hx hb dX5_takeClauseWord_2 rfl (lv_at hl 0 rfl) ?_
              refine lv_bipush (v := 10) hx hb dX5_takeClauseWord_3 (by decide) ?_
              refine lv_icmp_ge (tgt := 33) hx hb dX5_takeClauseWord_5 (by decide) (fun h => absurd h (by decide)) (fun _ => ?_)
              refine lv_iload_n hx hb dX5_takeClauseWord_8 rfl (lv_at hl 0 rfl) ?_
              refine lv_bipush (v := 8) hx hb dX5_takeClauseWord_9 (by decide) ?_
              refine lv_icmp_eq (tgt := 27) hx hb dX5_takeClauseWord_11 (by decide) (fun h => absurd h (by decide)) (fun _ => ?_)
              refine lv_aload_n hx hb dX5_takeClauseWord_14 rfl (lv_at hl 1 rfl) ?_
              refine lv_iload_n hx hb dX5_takeClauseWord_15 rfl (lv_at hl 0 rfl) ?_
              refine ro_r (D := D) (va_runS (As := [.int 6]) (rest := [.ref x0]) ⟨hx, hb, hml, hown, hts⟩ ((x_wordOf_6 l D k st lo ) H.size) (va_cwS 1 hts (gS tw_386 tw_387 tw_81 tw_388) rfl rfl rfl (by decide +kernel) ⟨Nat.le_of_ble_eq_true rfl, Nat.le_of_ble_eq_true rfl⟩) (pS hS hAlo hlo hP hK (va_Dlo hD hAlo) hZ [] (by decide) rfl) rfl rfl hl.1 rfl (lv_room (Nat.le_of_ble_eq_true rfl)) dX5_takeClauseWord_16 ⟨Nat.le_of_ble_eq_true rfl, Nat.le_of_ble_eq_true rfl⟩) hS hA hP (fun H locs hP hS => ?_)
              refine rw_i (D := D) (wr := []) (va_runV (As := [.ref (st (100 + 6))]) (rest := []) ⟨hx, hb, hml, hown, hts⟩ ((x_takeWord l D k st lo x0 x1 tz ta__12 na fn fb fx 6 (by omega) (by omega) (by omega)) H.size) (cwV 1 hts (gV tw_399 tw_400 tw_401 tw_80 tw_402) rfl rfl rfl (by decide +kernel) ⟨Nat.le_of_ble_eq_true rfl, Nat.le_of_ble_eq_true rfl⟩) (pV hS hAlo hlo hP hK (va_Dlo hD hAlo) hZ [0, 1] (by decide) rfl (ci := 6) (q := (RX6, TX6, 6)) (q0 := 0) rfl rfl) rfl rfl hl.1 rfl (lv_room (Nat.le_of_ble_eq_true rfl)) dX5_takeClauseWord_19 ⟨Nat.le_of_ble_eq_true rfl, Nat.le_of_ble_eq_true rfl⟩) hS hA hP hD [0, 1] [] rfl rfl (by decide) (by decide) (fun r_14 u H locs hw_14 hP hD hS => ?_)
              obtain ⟨ta__14, rfl⟩ : ∃ z, z = u := ⟨_, rfl⟩
              replace hP : va_P D classes [(x0, .inr (6, (fX6 x1 (nI tz) (nI ta__14) na fn fb))), (aB k x1 240 fx)] H := hP
              replace hD : va_D A [(x0, .inr (6, (fX6 x1 (nI tz) (nI ta__14) na fn fb))), (aB k x1 240 fx)] := hD
              try dsimp only at hw_14
              rcases hw_14 with ⟨rfl | rfl, hw_14⟩
              · refine lv_if_eq (tgt := 27) hx hb dX5_takeClauseWord_22 (by decide) (fun h => absurd h (by decide)) (fun _ => ?_)
                refine lv_iload_n hx hb dX5_takeClauseWord_25 rfl (lv_at hl 0 rfl) ?_
                have hP9 := hP.sub (ws' := [(x0, .inr (6, (fX6 x1 (nI tz) (nI ta__14) na fn fb))), (aB k x1 240 fx)]) [0, 1] rfl
                have hD9 := hD.sub (ws' := [(x0, .inr (6, (fX6 x1 (nI tz) (nI ta__14) na fn fb))), (aB k x1 240 fx)]) [0, 1] (by decide) rfl
                exact W.iret (v := 6) hx hb hr (fun t ht hW => ⟨⟨6, ta__14, rfl, ⟨.inr ⟨6, by omega, rfl⟩, by omega, by omega⟩, by rw [ht]; exact hP9, hD9⟩, hS.F ht⟩) hS.2.2 dX5_takeClauseWord_26
              · refine lv_if_eq (tgt := 27) hx hb dX5_takeClauseWord_22 (by decide) (fun _ => ?_) (fun h => absurd (by decide) h)
                refine lv_iinc (v := 7) (lv' := [(1, .int 7), (0, .ref x0)]) hx hb dX5_takeClauseWord_27 hl (k := 0) rfl (by decide) (by decide) rfl (fun ls hl => ?_)
                refine lv_goto (tgt := 2) hx hb dX5_takeClauseWord_30 (by decide) ?_
                refine lv_iload_n hx hb dX5_takeClauseWord_2 rfl (lv_at hl 0 rfl) ?_
                refine lv_bipush (v := 10) hx hb dX5_takeClauseWord_3 (by decide) ?_
                refine lv_icmp_ge (tgt := 33) hx hb dX5_takeClauseWord_5 (by decide) (fun h => absurd h (by decide)) (fun _ => ?_)
                refine lv_iload_n hx hb dX5_takeClauseWord_8 rfl (lv_at hl 0 rfl) ?_
                refine lv_bipush (v := 8) hx hb dX5_takeClauseWord_9 (by decide) ?_
                refine lv_icmp_eq (tgt := 27) hx hb dX5_takeClauseWord_11 (by decide) (fun h => absurd h (by decide)) (fun _ => ?_)
                refine lv_aload_n hx hb dX5_takeClauseWord_14 rfl (lv_at hl 1 rfl) ?_
                refine lv_iload_n hx hb dX5_takeClauseWord_15 rfl (lv_at hl 0 rfl) ?_
                refine ro_r (D := D) (va_runS (As := [.int 7]) (rest := [.ref x0]) ⟨hx, hb, hml, hown, hts⟩ ((x_wordOf_7 l D k st lo ) H.size) (va_cwS 1 hts (gS tw_386 tw_387 tw_81 tw_388) rfl rfl rfl (by decide +kernel) ⟨Nat.le_of_ble_eq_true rfl, Nat.le_of_ble_eq_true rfl⟩) (pS hS hAlo hlo hP hK (va_Dlo hD hAlo) hZ [] (by decide) rfl) rfl rfl hl.1 rfl (lv_room (Nat.le_of_ble_eq_true rfl)) dX5_takeClauseWord_16 ⟨Nat.le_of_ble_eq_true rfl, Nat.le_of_ble_eq_true rfl⟩) hS hA hP (fun H locs hP hS => ?_)
                refine rw_i (D := D) (wr := []) (va_runV (As := [.ref (st (100 + 7))]) (rest := []) ⟨hx, hb, hml, hown, hts⟩ ((x_takeWord l D k st lo x0 x1 tz ta__14 na fn fb fx 7 (by omega) (by omega) (by omega)) H.size) (cwV 1 hts (gV tw_399 tw_400 tw_401 tw_80 tw_402) rfl rfl rfl (by decide +kernel) ⟨Nat.le_of_ble_eq_true rfl, Nat.le_of_ble_eq_true rfl⟩) (pV hS hAlo hlo hP hK (va_Dlo hD hAlo) hZ [0, 1] (by decide) rfl (ci := 6) (q := (RX6, TX6, 6)) (q0 := 0) rfl rfl) rfl rfl hl.1 rfl (lv_room (Nat.le_of_ble_eq_true rfl)) dX5_takeClauseWord_19 ⟨Nat.le_of_ble_eq_true rfl, Nat.le_of_ble_eq_true rfl⟩) hS hA hP hD [0, 1] [] rfl rfl (by decide) (by decide) (fun r_16 u H locs hw_16 hP hD hS => ?_)
                obtain ⟨ta__16, rfl⟩ : ∃ z, z = u := ⟨_, rfl⟩
                replace hP : va_P D classes [(x0, .inr (6, (fX6 x1 (nI tz) (nI ta__16) na fn fb))), (aB k x1 240 fx)] H := hP
                replace hD : va_D A [(x0, .inr (6, (fX6 x1 (nI tz) (nI ta__16) na fn fb))), (aB k x1 240 fx)] := hD
                try dsimp only at hw_16
                rcases hw_16 with ⟨rfl | rfl, hw_16⟩
                · refine lv_if_eq (tgt := 27) hx hb dX5_takeClauseWord_22 (by decide) (fun h => absurd h (by decide)) (fun _ => ?_)
                  refine lv_iload_n hx hb dX5_takeClauseWord_25 rfl (lv_at hl 0 rfl) ?_
                  have hP9 := hP.sub (ws' := [(x0, .inr (6, (fX6 x1 (nI tz) (nI ta__16) na fn fb))), (aB k x1 240 fx)]) [0, 1] rfl
                  have hD9 := hD.sub (ws' := [(x0, .inr (6, (fX6 x1 (nI tz) (nI ta__16) na fn fb))), (aB k x1 240 fx)]) [0, 1] (by decide) rfl
                  exact W.iret (v := 7) hx hb hr (fun t ht hW => ⟨⟨7, ta__16, rfl, ⟨.inr ⟨7, by omega, rfl⟩, by omega, by omega⟩, by rw [ht]; exact hP9, hD9⟩, hS.F ht⟩) hS.2.2 dX5_takeClauseWord_26
                · refine lv_if_eq (tgt := 27) hx hb dX5_takeClauseWord_22 (by decide) (fun _ => ?_) (fun h => absurd (by decide) h)
                  refine lv_iinc (v := 8) (lv' := [(1, .int 8), (0, .ref x0)]) hx hb dX5_takeClauseWord_27 hl (k := 0) rfl (by decide) (by decide) rfl (fun ls hl => ?_)
                  refine lv_goto (tgt := 2) hx hb dX5_takeClauseWord_30 (by decide) ?_
                  refine lv_iload_n hx hb dX5_takeClauseWord_2 rfl (lv_at hl 0 rfl) ?_
                  refine lv_bipush (v := 10) hx hb dX5_takeClauseWord_3 (by decide) ?_
                  refine lv_icmp_ge (tgt := 33) hx hb dX5_takeClauseWord_5 (by decide) (fun h => absurd h (by decide)) (fun _ => ?_)
                  refine lv_iload_n hx hb dX5_takeClauseWord_8 rfl (lv_at hl 0 rfl) ?_
                  refine lv_bipush (v := 8) hx hb dX5_takeClauseWord_9 (by decide) ?_
                  refine lv_icmp_eq (tgt := 27) hx hb dX5_takeClauseWord_11 (by decide) (fun _ => ?_) (fun h => absurd (by decide) h)
                  refine lv_iinc (v := 9) (lv' := [(1, .int 9), (0, .ref x0)]) hx hb dX5_takeClauseWord_27 hl (k := 0) rfl (by decide) (by decide) rfl (fun ls hl => ?_)
                  refine lv_goto (tgt := 2) hx hb dX5_takeClauseWord_30 (by decide) ?_
                  refine lv_iload_n hx hb dX5_takeClauseWord_2 rfl (lv_at hl 0 rfl) ?_
                  refine lv_bipush (v := 10) hx hb dX5_takeClauseWord_3 (by decide) ?_
                  refine lv_icmp_ge (tgt := 33) hx hb dX5_takeClauseWord_5 (by decide) (fun h => absurd h (by decide)) (fun _ => ?_)
                  refine lv_iload_n hx hb dX5_takeClauseWord_8 rfl (lv_at hl 0 rfl) ?_
                  refine lv_bipush (v := 8) hx hb dX5_takeClauseWord_9 (by decide) ?_
                  refine lv_icmp_eq (tgt := 27) hx hb dX5_takeClauseWord_11 (by decide) (fun h => absurd h (by decide)) (fun _ => ?_)
                  refine lv_aload_n hx hb dX5_takeClauseWord_14 rfl (lv_at hl 1 rfl) ?_
                  refine lv_iload_n hx hb dX5_takeClauseWord_15 rfl (lv_at hl 0 rfl) ?_
                  refine ro_r (D := D) (va_runS (As := [.int 9]) (rest := [.ref x0]) ⟨hx, hb, hml, hown, hts⟩ ((x_wordOf_9 l D k st lo ) H.size) (va_cwS 1 hts (gS tw_386 tw_387 tw_81 tw_388) rfl rfl rfl (by decide +kernel) ⟨Nat.le_of_ble_eq_true rfl, Nat.le_of_ble_eq_true rfl⟩) (pS hS hAlo hlo hP hK (va_Dlo hD hAlo) hZ [] (by decide) rfl) rfl rfl hl.1 rfl (lv_room (Nat.le_of_ble_eq_true rfl)) dX5_takeClauseWord_16 ⟨Nat.le_of_ble_eq_true rfl, Nat.le_of_ble_eq_true rfl⟩) hS hA hP (fun H locs hP hS => ?_)
                  refine rw_i (D := D) (wr := []) (va_runV (As := [.ref (st (100 + 9))]) (rest := []) ⟨hx, hb, hml, hown, hts⟩ ((x_takeWord l D k st lo x0 x1 tz ta__16 na fn fb fx 9 (by omega) (by omega) (by omega)) H.size) (cwV 1 hts (gV tw_399 tw_400 tw_401 tw_80 tw_402) rfl rfl rfl (by decide +kernel) ⟨Nat.le_of_ble_eq_true rfl, Nat.le_of_ble_eq_true rfl⟩) (pV hS hAlo hlo hP hK (va_Dlo hD hAlo) hZ [0, 1] (by decide) rfl (ci := 6) (q := (RX6, TX6, 6)) (q0 := 0) rfl rfl) rfl rfl hl.1 rfl (lv_room (Nat.le_of_ble_eq_true rfl)) dX5_takeClauseWord_19 ⟨Nat.le_of_ble_eq_true rfl, Nat.le_of_ble_eq_true rfl⟩) hS hA hP hD [0, 1] [] rfl rfl (by decide) (by decide) (fun r_18 u H locs hw_18 hP hD hS => ?_)
                  obtain ⟨ta__18, rfl⟩ : ∃ z, z = u := ⟨_, rfl⟩
                  replace hP : va_P D classes [(x0, .inr (6, (fX6 x1 (nI tz) (nI ta__18) na fn fb))), (aB k x1 240 fx)] H := hP
                  replace hD : va_D A [(x0, .inr (6, (fX6 x1 (nI tz) (nI ta__18) na fn fb))), (aB k x1 240 fx)] := hD
                  try dsimp only at hw_18
                  rcases hw_18 with ⟨rfl | rfl, hw_18⟩
                  · refine lv_if_eq (tgt := 27) hx hb dX5_takeClauseWord_22 (by decide) (fun h => absurd h (by decide)) (fun _ => ?_)
                    refine lv_iload_n hx hb dX5_takeClauseWord_25 rfl (lv_at hl 0 rfl) ?_
                    have hP9 := hP.sub (ws' := [(x0, .inr (6, (fX6 x1 (nI tz) (nI ta__18) na fn fb))), (aB k x1 240 fx)]) [0, 1] rfl
                    have hD9 := hD.sub (ws' := [(x0, .inr (6, (fX6 x1 (nI tz) (nI ta__18) na fn fb))), (aB k x1 240 fx)]) [0, 1] (by decide) rfl
                    exact W.iret (v := 9) hx hb hr (fun t ht hW => ⟨⟨9, ta__18, rfl, ⟨.inr ⟨9, by omega, rfl⟩, by omega, by omega⟩, by rw [ht]; exact hP9, hD9⟩, hS.F ht⟩) hS.2.2 dX5_takeClauseWord_26
                  · refine lv_if_eq (tgt := 27) hx hb dX5_takeClauseWord_22 (by decide) (fun _ => ?_) (fun h => absurd (by decide) h)
                    refine lv_iinc (v := 10) (lv' := [(1, .int 10), (0, .ref x0)]) hx hb dX5_takeClauseWord_27 hl (k := 0) rfl (by decide) (by decide) rfl (fun ls hl => ?_)
                    refine lv_goto (tgt := 2) hx hb dX5_takeClauseWord_30 (by decide) ?_
                    refine lv_iload_n hx hb dX5_takeClauseWord_2 rfl (lv_at hl 0 rfl) ?_
                    refine lv_bipush (v := 10) hx hb dX5_takeClauseWord_3 (by decide) ?_
                    refine lv_icmp_ge (tgt := 33) hx hb dX5_takeClauseWord_5 (by decide) (fun _ => ?_) (fun h => absurd (by decide) h)
                    refine lv_iconst (v := (-1)) hx hb dX5_takeClauseWord_33 (by decide) ?_
                    have hP9 := hP.sub (ws' := [(x0, .inr (6, (fX6 x1 (nI tz) (nI ta__18) na fn fb))), (aB k x1 240 fx)]) [0, 1] rfl
                    have hD9 := hD.sub (ws' := [(x0, .inr (6, (fX6 x1 (nI tz) (nI ta__18) na fn fb))), (aB k x1 240 fx)]) [0, 1] (by decide) rfl
                    exact W.iret (v := (-1)) hx hb hr (fun t ht hW => ⟨⟨(-1), ta__18, rfl, ⟨.inl rfl, by omega, by omega⟩, by rw [ht]; exact hP9, hD9⟩, hS.F ht⟩) hS.2.2 dX5_takeClauseWord_34

theorem dX5_readDoors_0 : decode cX5_readDoors 0 = .ok (.aload_n 1, 1) := by decide +kernel
theorem dX5_readDoors_1 : decode cX5_readDoors 1 = .ok (.getstatic 106, 3) := by decide +kernel
theorem dX5_readDoors_4 : decode cX5_readDoors 4 = .ok (.iconst 0, 1) := by decide +kernel
theorem dX5_readDoors_5 : decode cX5_readDoors 5 = .ok (.iaload, 1) := by decide +kernel
theorem dX5_readDoors_6 : decode cX5_readDoors 6 = .ok (.getstatic 109, 3) := by decide +kernel
theorem dX5_readDoors_9 : decode cX5_readDoors 9 = .ok (.iconst 0, 1) := by decide +kernel
theorem dX5_readDoors_10 : decode cX5_readDoors 10 = .ok (.iaload, 1) := by decide +kernel
theorem dX5_readDoors_11 : decode cX5_readDoors 11 = .ok (.invokevirtual 112, 3) := by decide +kernel
theorem dX5_readDoors_14 : decode cX5_readDoors 14 = .ok (.istore_n 2, 1) := by decide +kernel
theorem dX5_readDoors_15 : decode cX5_readDoors 15 = .ok (.aload_n 0, 1) := by decide +kernel
theorem dX5_readDoors_16 : decode cX5_readDoors 16 = .ok (.invokevirtual 72, 3) := by decide +kernel
theorem dX5_readDoors_19 : decode cX5_readDoors 19 = .ok (.istore_n 3, 1) := by decide +kernel
theorem dX5_readDoors_20 : decode cX5_readDoors 20 = .ok (.aload_n 1, 1) := by decide +kernel
theorem dX5_readDoors_21 : decode cX5_readDoors 21 = .ok (.invokevirtual 43, 3) := by decide +kernel
theorem dX5_readDoors_24 : decode cX5_readDoors 24 = .ok (.ifCond .ne 20, 3) := by decide +kernel
theorem dX5_readDoors_27 : decode cX5_readDoors 27 = .ok (.iload_n 3, 1) := by decide +kernel
theorem dX5_readDoors_28 : decode cX5_readDoors 28 = .ok (.iload_n 2, 1) := by decide +kernel
theorem dX5_readDoors_29 : decode cX5_readDoors 29 = .ok (.iadd, 1) := by decide +kernel
theorem dX5_readDoors_30 : decode cX5_readDoors 30 = .ok (.bipush 24, 2) := by decide +kernel
theorem dX5_readDoors_32 : decode cX5_readDoors 32 = .ok (.if_icmp .le 12, 3) := by decide +kernel
theorem dX5_readDoors_35 : decode cX5_readDoors 35 = .ok (.aload_n 1, 1) := by decide +kernel
theorem dX5_readDoors_36 : decode cX5_readDoors 36 = .ok (.iconst 4, 1) := by decide +kernel
theorem dX5_readDoors_37 : decode cX5_readDoors 37 = .ok (.aload_n 1, 1) := by decide +kernel
theorem dX5_readDoors_38 : decode cX5_readDoors 38 = .ok (.getfield 115, 3) := by decide +kernel
theorem dX5_readDoors_41 : decode cX5_readDoors 41 = .ok (.invokevirtual 60, 3) := by decide +kernel
theorem dX5_readDoors_44 : decode cX5_readDoors 44 = .ok (.aload_n 1, 1) := by decide +kernel
theorem dX5_readDoors_45 : decode cX5_readDoors 45 = .ok (.ldc 118, 2) := by decide +kernel
theorem dX5_readDoors_47 : decode cX5_readDoors 47 = .ok (.invokevirtual 120, 3) := by decide +kernel
theorem dX5_readDoors_50 : decode cX5_readDoors 50 = .ok (.aload_n 1, 1) := by decide +kernel
theorem dX5_readDoors_51 : decode cX5_readDoors 51 = .ok (.iconst 0, 1) := by decide +kernel
theorem dX5_readDoors_52 : decode cX5_readDoors 52 = .ok (.bipush 100, 2) := by decide +kernel
theorem dX5_readDoors_54 : decode cX5_readDoors 54 = .ok (.invokevirtual 112, 3) := by decide +kernel
theorem dX5_readDoors_57 : decode cX5_readDoors 57 = .ok (.istore 4, 2) := by decide +kernel
theorem dX5_readDoors_59 : decode cX5_readDoors 59 = .ok (.aload_n 1, 1) := by decide +kernel
theorem dX5_readDoors_60 : decode cX5_readDoors 60 = .ok (.ldc 124, 2) := by decide +kernel
theorem dX5_readDoors_62 : decode cX5_readDoors 62 = .ok (.invokevirtual 120, 3) := by decide +kernel
theorem dX5_readDoors_65 : decode cX5_readDoors 65 = .ok (.aload_n 1, 1) := by decide +kernel
theorem dX5_readDoors_66 : decode cX5_readDoors 66 = .ok (.iconst 0, 1) := by decide +kernel
theorem dX5_readDoors_67 : decode cX5_readDoors 67 = .ok (.sipush 999, 3) := by decide +kernel
theorem dX5_readDoors_70 : decode cX5_readDoors 70 = .ok (.invokevirtual 112, 3) := by decide +kernel
theorem dX5_readDoors_73 : decode cX5_readDoors 73 = .ok (.istore 5, 2) := by decide +kernel
theorem dX5_readDoors_75 : decode cX5_readDoors 75 = .ok (.aload_n 1, 1) := by decide +kernel
theorem dX5_readDoors_76 : decode cX5_readDoors 76 = .ok (.invokevirtual 126, 3) := by decide +kernel
theorem dX5_readDoors_79 : decode cX5_readDoors 79 = .ok (.aload_n 1, 1) := by decide +kernel
theorem dX5_readDoors_80 : decode cX5_readDoors 80 = .ok (.invokevirtual 43, 3) := by decide +kernel
theorem dX5_readDoors_83 : decode cX5_readDoors 83 = .ok (.ifCond .eq 4, 3) := by decide +kernel
theorem dX5_readDoors_86 : decode cX5_readDoors 86 = .ok (.return_, 1) := by decide +kernel
theorem dX5_readDoors_87 : decode cX5_readDoors 87 = .ok (.iload_n 3, 1) := by decide +kernel
theorem dX5_readDoors_88 : decode cX5_readDoors 88 = .ok (.istore 6, 2) := by decide +kernel
theorem dX5_readDoors_90 : decode cX5_readDoors 90 = .ok (.iload 6, 2) := by decide +kernel
theorem dX5_readDoors_92 : decode cX5_readDoors 92 = .ok (.iload_n 3, 1) := by decide +kernel
theorem dX5_readDoors_93 : decode cX5_readDoors 93 = .ok (.iload_n 2, 1) := by decide +kernel
theorem dX5_readDoors_94 : decode cX5_readDoors 94 = .ok (.iadd, 1) := by decide +kernel
theorem dX5_readDoors_95 : decode cX5_readDoors 95 = .ok (.if_icmp .ge 34, 3) := by decide +kernel
theorem dX5_readDoors_98 : decode cX5_readDoors 98 = .ok (.iload 6, 2) := by decide +kernel
theorem dX5_readDoors_100 : decode cX5_readDoors 100 = .ok (.bipush 24, 2) := by decide +kernel
theorem dX5_readDoors_102 : decode cX5_readDoors 102 = .ok (.if_icmp .ge 27, 3) := by decide +kernel
theorem dX5_readDoors_105 : decode cX5_readDoors 105 = .ok (.aload_n 0, 1) := by decide +kernel
theorem dX5_readDoors_106 : decode cX5_readDoors 106 = .ok (.getfield 15, 3) := by decide +kernel
theorem dX5_readDoors_109 : decode cX5_readDoors 109 = .ok (.iload 6, 2) := by decide +kernel
theorem dX5_readDoors_111 : decode cX5_readDoors 111 = .ok (.iload 4, 2) := by decide +kernel
theorem dX5_readDoors_113 : decode cX5_readDoors 113 = .ok (.iastore, 1) := by decide +kernel
theorem dX5_readDoors_114 : decode cX5_readDoors 114 = .ok (.aload_n 0, 1) := by decide +kernel
theorem dX5_readDoors_115 : decode cX5_readDoors 115 = .ok (.getfield 18, 3) := by decide +kernel
theorem dX5_readDoors_118 : decode cX5_readDoors 118 = .ok (.iload 6, 2) := by decide +kernel
theorem dX5_readDoors_120 : decode cX5_readDoors 120 = .ok (.iload 5, 2) := by decide +kernel
theorem dX5_readDoors_122 : decode cX5_readDoors 122 = .ok (.iastore, 1) := by decide +kernel
theorem dX5_readDoors_123 : decode cX5_readDoors 123 = .ok (.iinc 6 1, 3) := by decide +kernel
theorem dX5_readDoors_126 : decode cX5_readDoors 126 = .ok (.goto (-36), 3) := by decide +kernel
theorem dX5_readDoors_129 : decode cX5_readDoors 129 = .ok (.aload_n 0, 1) := by decide +kernel
theorem dX5_readDoors_130 : decode cX5_readDoors 130 = .ok (.getfield 9, 3) := by decide +kernel
theorem dX5_readDoors_133 : decode cX5_readDoors 133 = .ok (.iconst 0, 1) := by decide +kernel
theorem dX5_readDoors_134 : decode cX5_readDoors 134 = .ok (.iload_n 3, 1) := by decide +kernel
theorem dX5_readDoors_135 : decode cX5_readDoors 135 = .ok (.iload_n 2, 1) := by decide +kernel
theorem dX5_readDoors_136 : decode cX5_readDoors 136 = .ok (.iadd, 1) := by decide +kernel
theorem dX5_readDoors_137 : decode cX5_readDoors 137 = .ok (.iastore, 1) := by decide +kernel
theorem dX5_readDoors_138 : decode cX5_readDoors 138 = .ok (.return_, 1) := by decide +kernel
set_option maxHeartbeats 4000000 in
set_option maxRecDepth 100000 in
theorem x_readDoors (l : Launch) (D : va_G) (k : Nat → ClassId) (st : Nat → Nat) (lo : Nat) (h0 : Nat) (h1 : Nat) (h2 : Nat) (h3 : Nat) (h4 : Nat) (n : Nat) (see : Nat) (tm : Nat) (g : Nat → Int32) (ff : Nat → Int32) (fp : Nat → Int32) (x0 : Nat) (x1 : Nat) (tz : Nat) (ta : Nat) (na : Int32) (fn : Int32) (fb : Int32) (fx : Nat → Int32) (ht : ta ≤ tz) (hz : tz ≤ 240) (hn : n ≤ 24) : CWv l D k st lo yX5_readDoors cX5_readDoors 7 none ({ frames := 6, cells := 0, slots := 0, locals := 129 }) 0 0 [.ref h0, .ref x0] [(h0, .inr (5, (fX5 h1 h2 h3 h4))), (aI k h1 10 (vv n see tm g)), (aI k h2 24 ff), (aI k h3 24 fp), (x0, .inr (6, (fX6 x1 (nI tz) (nI ta) na fn fb))), (aB k x1 240 fx)] (fun (u : Nat × (Nat → Int32) × (Nat → Int32) × Nat × Int32 × Int32 × Int32) => match u with | (n_, ff_, fp_, ta_, na_, fn_, fb_) => n_ ≤ 24 ∧ ta ≤ ta_ ∧ ta_ ≤ tz) (fun (u : Nat × (Nat → Int32) × (Nat → Int32) × Nat × Int32 × Int32 × Int32) => match u with | (n_, ff_, fp_, ta_, na_, fn_, fb_) => [(h0, .inr (5, (fX5 h1 h2 h3 h4))), (aI k h1 10 (vv n_ see tm g)), (aI k h2 24 ff_), (aI k h3 24 fp_), (x0, .inr (6, (fX6 x1 (nI tz) (nI ta_) na_ fn_ fb_))), (aB k x1 240 fx)]) := by
  intro sz
  refine Met.ofW (cc := cX5_readDoors) (maxL := 7) (ret := none) (by decide) rfl ?_
  intro p e s m args below meth c s₁ B hml hv
  obtain ⟨rfl, hsz, hlo, hP, hK, hDL, hZ⟩ := hv
  have hx := B.exec
  have hb := B.bytes
  have hr := B.returns
  have hts := WS_ts B.pre
  have hown : s.vm.findClass RX5 = some m.cls := findClass_of_methodNamed B.named
  have hlocks := B.notSynchronized
  subst hsz
  have hD := hDL.self (sz := s.heap.size)
  have hAlo := A_lo hDL hlo
  generalize hAe : va_A [(h0, .inr (5, (fX5 h1 h2 h3 h4))), (aI k h1 10 (vv n see tm g)), (aI k h2 24 ff), (aI k h3 24 fp), (x0, .inr (6, (fX6 x1 (nI tz) (nI ta) na fn fb))), (aB k x1 240 fx)] s.heap.size = A at hD hAlo ⊢
  have hA : ∀ q : Nat, s.heap.size ≤ q → A q := fun q h => by rw [← hAe]; exact Or.inr h
  have hS : va_S A s.heap s.heap [] := va_S.rf
  have hl := lv_entry ([.ref h0, .ref x0]) (n := 7) (Nat.le_of_ble_eq_true rfl)
  rw [lg_entry_eq]
  generalize (lg_sl ([.ref h0, .ref x0]) ++ List.replicate (7 - (lg_sl ([.ref h0, .ref x0])).length) Slot.unset).toArray = ls at hl ⊢
  have hl : lv_has ls 7 [(0, .ref h0), (1, .ref x0)] := hl
  refine lv_aload_n hx hb dX5_readDoors_0 rfl (lv_at hl 1 rfl) ?_
  refine va_getsN (A := A) hx hb (hZ.2.2.2.2.1.narrow hAlo) hS hown ((hZ.2.2.2.2.2.2.2.2.1.2.1 (RX5, 106, "LastPlace", "LEAST", "[I", RX7) (List.mem_of_getElem? (i := 1) rfl)).use rfl) (fun _ h9 => h9) dX5_readDoors_1 ?_
  refine lv_iconst (v := 0) hx hb dX5_readDoors_4 (by decide) ?_
  refine va_ti (A := A) hx hb (hZ.2.2.2.2.2.1.narrow hAlo) hS (i := 0) (by unfold vp_in; decide) (v := .int 1) rfl dX5_readDoors_5 ?_
  refine va_getsN (A := A) hx hb (hZ.2.2.1.narrow hAlo) hS hown ((hZ.2.2.2.2.2.2.2.2.1.2.1 (RX5, 109, "LastPlace", "MOST", "[I", RX7) (List.mem_of_getElem? (i := 2) rfl)).use rfl) (fun _ h9 => h9) dX5_readDoors_6 ?_
  refine lv_iconst (v := 0) hx hb dX5_readDoors_9 (by decide) ?_
  refine va_ti (A := A) hx hb (hZ.2.2.2.1.narrow hAlo) hS (i := 0) (by unfold vp_in; decide) (v := .int 24) rfl dX5_readDoors_10 ?_
  refine rw_i (D := D) (wr := [(h0, .inr (5, (fX5 h1 h2 h3 h4))), (aI k h1 10 (vv n see tm g)), (aI k h2 24 ff), (aI k h3 24 fp)]) (va_runV (As := [.int 1, .int 24]) (rest := []) ⟨hx, hb, hml, hown, hts⟩ ((x_needNumber l D k st lo x0 x1 tz ta na fn fb fx 1 24 (by omega) (by omega) (by decide)) s.heap.size) (cwV 2 hts (gV tw_467 tw_468 tw_469 tw_80 tw_470) rfl rfl rfl (by decide +kernel) ⟨Nat.le_of_ble_eq_true rfl, Nat.le_of_ble_eq_true rfl⟩) (pV hS hAlo hlo hP hK (va_Dlo hD hAlo) hZ [4, 5] (by decide) rfl (ci := 6) (q := (RX6, TX6, 6)) (q0 := 0) rfl rfl) rfl rfl hl.1 rfl (lv_room (Nat.le_of_ble_eq_true rfl)) dX5_readDoors_11 ⟨Nat.le_of_ble_eq_true rfl, Nat.le_of_ble_eq_true rfl⟩) hS hA hP hD [4, 5] [0, 1, 2, 3] rfl rfl (by decide) (by decide) (fun r_1 u H locs hw_1 hP hD hS => ?_)
  obtain ⟨ta__1, na__1, fn__1, fb__1⟩ := u
  replace hP : va_P D classes [(h0, .inr (5, (fX5 h1 h2 h3 h4))), (aI k h1 10 (vv n see tm g)), (aI k h2 24 ff), (aI k h3 24 fp), (x0, .inr (6, (fX6 x1 (nI tz) (nI ta__1) na__1 fn__1 fb__1))), (aB k x1 240 fx)] H := hP
  replace hD : va_D A [(h0, .inr (5, (fX5 h1 h2 h3 h4))), (aI k h1 10 (vv n see tm g)), (aI k h2 24 ff), (aI k h3 24 fp), (x0, .inr (6, (fX6 x1 (nI tz) (nI ta__1) na__1 fn__1 fb__1))), (aB k x1 240 fx)] := hD
  try dsimp only at hw_1
  obtain ⟨nb_2, hnl_2, hnh_2, rfl⟩ := inB_ofc (a := 1) (b := 24) (by omega) (by omega) hw_1.2.2.1
  refine lv_istore_n (lv' := [(2, .int (nI nb_2)), (0, .ref h0), (1, .ref x0)]) hx hb dX5_readDoors_14 rfl hl (by decide) rfl (fun ls hl => ?_)
  refine lv_aload_n hx hb dX5_readDoors_15 rfl (lv_at hl 1 rfl) ?_
  refine ro_i (D := D) (va_runV (As := []) (rest := []) ⟨hx, hb, hml, hown, hts⟩ ((x_doors l D k st lo h0 h1 h2 h3 h4 n see tm g) H.size) (cwV 0 hts (gV tw_477 tw_478 tw_479 tw_81 tw_480) rfl rfl rfl (by decide +kernel) ⟨Nat.le_of_ble_eq_true rfl, Nat.le_of_ble_eq_true rfl⟩) (pV hS hAlo hlo hP hK (va_Dlo hD hAlo) hZ [0, 1] (by decide) rfl (ci := 5) (q := (RX5, TX5, 4)) (q0 := 0) rfl rfl) rfl rfl hl.1 rfl (lv_room (Nat.le_of_ble_eq_true rfl)) dX5_readDoors_16 ⟨Nat.le_of_ble_eq_true rfl, Nat.le_of_ble_eq_true rfl⟩) hS hA hP (fun r_3 H locs hw_3 hP hS => ?_)
  try dsimp only at hw_3
  subst hw_3
  refine lv_istore_n (lv' := [(3, .int (nI n)), (2, .int (nI nb_2)), (0, .ref h0), (1, .ref x0)]) hx hb dX5_readDoors_19 rfl hl (by decide) rfl (fun ls hl => ?_)
  refine lv_aload_n hx hb dX5_readDoors_20 rfl (lv_at hl 3 rfl) ?_
  refine ro_i (D := D) (va_runV (As := []) (rest := []) ⟨hx, hb, hml, hown, hts⟩ ((x_failed l D k st lo x0 x1 tz ta__1 na__1 fn__1 fb__1) H.size) (cwV 0 hts (gV tw_367 tw_368 tw_369 tw_80 tw_370) rfl rfl rfl (by decide +kernel) ⟨Nat.le_of_ble_eq_true rfl, Nat.le_of_ble_eq_true rfl⟩) (pV hS hAlo hlo hP hK (va_Dlo hD hAlo) hZ [4] (by decide) rfl (ci := 6) (q := (RX6, TX6, 6)) (q0 := 0) rfl rfl) rfl rfl hl.1 rfl (lv_room (Nat.le_of_ble_eq_true rfl)) dX5_readDoors_21 ⟨Nat.le_of_ble_eq_true rfl, Nat.le_of_ble_eq_true rfl⟩) hS hA hP (fun r_4 H locs hw_4 hP hS => ?_)
  try dsimp only at hw_4
  rcases hw_4 with ⟨rfl, hw_4⟩ | ⟨rfl, rfl⟩
  · refine lv_if_ne (tgt := 44) hx hb dX5_readDoors_24 (by decide) (fun _ => ?_) (fun h => absurd h (by decide))
    refine lv_aload_n hx hb dX5_readDoors_44 rfl (lv_at hl 3 rfl) ?_
    refine va_ldcS hx hb hown (hZ.2.2.2.2.2.2.2.2.2.2 (RX5, 118, "free", 10) (List.mem_of_getElem? (i := 10) rfl)) dX5_readDoors_45 ?_
    refine rw_v (D := D) (wr := [(h0, .inr (5, (fX5 h1 h2 h3 h4))), (aI k h1 10 (vv n see tm g)), (aI k h2 24 ff), (aI k h3 24 fp)]) (va_runV (As := [.ref (st (100 + 10))]) (rest := []) ⟨hx, hb, hml, hown, hts⟩ ((x_needWord l D k st lo x0 x1 tz ta__1 na__1 fn__1 fb__1 fx 10 (by omega) (by omega) (by omega)) H.size) (cwV 1 hts (gV tw_482 tw_483 tw_484 tw_80 tw_485) rfl rfl rfl (by decide +kernel) ⟨Nat.le_of_ble_eq_true rfl, Nat.le_of_ble_eq_true rfl⟩) (pV hS hAlo hlo hP hK (va_Dlo hD hAlo) hZ [4, 5] (by decide) rfl (ci := 6) (q := (RX6, TX6, 6)) (q0 := 0) rfl rfl) rfl rfl hl.1 rfl (lv_room (Nat.le_of_ble_eq_true rfl)) dX5_readDoors_47 ⟨Nat.le_of_ble_eq_true rfl, Nat.le_of_ble_eq_true rfl⟩) hS hA hP hD [4, 5] [0, 1, 2, 3] rfl rfl (by decide) (by decide) (fun u H locs hw_5 hP hD hS => ?_)
    obtain ⟨ta__5, fn__5, fb__5⟩ := u
    replace hP : va_P D classes [(h0, .inr (5, (fX5 h1 h2 h3 h4))), (aI k h1 10 (vv n see tm g)), (aI k h2 24 ff), (aI k h3 24 fp), (x0, .inr (6, (fX6 x1 (nI tz) (nI ta__5) na__1 fn__5 fb__5))), (aB k x1 240 fx)] H := hP
    replace hD : va_D A [(h0, .inr (5, (fX5 h1 h2 h3 h4))), (aI k h1 10 (vv n see tm g)), (aI k h2 24 ff), (aI k h3 24 fp), (x0, .inr (6, (fX6 x1 (nI tz) (nI ta__5) na__1 fn__5 fb__5))), (aB k x1 240 fx)] := hD
    try dsimp only at hw_5
    have hnz_6 := hw_5.2.2.resolve_left hw_4
    refine lv_aload_n hx hb dX5_readDoors_50 rfl (lv_at hl 3 rfl) ?_
    refine lv_iconst (v := 0) hx hb dX5_readDoors_51 (by decide) ?_
    refine lv_bipush (v := 100) hx hb dX5_readDoors_52 (by decide) ?_
    refine rw_i (D := D) (wr := [(h0, .inr (5, (fX5 h1 h2 h3 h4))), (aI k h1 10 (vv n see tm g)), (aI k h2 24 ff), (aI k h3 24 fp)]) (va_runV (As := [.int 0, .int 100]) (rest := []) ⟨hx, hb, hml, hown, hts⟩ ((x_needNumber l D k st lo x0 x1 tz ta__5 na__1 fn__5 fb__5 fx 0 100 (by omega) (by omega) (by decide)) H.size) (cwV 2 hts (gV tw_467 tw_468 tw_469 tw_80 tw_470) rfl rfl rfl (by decide +kernel) ⟨Nat.le_of_ble_eq_true rfl, Nat.le_of_ble_eq_true rfl⟩) (pV hS hAlo hlo hP hK (va_Dlo hD hAlo) hZ [4, 5] (by decide) rfl (ci := 6) (q := (RX6, TX6, 6)) (q0 := 0) rfl rfl) rfl rfl hl.1 rfl (lv_room (Nat.le_of_ble_eq_true rfl)) dX5_readDoors_54 ⟨Nat.le_of_ble_eq_true rfl, Nat.le_of_ble_eq_true rfl⟩) hS hA hP hD [4, 5] [0, 1, 2, 3] rfl rfl (by decide) (by decide) (fun r_7 u H locs hw_7 hP hD hS => ?_)
    obtain ⟨ta__7, na__7, fn__7, fb__7⟩ := u
    replace hP : va_P D classes [(h0, .inr (5, (fX5 h1 h2 h3 h4))), (aI k h1 10 (vv n see tm g)), (aI k h2 24 ff), (aI k h3 24 fp), (x0, .inr (6, (fX6 x1 (nI tz) (nI ta__7) na__7 fn__7 fb__7))), (aB k x1 240 fx)] H := hP
    replace hD : va_D A [(h0, .inr (5, (fX5 h1 h2 h3 h4))), (aI k h1 10 (vv n see tm g)), (aI k h2 24 ff), (aI k h3 24 fp), (x0, .inr (6, (fX6 x1 (nI tz) (nI ta__7) na__7 fn__7 fb__7))), (aB k x1 240 fx)] := hD
    try dsimp only at hw_7
    have hnz_8 := hw_7.2.2.2.resolve_left hnz_6
    refine lv_istore (lv' := [(4, .int r_7), (3, .int (nI n)), (2, .int (nI nb_2)), (0, .ref h0), (1, .ref x0)]) hx hb dX5_readDoors_57 hl (by decide) rfl (fun ls hl => ?_)
    refine lv_aload_n hx hb dX5_readDoors_59 rfl (lv_at hl 4 rfl) ?_
    refine va_ldcS hx hb hown (hZ.2.2.2.2.2.2.2.2.2.2 (RX5, 124, "price", 11) (List.mem_of_getElem? (i := 11) rfl)) dX5_readDoors_60 ?_
    refine rw_v (D := D) (wr := [(h0, .inr (5, (fX5 h1 h2 h3 h4))), (aI k h1 10 (vv n see tm g)), (aI k h2 24 ff), (aI k h3 24 fp)]) (va_runV (As := [.ref (st (100 + 11))]) (rest := []) ⟨hx, hb, hml, hown, hts⟩ ((x_needWord l D k st lo x0 x1 tz ta__7 na__7 fn__7 fb__7 fx 11 (by omega) (by omega) (by omega)) H.size) (cwV 1 hts (gV tw_482 tw_483 tw_484 tw_80 tw_485) rfl rfl rfl (by decide +kernel) ⟨Nat.le_of_ble_eq_true rfl, Nat.le_of_ble_eq_true rfl⟩) (pV hS hAlo hlo hP hK (va_Dlo hD hAlo) hZ [4, 5] (by decide) rfl (ci := 6) (q := (RX6, TX6, 6)) (q0 := 0) rfl rfl) rfl rfl hl.1 rfl (lv_room (Nat.le_of_ble_eq_true rfl)) dX5_readDoors_62 ⟨Nat.le_of_ble_eq_true rfl, Nat.le_of_ble_eq_true rfl⟩) hS hA hP hD [4, 5] [0, 1, 2, 3] rfl rfl (by decide) (by decide) (fun u H locs hw_9 hP hD hS => ?_)
    obtain ⟨ta__9, fn__9, fb__9⟩ := u
    replace hP : va_P D classes [(h0, .inr (5, (fX5 h1 h2 h3 h4))), (aI k h1 10 (vv n see tm g)), (aI k h2 24 ff), (aI k h3 24 fp), (x0, .inr (6, (fX6 x1 (nI tz) (nI ta__9) na__7 fn__9 fb__9))), (aB k x1 240 fx)] H := hP
    replace hD : va_D A [(h0, .inr (5, (fX5 h1 h2 h3 h4))), (aI k h1 10 (vv n see tm g)), (aI k h2 24 ff), (aI k h3 24 fp), (x0, .inr (6, (fX6 x1 (nI tz) (nI ta__9) na__7 fn__9 fb__9))), (aB k x1 240 fx)] := hD
    try dsimp only at hw_9
    have hnz_10 := hw_9.2.2.resolve_left hnz_8
    refine lv_aload_n hx hb dX5_readDoors_65 rfl (lv_at hl 4 rfl) ?_
    refine lv_iconst (v := 0) hx hb dX5_readDoors_66 (by decide) ?_
    refine lv_sipush (v := 999) hx hb dX5_readDoors_67 (by decide) ?_
    refine rw_i (D := D) (wr := [(h0, .inr (5, (fX5 h1 h2 h3 h4))), (aI k h1 10 (vv n see tm g)), (aI k h2 24 ff), (aI k h3 24 fp)]) (va_runV (As := [.int 0, .int 999]) (rest := []) ⟨hx, hb, hml, hown, hts⟩ ((x_needNumber l D k st lo x0 x1 tz ta__9 na__7 fn__9 fb__9 fx 0 999 (by omega) (by omega) (by decide)) H.size) (cwV 2 hts (gV tw_467 tw_468 tw_469 tw_80 tw_470) rfl rfl rfl (by decide +kernel) ⟨Nat.le_of_ble_eq_true rfl, Nat.le_of_ble_eq_true rfl⟩) (pV hS hAlo hlo hP hK (va_Dlo hD hAlo) hZ [4, 5] (by decide) rfl (ci := 6) (q := (RX6, TX6, 6)) (q0 := 0) rfl rfl) rfl rfl hl.1 rfl (lv_room (Nat.le_of_ble_eq_true rfl)) dX5_readDoors_70 ⟨Nat.le_of_ble_eq_true rfl, Nat.le_of_ble_eq_true rfl⟩) hS hA hP hD [4, 5] [0, 1, 2, 3] rfl rfl (by decide) (by decide) (fun r_11 u H locs hw_11 hP hD hS => ?_)
    obtain ⟨ta__11, na__11, fn__11, fb__11⟩ := u
    replace hP : va_P D classes [(h0, .inr (5, (fX5 h1 h2 h3 h4))), (aI k h1 10 (vv n see tm g)), (aI k h2 24 ff), (aI k h3 24 fp), (x0, .inr (6, (fX6 x1 (nI tz) (nI ta__11) na__11 fn__11 fb__11))), (aB k x1 240 fx)] H := hP
    replace hD : va_D A [(h0, .inr (5, (fX5 h1 h2 h3 h4))), (aI k h1 10 (vv n see tm g)), (aI k h2 24 ff), (aI k h3 24 fp), (x0, .inr (6, (fX6 x1 (nI tz) (nI ta__11) na__11 fn__11 fb__11))), (aB k x1 240 fx)] := hD
    try dsimp only at hw_11
    have hnz_12 := hw_11.2.2.2.resolve_left hnz_10
    refine lv_istore (lv' := [(5, .int r_11), (4, .int r_7), (3, .int (nI n)), (2, .int (nI nb_2)), (0, .ref h0), (1, .ref x0)]) hx hb dX5_readDoors_73 hl (by decide) rfl (fun ls hl => ?_)
    refine lv_aload_n hx hb dX5_readDoors_75 rfl (lv_at hl 5 rfl) ?_
    refine rw_v (D := D) (wr := [(h0, .inr (5, (fX5 h1 h2 h3 h4))), (aI k h1 10 (vv n see tm g)), (aI k h2 24 ff), (aI k h3 24 fp)]) (va_runV (As := []) (rest := []) ⟨hx, hb, hml, hown, hts⟩ ((x_needSemicolon l D k st lo x0 x1 tz ta__11 na__11 fn__11 fb__11 fx (by omega) (by omega)) H.size) (cwV 0 hts (gV tw_488 tw_489 tw_490 tw_80 tw_491) rfl rfl rfl (by decide +kernel) ⟨Nat.le_of_ble_eq_true rfl, Nat.le_of_ble_eq_true rfl⟩) (pV hS hAlo hlo hP hK (va_Dlo hD hAlo) hZ [4, 5] (by decide) rfl (ci := 6) (q := (RX6, TX6, 6)) (q0 := 0) rfl rfl) rfl rfl hl.1 rfl (lv_room (Nat.le_of_ble_eq_true rfl)) dX5_readDoors_76 ⟨Nat.le_of_ble_eq_true rfl, Nat.le_of_ble_eq_true rfl⟩) hS hA hP hD [4, 5] [0, 1, 2, 3] rfl rfl (by decide) (by decide) (fun u H locs hw_13 hP hD hS => ?_)
    obtain ⟨ta__13, fn__13, fb__13⟩ := u
    replace hP : va_P D classes [(h0, .inr (5, (fX5 h1 h2 h3 h4))), (aI k h1 10 (vv n see tm g)), (aI k h2 24 ff), (aI k h3 24 fp), (x0, .inr (6, (fX6 x1 (nI tz) (nI ta__13) na__11 fn__13 fb__13))), (aB k x1 240 fx)] H := hP
    replace hD : va_D A [(h0, .inr (5, (fX5 h1 h2 h3 h4))), (aI k h1 10 (vv n see tm g)), (aI k h2 24 ff), (aI k h3 24 fp), (x0, .inr (6, (fX6 x1 (nI tz) (nI ta__13) na__11 fn__13 fb__13))), (aB k x1 240 fx)] := hD
    try dsimp only at hw_13
    have hnz_14 := hw_13.2.2.resolve_left hnz_12
    refine lv_aload_n hx hb dX5_readDoors_79 rfl (lv_at hl 5 rfl) ?_
    refine ro_i (D := D) (va_runV (As := []) (rest := []) ⟨hx, hb, hml, hown, hts⟩ ((x_failed l D k st lo x0 x1 tz ta__13 na__11 fn__13 fb__13) H.size) (cwV 0 hts (gV tw_367 tw_368 tw_369 tw_80 tw_370) rfl rfl rfl (by decide +kernel) ⟨Nat.le_of_ble_eq_true rfl, Nat.le_of_ble_eq_true rfl⟩) (pV hS hAlo hlo hP hK (va_Dlo hD hAlo) hZ [4] (by decide) rfl (ci := 6) (q := (RX6, TX6, 6)) (q0 := 0) rfl rfl) rfl rfl hl.1 rfl (lv_room (Nat.le_of_ble_eq_true rfl)) dX5_readDoors_80 ⟨Nat.le_of_ble_eq_true rfl, Nat.le_of_ble_eq_true rfl⟩) hS hA hP (fun r_15 H locs hw_15 hP hS => ?_)
    try dsimp only at hw_15
    obtain rfl : r_15 = 1 := by rcases hw_15 with ⟨h, h2⟩ | ⟨h, h2⟩ <;> first | exact h | exact absurd h2 hnz_14
    refine lv_if_eq (tgt := 87) hx hb dX5_readDoors_83 (by decide) (fun h => absurd h (by decide)) (fun _ => ?_)
    have hP9 := hP.sub (ws' := [(h0, .inr (5, (fX5 h1 h2 h3 h4))), (aI k h1 10 (vv n see tm g)), (aI k h2 24 ff), (aI k h3 24 fp), (x0, .inr (6, (fX6 x1 (nI tz) (nI ta__13) na__11 fn__13 fb__13))), (aB k x1 240 fx)]) [0, 1, 2, 3, 4, 5] rfl
    have hD9 := hD.sub (ws' := [(h0, .inr (5, (fX5 h1 h2 h3 h4))), (aI k h1 10 (vv n see tm g)), (aI k h2 24 ff), (aI k h3 24 fp), (x0, .inr (6, (fX6 x1 (nI tz) (nI ta__13) na__11 fn__13 fb__13))), (aB k x1 240 fx)]) [0, 1, 2, 3, 4, 5] (by decide) rfl
    exact W.vret hx hb hr (fun t ht hW => ⟨⟨(n, ff, fp, ta__13, na__11, fn__13, fb__13), rfl, ⟨by omega, by omega, by omega⟩, by rw [ht]; exact hP9, hD9⟩, hS.F ht⟩) hS.2.2 dX5_readDoors_86
  · refine lv_if_ne (tgt := 44) hx hb dX5_readDoors_24 (by decide) (fun h => absurd (by decide) h) (fun _ => ?_)
    refine lv_iload_n hx hb dX5_readDoors_27 rfl (lv_at hl 0 rfl) ?_
    refine lv_iload_n hx hb dX5_readDoors_28 rfl (lv_at hl 1 rfl) ?_
    refine lv_iadd hx hb dX5_readDoors_29 ?_
    refine lv_ti (y := (nI (n + nb_2))) (nI_add n nb_2) ?_
    refine lv_bipush (v := 24) hx hb dX5_readDoors_30 (by decide) ?_
    refine lv_icmp_le (tgt := 44) hx hb dX5_readDoors_32 (by decide) (fun c_16 => ?_) (fun c_16 => ?_)
    · have c_16 := (nI_leI (a := (n + nb_2)) (b := 24) (by omega) (by omega)).mp c_16
      refine lv_aload_n hx hb dX5_readDoors_44 rfl (lv_at hl 3 rfl) ?_
      refine va_ldcS hx hb hown (hZ.2.2.2.2.2.2.2.2.2.2 (RX5, 118, "free", 10) (List.mem_of_getElem? (i := 10) rfl)) dX5_readDoors_45 ?_
      refine rw_v (D := D) (wr := [(h0, .inr (5, (fX5 h1 h2 h3 h4))), (aI k h1 10 (vv n see tm g)), (aI k h2 24 ff), (aI k h3 24 fp)]) (va_runV (As := [.ref (st (100 + 10))]) (rest := []) ⟨hx, hb, hml, hown, hts⟩ ((x_needWord l D k st lo x0 x1 tz ta__1 na__1 0 fb__1 fx 10 (by omega) (by omega) (by omega)) H.size) (cwV 1 hts (gV tw_482 tw_483 tw_484 tw_80 tw_485) rfl rfl rfl (by decide +kernel) ⟨Nat.le_of_ble_eq_true rfl, Nat.le_of_ble_eq_true rfl⟩) (pV hS hAlo hlo hP hK (va_Dlo hD hAlo) hZ [4, 5] (by decide) rfl (ci := 6) (q := (RX6, TX6, 6)) (q0 := 0) rfl rfl) rfl rfl hl.1 rfl (lv_room (Nat.le_of_ble_eq_true rfl)) dX5_readDoors_47 ⟨Nat.le_of_ble_eq_true rfl, Nat.le_of_ble_eq_true rfl⟩) hS hA hP hD [4, 5] [0, 1, 2, 3] rfl rfl (by decide) (by decide) (fun u H locs hw_17 hP hD hS => ?_)
      obtain ⟨ta__17, fn__17, fb__17⟩ := u
      replace hP : va_P D classes [(h0, .inr (5, (fX5 h1 h2 h3 h4))), (aI k h1 10 (vv n see tm g)), (aI k h2 24 ff), (aI k h3 24 fp), (x0, .inr (6, (fX6 x1 (nI tz) (nI ta__17) na__1 fn__17 fb__17))), (aB k x1 240 fx)] H := hP
      replace hD : va_D A [(h0, .inr (5, (fX5 h1 h2 h3 h4))), (aI k h1 10 (vv n see tm g)), (aI k h2 24 ff), (aI k h3 24 fp), (x0, .inr (6, (fX6 x1 (nI tz) (nI ta__17) na__1 fn__17 fb__17))), (aB k x1 240 fx)] := hD
      try dsimp only at hw_17
      refine lv_aload_n hx hb dX5_readDoors_50 rfl (lv_at hl 3 rfl) ?_
      refine lv_iconst (v := 0) hx hb dX5_readDoors_51 (by decide) ?_
      refine lv_bipush (v := 100) hx hb dX5_readDoors_52 (by decide) ?_
      refine rw_i (D := D) (wr := [(h0, .inr (5, (fX5 h1 h2 h3 h4))), (aI k h1 10 (vv n see tm g)), (aI k h2 24 ff), (aI k h3 24 fp)]) (va_runV (As := [.int 0, .int 100]) (rest := []) ⟨hx, hb, hml, hown, hts⟩ ((x_needNumber l D k st lo x0 x1 tz ta__17 na__1 fn__17 fb__17 fx 0 100 (by omega) (by omega) (by decide)) H.size) (cwV 2 hts (gV tw_467 tw_468 tw_469 tw_80 tw_470) rfl rfl rfl (by decide +kernel) ⟨Nat.le_of_ble_eq_true rfl, Nat.le_of_ble_eq_true rfl⟩) (pV hS hAlo hlo hP hK (va_Dlo hD hAlo) hZ [4, 5] (by decide) rfl (ci := 6) (q := (RX6, TX6, 6)) (q0 := 0) rfl rfl) rfl rfl hl.1 rfl (lv_room (Nat.le_of_ble_eq_true rfl)) dX5_readDoors_54 ⟨Nat.le_of_ble_eq_true rfl, Nat.le_of_ble_eq_true rfl⟩) hS hA hP hD [4, 5] [0, 1, 2, 3] rfl rfl (by decide) (by decide) (fun r_18 u H locs hw_18 hP hD hS => ?_)
      obtain ⟨ta__18, na__18, fn__18, fb__18⟩ := u
      replace hP : va_P D classes [(h0, .inr (5, (fX5 h1 h2 h3 h4))), (aI k h1 10 (vv n see tm g)), (aI k h2 24 ff), (aI k h3 24 fp), (x0, .inr (6, (fX6 x1 (nI tz) (nI ta__18) na__18 fn__18 fb__18))), (aB k x1 240 fx)] H := hP
      replace hD : va_D A [(h0, .inr (5, (fX5 h1 h2 h3 h4))), (aI k h1 10 (vv n see tm g)), (aI k h2 24 ff), (aI k h3 24 fp), (x0, .inr (6, (fX6 x1 (nI tz) (nI ta__18) na__18 fn__18 fb__18))), (aB k x1 240 fx)] := hD
      try dsimp only at hw_18
      refine lv_istore (lv' := [(4, .int r_18), (3, .int (nI n)), (2, .int (nI nb_2)), (0, .ref h0), (1, .ref x0)]) hx hb dX5_readDoors_57 hl (by decide) rfl (fun ls hl => ?_)
      refine lv_aload_n hx hb dX5_readDoors_59 rfl (lv_at hl 4 rfl) ?_
      refine va_ldcS hx hb hown (hZ.2.2.2.2.2.2.2.2.2.2 (RX5, 124, "price", 11) (List.mem_of_getElem? (i := 11) rfl)) dX5_readDoors_60 ?_
      refine rw_v (D := D) (wr := [(h0, .inr (5, (fX5 h1 h2 h3 h4))), (aI k h1 10 (vv n see tm g)), (aI k h2 24 ff), (aI k h3 24 fp)]) (va_runV (As := [.ref (st (100 + 11))]) (rest := []) ⟨hx, hb, hml, hown, hts⟩ ((x_needWord l D k st lo x0 x1 tz ta__18 na__18 fn__18 fb__18 fx 11 (by omega) (by omega) (by omega)) H.size) (cwV 1 hts (gV tw_482 tw_483 tw_484 tw_80 tw_485) rfl rfl rfl (by decide +kernel) ⟨Nat.le_of_ble_eq_true rfl, Nat.le_of_ble_eq_true rfl⟩) (pV hS hAlo hlo hP hK (va_Dlo hD hAlo) hZ [4, 5] (by decide) rfl (ci := 6) (q := (RX6, TX6, 6)) (q0 := 0) rfl rfl) rfl rfl hl.1 rfl (lv_room (Nat.le_of_ble_eq_true rfl)) dX5_readDoors_62 ⟨Nat.le_of_ble_eq_true rfl, Nat.le_of_ble_eq_true rfl⟩) hS hA hP hD [4, 5] [0, 1, 2, 3] rfl rfl (by decide) (by decide) (fun u H locs hw_19 hP hD hS => ?_)
      obtain ⟨ta__19, fn__19, fb__19⟩ := u
      replace hP : va_P D classes [(h0, .inr (5, (fX5 h1 h2 h3 h4))), (aI k h1 10 (vv n see tm g)), (aI k h2 24 ff), (aI k h3 24 fp), (x0, .inr (6, (fX6 x1 (nI tz) (nI ta__19) na__18 fn__19 fb__19))), (aB k x1 240 fx)] H := hP
      replace hD : va_D A [(h0, .inr (5, (fX5 h1 h2 h3 h4))), (aI k h1 10 (vv n see tm g)), (aI k h2 24 ff), (aI k h3 24 fp), (x0, .inr (6, (fX6 x1 (nI tz) (nI ta__19) na__18 fn__19 fb__19))), (aB k x1 240 fx)] := hD
      try dsimp only at hw_19
      refine lv_aload_n hx hb dX5_readDoors_65 rfl (lv_at hl 4 rfl) ?_
      refine lv_iconst (v := 0) hx hb dX5_readDoors_66 (by decide) ?_
      refine lv_sipush (v := 999) hx hb dX5_readDoors_67 (by decide) ?_
      refine rw_i (D := D) (wr := [(h0, .inr (5, (fX5 h1 h2 h3 h4))), (aI k h1 10 (vv n see tm g)), (aI k h2 24 ff), (aI k h3 24 fp)]) (va_runV (As := [.int 0, .int 999]) (rest := []) ⟨hx, hb, hml, hown, hts⟩ ((x_needNumber l D k st lo x0 x1 tz ta__19 na__18 fn__19 fb__19 fx 0 999 (by omega) (by omega) (by decide)) H.size) (cwV 2 hts (gV tw_467 tw_468 tw_469 tw_80 tw_470) rfl rfl rfl (by decide +kernel) ⟨Nat.le_of_ble_eq_true rfl, Nat.le_of_ble_eq_true rfl⟩) (pV hS hAlo hlo hP hK (va_Dlo hD hAlo) hZ [4, 5] (by decide) rfl (ci := 6) (q := (RX6, TX6, 6)) (q0 := 0) rfl rfl) rfl rfl hl.1 rfl (lv_room (Nat.le_of_ble_eq_true rfl)) dX5_readDoors_70 ⟨Nat.le_of_ble_eq_true rfl, Nat.le_of_ble_eq_true rfl⟩) hS hA hP hD [4, 5] [0, 1, 2, 3] rfl rfl (by decide) (by decide) (fun r_20 u H locs hw_20 hP hD hS => ?_)
      obtain ⟨ta__20, na__20, fn__20, fb__20⟩ := u
      replace hP : va_P D classes [(h0, .inr (5, (fX5 h1 h2 h3 h4))), (aI k h1 10 (vv n see tm g)), (aI k h2 24 ff), (aI k h3 24 fp), (x0, .inr (6, (fX6 x1 (nI tz) (nI ta__20) na__20 fn__20 fb__20))), (aB k x1 240 fx)] H := hP
      replace hD : va_D A [(h0, .inr (5, (fX5 h1 h2 h3 h4))), (aI k h1 10 (vv n see tm g)), (aI k h2 24 ff), (aI k h3 24 fp), (x0, .inr (6, (fX6 x1 (nI tz) (nI ta__20) na__20 fn__20 fb__20))), (aB k x1 240 fx)] := hD
      try dsimp only at hw_20
      refine lv_istore (lv' := [(5, .int r_20), (4, .int r_18), (3, .int (nI n)), (2, .int (nI nb_2)), (0, .ref h0), (1, .ref x0)]) hx hb dX5_readDoors_73 hl (by decide) rfl (fun ls hl => ?_)
      refine lv_aload_n hx hb dX5_readDoors_75 rfl (lv_at hl 5 rfl) ?_
      refine rw_v (D := D) (wr := [(h0, .inr (5, (fX5 h1 h2 h3 h4))), (aI k h1 10 (vv n see tm g)), (aI k h2 24 ff), (aI k h3 24 fp)]) (va_runV (As := []) (rest := []) ⟨hx, hb, hml, hown, hts⟩ ((x_needSemicolon l D k st lo x0 x1 tz ta__20 na__20 fn__20 fb__20 fx (by omega) (by omega)) H.size) (cwV 0 hts (gV tw_488 tw_489 tw_490 tw_80 tw_491) rfl rfl rfl (by decide +kernel) ⟨Nat.le_of_ble_eq_true rfl, Nat.le_of_ble_eq_true rfl⟩) (pV hS hAlo hlo hP hK (va_Dlo hD hAlo) hZ [4, 5] (by decide) rfl (ci := 6) (q := (RX6, TX6, 6)) (q0 := 0) rfl rfl) rfl rfl hl.1 rfl (lv_room (Nat.le_of_ble_eq_true rfl)) dX5_readDoors_76 ⟨Nat.le_of_ble_eq_true rfl, Nat.le_of_ble_eq_true rfl⟩) hS hA hP hD [4, 5] [0, 1, 2, 3] rfl rfl (by decide) (by decide) (fun u H locs hw_21 hP hD hS => ?_)
      obtain ⟨ta__21, fn__21, fb__21⟩ := u
      replace hP : va_P D classes [(h0, .inr (5, (fX5 h1 h2 h3 h4))), (aI k h1 10 (vv n see tm g)), (aI k h2 24 ff), (aI k h3 24 fp), (x0, .inr (6, (fX6 x1 (nI tz) (nI ta__21) na__20 fn__21 fb__21))), (aB k x1 240 fx)] H := hP
      replace hD : va_D A [(h0, .inr (5, (fX5 h1 h2 h3 h4))), (aI k h1 10 (vv n see tm g)), (aI k h2 24 ff), (aI k h3 24 fp), (x0, .inr (6, (fX6 x1 (nI tz) (nI ta__21) na__20 fn__21 fb__21))), (aB k x1 240 fx)] := hD
      try dsimp only at hw_21
      refine lv_aload_n hx hb dX5_readDoors_79 rfl (lv_at hl 5 rfl) ?_
      refine ro_i (D := D) (va_runV (As := []) (rest := []) ⟨hx, hb, hml, hown, hts⟩ ((x_failed l D k st lo x0 x1 tz ta__21 na__20 fn__21 fb__21) H.size) (cwV 0 hts (gV tw_367 tw_368 tw_369 tw_80 tw_370) rfl rfl rfl (by decide +kernel) ⟨Nat.le_of_ble_eq_true rfl, Nat.le_of_ble_eq_true rfl⟩) (pV hS hAlo hlo hP hK (va_Dlo hD hAlo) hZ [4] (by decide) rfl (ci := 6) (q := (RX6, TX6, 6)) (q0 := 0) rfl rfl) rfl rfl hl.1 rfl (lv_room (Nat.le_of_ble_eq_true rfl)) dX5_readDoors_80 ⟨Nat.le_of_ble_eq_true rfl, Nat.le_of_ble_eq_true rfl⟩) hS hA hP (fun r_22 H locs hw_22 hP hS => ?_)
      try dsimp only at hw_22
      rcases hw_22 with ⟨rfl, hw_22⟩ | ⟨rfl, rfl⟩
      · refine lv_if_eq (tgt := 87) hx hb dX5_readDoors_83 (by decide) (fun h => absurd h (by decide)) (fun _ => ?_)
        have hP9 := hP.sub (ws' := [(h0, .inr (5, (fX5 h1 h2 h3 h4))), (aI k h1 10 (vv n see tm g)), (aI k h2 24 ff), (aI k h3 24 fp), (x0, .inr (6, (fX6 x1 (nI tz) (nI ta__21) na__20 fn__21 fb__21))), (aB k x1 240 fx)]) [0, 1, 2, 3, 4, 5] rfl
        have hD9 := hD.sub (ws' := [(h0, .inr (5, (fX5 h1 h2 h3 h4))), (aI k h1 10 (vv n see tm g)), (aI k h2 24 ff), (aI k h3 24 fp), (x0, .inr (6, (fX6 x1 (nI tz) (nI ta__21) na__20 fn__21 fb__21))), (aB k x1 240 fx)]) [0, 1, 2, 3, 4, 5] (by decide) rfl
        exact W.vret hx hb hr (fun t ht hW => ⟨⟨(n, ff, fp, ta__21, na__20, fn__21, fb__21), rfl, ⟨by omega, by omega, by omega⟩, by rw [ht]; exact hP9, hD9⟩, hS.F ht⟩) hS.2.2 dX5_readDoors_86
      · refine lv_if_eq (tgt := 87) hx hb dX5_readDoors_83 (by decide) (fun _ => ?_) (fun h => absurd (by decide) h)
        refine lv_iload_n hx hb dX5_readDoors_87 rfl (lv_at hl 2 rfl) ?_
        refine lv_istore (lv' := [(6, .int (nI n)), (5, .int r_20), (4, .int r_18), (3, .int (nI n)), (2, .int (nI nb_2)), (0, .ref h0), (1, .ref x0)]) hx hb dX5_readDoors_88 hl (by decide) rfl (fun ls hl => ?_)
        refine W_loop (σ := Nat × (Nat → Int32) × (Nat → Int32)) (fun (n_ : Nat) (x_ : Nat × (Nat → Int32) × (Nat → Int32)) (H : Heap) (locs : List Loc) (ls : Array Slot) => match x_ with | (ii_23, ff2_23, fp2_23) => n_ = 25 - ii_23 ∧ (ii_23 ≤ 24) ∧ va_P D classes [(h0, .inr (5, (fX5 h1 h2 h3 h4))), (aI k h1 10 (vv n see tm g)), (aI k h2 24 ff2_23), (aI k h3 24 fp2_23), (x0, .inr (6, (fX6 x1 (nI tz) (nI ta__21) na__20 0 fb__21))), (aB k x1 240 fx)] H ∧ va_D A [(h0, .inr (5, (fX5 h1 h2 h3 h4))), (aI k h1 10 (vv n see tm g)), (aI k h2 24 ff2_23), (aI k h3 24 fp2_23), (x0, .inr (6, (fX6 x1 (nI tz) (nI ta__21) na__20 0 fb__21))), (aB k x1 240 fx)] ∧ va_S A s.heap H locs ∧ lv_has ls 7 [(6, .int (nI ii_23)), (5, .int r_20), (4, .int r_18), (3, .int (nI n)), (2, .int (nI nb_2)), (0, .ref h0), (1, .ref x0)]) (fun n_23 x_23 H locs ls hI ih_23 => ?_) _ (n, ff, fp) ⟨rfl, (by omega), hP, hD, hS, (lv_sub hl [0, 1, 2, 3, 4, 5, 6] rfl)⟩
        obtain ⟨ii_23, ff2_23, fp2_23⟩ := x_23
        obtain ⟨hm_23, hv_23, hP, hD, hS, hl⟩ := hI
        subst hm_23
        refine lv_iload hx hb dX5_readDoors_90 (lv_at hl 0 rfl) ?_
        refine lv_iload_n hx hb dX5_readDoors_92 rfl (lv_at hl 3 rfl) ?_
        refine lv_iload_n hx hb dX5_readDoors_93 rfl (lv_at hl 4 rfl) ?_
        refine lv_iadd hx hb dX5_readDoors_94 ?_
        refine lv_ti (y := (nI (n + nb_2))) (nI_add n nb_2) ?_
        refine lv_icmp_ge (tgt := 129) hx hb dX5_readDoors_95 (by decide) (fun c_24 => ?_) (fun c_24 => ?_)
        · have c_24 := (nI_leI (a := (n + nb_2)) (b := ii_23) (by omega) (by omega)).mp c_24
          refine lv_aload_n hx hb dX5_readDoors_129 rfl (lv_at hl 5 rfl) ?_
          refine va_get (D := D) (ci := 5) (v := .ref h1) (C := RX5) (T := TX5) (N := 4) hx hb hts inX5 hown hK hP 0 rfl rfl 0 (by decide) (hts _ tw_146) (fun _ h9 => h9) rfl dX5_readDoors_130 ?_
          refine lv_iconst (v := 0) hx hb dX5_readDoors_133 (by decide) ?_
          refine lv_iload_n hx hb dX5_readDoors_134 rfl (lv_at hl 3 rfl) ?_
          refine lv_iload_n hx hb dX5_readDoors_135 rfl (lv_at hl 4 rfl) ?_
          refine lv_iadd hx hb dX5_readDoors_136 ?_
          refine lv_ti (y := (nI (n + nb_2))) (nI_add n nb_2) ?_
          refine va_iast hx hb hK hP hD hS 1 1 rfl rfl (by unfold vp_in; decide) dX5_readDoors_137 (fun H locs hP hD hS => ?_)
          replace hP : va_P D classes [(h0, .inr (5, (fX5 h1 h2 h3 h4))), (aI k h1 10 (upd (vv n see tm g) (Int32.toNatClampNeg 0) (nI (n + nb_2)))), (aI k h2 24 ff2_23), (aI k h3 24 fp2_23), (x0, .inr (6, (fX6 x1 (nI tz) (nI ta__21) na__20 0 fb__21))), (aB k x1 240 fx)] H := hP
          replace hD : va_D A [(h0, .inr (5, (fX5 h1 h2 h3 h4))), (aI k h1 10 (upd (vv n see tm g) (Int32.toNatClampNeg 0) (nI (n + nb_2)))), (aI k h2 24 ff2_23), (aI k h3 24 fp2_23), (x0, .inr (6, (fX6 x1 (nI tz) (nI ta__21) na__20 0 fb__21))), (aB k x1 240 fx)] := hD
          rw [show upd (vv n see tm g) (Int32.toNatClampNeg 0) (nI (n + nb_2)) = vv (n + nb_2) see tm g from vv_upd0 _ _ _ _ _] at hP hD
          replace hP : va_P D classes [(h0, .inr (5, (fX5 h1 h2 h3 h4))), (aI k h1 10 (vv (n + nb_2) see tm g)), (aI k h2 24 ff2_23), (aI k h3 24 fp2_23), (x0, .inr (6, (fX6 x1 (nI tz) (nI ta__21) na__20 0 fb__21))), (aB k x1 240 fx)] H := hP
          replace hD : va_D A [(h0, .inr (5, (fX5 h1 h2 h3 h4))), (aI k h1 10 (vv (n + nb_2) see tm g)), (aI k h2 24 ff2_23), (aI k h3 24 fp2_23), (x0, .inr (6, (fX6 x1 (nI tz) (nI ta__21) na__20 0 fb__21))), (aB k x1 240 fx)] := hD
          have hP9 := hP.sub (ws' := [(h0, .inr (5, (fX5 h1 h2 h3 h4))), (aI k h1 10 (vv (n + nb_2) see tm g)), (aI k h2 24 ff2_23), (aI k h3 24 fp2_23), (x0, .inr (6, (fX6 x1 (nI tz) (nI ta__21) na__20 0 fb__21))), (aB k x1 240 fx)]) [0, 1, 2, 3, 4, 5] rfl
          have hD9 := hD.sub (ws' := [(h0, .inr (5, (fX5 h1 h2 h3 h4))), (aI k h1 10 (vv (n + nb_2) see tm g)), (aI k h2 24 ff2_23), (aI k h3 24 fp2_23), (x0, .inr (6, (fX6 x1 (nI tz) (nI ta__21) na__20 0 fb__21))), (aB k x1 240 fx)]) [0, 1, 2, 3, 4, 5] (by decide) rfl
          exact W.vret hx hb hr (fun t ht hW => ⟨⟨((n + nb_2), ff2_23, fp2_23, ta__21, na__20, 0, fb__21), rfl, ⟨by omega, by omega, by omega⟩, by rw [ht]; exact hP9, hD9⟩, hS.F ht⟩) hS.2.2 dX5_readDoors_138
        · have c_24 : ¬ ((n + nb_2) ≤ ii_23) := fun h => c_24 ((nI_leI (a := (n + nb_2)) (b := ii_23) (by omega) (by omega)).mpr h)
          refine lv_iload hx hb dX5_readDoors_98 (lv_at hl 0 rfl) ?_
          refine lv_bipush (v := 24) hx hb dX5_readDoors_100 (by decide) ?_
          refine lv_icmp_ge (tgt := 129) hx hb dX5_readDoors_102 (by decide) (fun c_27 => ?_) (fun c_27 => ?_)
          · have c_27 := (nI_leI (a := 24) (b := ii_23) (by omega) (by omega)).mp c_27
            refine lv_aload_n hx hb dX5_readDoors_129 rfl (lv_at hl 5 rfl) ?_
            refine va_get (D := D) (ci := 5) (v := .ref h1) (C := RX5) (T := TX5) (N := 4) hx hb hts inX5 hown hK hP 0 rfl rfl 0 (by decide) (hts _ tw_146) (fun _ h9 => h9) rfl dX5_readDoors_130 ?_
            refine lv_iconst (v := 0) hx hb dX5_readDoors_133 (by decide) ?_
            refine lv_iload_n hx hb dX5_readDoors_134 rfl (lv_at hl 3 rfl) ?_
            refine lv_iload_n hx hb dX5_readDoors_135 rfl (lv_at hl 4 rfl) ?_
            refine lv_iadd hx hb dX5_readDoors_136 ?_
            refine lv_ti (y := (nI (n + nb_2))) (nI_add n nb_2) ?_
            refine va_iast hx hb hK hP hD hS 1 1 rfl rfl (by unfold vp_in; decide) dX5_readDoors_137 (fun H locs hP hD hS => ?_)
            replace hP : va_P D classes [(h0, .inr (5, (fX5 h1 h2 h3 h4))), (aI k h1 10 (upd (vv n see tm g) (Int32.toNatClampNeg 0) (nI (n + nb_2)))), (aI k h2 24 ff2_23), (aI k h3 24 fp2_23), (x0, .inr (6, (fX6 x1 (nI tz) (nI ta__21) na__20 0 fb__21))), (aB k x1 240 fx)] H := hP
            replace hD : va_D A [(h0, .inr (5, (fX5 h1 h2 h3 h4))), (aI k h1 10 (upd (vv n see tm g) (Int32.toNatClampNeg 0) (nI (n + nb_2)))), (aI k h2 24 ff2_23), (aI k h3 24 fp2_23), (x0, .inr (6, (fX6 x1 (nI tz) (nI ta__21) na__20 0 fb__21))), (aB k x1 240 fx)] := hD
            rw [show upd (vv n see tm g) (Int32.toNatClampNeg 0) (nI (n + nb_2)) = vv (n + nb_2) see tm g from vv_upd0 _ _ _ _ _] at hP hD
            replace hP : va_P D classes [(h0, .inr (5, (fX5 h1 h2 h3 h4))), (aI k h1 10 (vv (n + nb_2) see tm g)), (aI k h2 24 ff2_23), (aI k h3 24 fp2_23), (x0, .inr (6, (fX6 x1 (nI tz) (nI ta__21) na__20 0 fb__21))), (aB k x1 240 fx)] H := hP
            replace hD : va_D A [(h0, .inr (5, (fX5 h1 h2 h3 h4))), (aI k h1 10 (vv (n + nb_2) see tm g)), (aI k h2 24 ff2_23), (aI k h3 24 fp2_23), (x0, .inr (6, (fX6 x1 (nI tz) (nI ta__21) na__20 0 fb__21))), (aB k x1 240 fx)] := hD
            have hP9 := hP.sub (ws' := [(h0, .inr (5, (fX5 h1 h2 h3 h4))), (aI k h1 10 (vv (n + nb_2) see tm g)), (aI k h2 24 ff2_23), (aI k h3 24 fp2_23), (x0, .inr (6, (fX6 x1 (nI tz) (nI ta__21) na__20 0 fb__21))), (aB k x1 240 fx)]) [0, 1, 2, 3, 4, 5] rfl
            have hD9 := hD.sub (ws' := [(h0, .inr (5, (fX5 h1 h2 h3 h4))), (aI k h1 10 (vv (n + nb_2) see tm g)), (aI k h2 24 ff2_23), (aI k h3 24 fp2_23), (x0, .inr (6, (fX6 x1 (nI tz) (nI ta__21) na__20 0 fb__21))), (aB k x1 240 fx)]) [0, 1, 2, 3, 4, 5] (by decide) rfl
            exact W.vret hx hb hr (fun t ht hW => ⟨⟨((n + nb_2), ff2_23, fp2_23, ta__21, na__20, 0, fb__21), rfl, ⟨by omega, by omega, by omega⟩, by rw [ht]; exact hP9, hD9⟩, hS.F ht⟩) hS.2.2 dX5_readDoors_138
          · have c_27 : ¬ (24 ≤ ii_23) := fun h => c_27 ((nI_leI (a := 24) (b := ii_23) (by omega) (by omega)).mpr h)
            refine lv_aload_n hx hb dX5_readDoors_105 rfl (lv_at hl 5 rfl) ?_
            refine va_get (D := D) (ci := 5) (v := .ref h2) (C := RX5) (T := TX5) (N := 4) hx hb hts inX5 hown hK hP 0 rfl rfl 1 (by decide) (hts _ tw_150) (fun _ h9 => h9) rfl dX5_readDoors_106 ?_
            refine lv_iload hx hb dX5_readDoors_109 (lv_at hl 0 rfl) ?_
            refine lv_iload hx hb dX5_readDoors_111 (lv_at hl 2 rfl) ?_
            refine va_iast hx hb hK hP hD hS 2 1 rfl rfl (vp_in_nI (by omega) (by decide)) dX5_readDoors_113 (fun H locs hP hD hS => ?_)
            replace hP : va_P D classes [(h0, .inr (5, (fX5 h1 h2 h3 h4))), (aI k h1 10 (vv n see tm g)), (aI k h2 24 (upd ff2_23 (Int32.toNatClampNeg (nI ii_23)) r_18)), (aI k h3 24 fp2_23), (x0, .inr (6, (fX6 x1 (nI tz) (nI ta__21) na__20 0 fb__21))), (aB k x1 240 fx)] H := hP
            replace hD : va_D A [(h0, .inr (5, (fX5 h1 h2 h3 h4))), (aI k h1 10 (vv n see tm g)), (aI k h2 24 (upd ff2_23 (Int32.toNatClampNeg (nI ii_23)) r_18)), (aI k h3 24 fp2_23), (x0, .inr (6, (fX6 x1 (nI tz) (nI ta__21) na__20 0 fb__21))), (aB k x1 240 fx)] := hD
            generalize (upd ff2_23 (Int32.toNatClampNeg (nI ii_23)) r_18) = f_30 at hP hD
            refine lv_aload_n hx hb dX5_readDoors_114 rfl (lv_at hl 5 rfl) ?_
            refine va_get (D := D) (ci := 5) (v := .ref h3) (C := RX5) (T := TX5) (N := 4) hx hb hts inX5 hown hK hP 0 rfl rfl 2 (by decide) (hts _ tw_152) (fun _ h9 => h9) rfl dX5_readDoors_115 ?_
            refine lv_iload hx hb dX5_readDoors_118 (lv_at hl 0 rfl) ?_
            refine lv_iload hx hb dX5_readDoors_120 (lv_at hl 1 rfl) ?_
            refine va_iast hx hb hK hP hD hS 3 1 rfl rfl (vp_in_nI (by omega) (by decide)) dX5_readDoors_122 (fun H locs hP hD hS => ?_)
            replace hP : va_P D classes [(h0, .inr (5, (fX5 h1 h2 h3 h4))), (aI k h1 10 (vv n see tm g)), (aI k h2 24 f_30), (aI k h3 24 (upd fp2_23 (Int32.toNatClampNeg (nI ii_23)) r_20)), (x0, .inr (6, (fX6 x1 (nI tz) (nI ta__21) na__20 0 fb__21))), (aB k x1 240 fx)] H := hP
            replace hD : va_D A [(h0, .inr (5, (fX5 h1 h2 h3 h4))), (aI k h1 10 (vv n see tm g)), (aI k h2 24 f_30), (aI k h3 24 (upd fp2_23 (Int32.toNatClampNeg (nI ii_23)) r_20)), (x0, .inr (6, (fX6 x1 (nI tz) (nI ta__21) na__20 0 fb__21))), (aB k x1 240 fx)] := hD
            generalize (upd fp2_23 (Int32.toNatClampNeg (nI ii_23)) r_20) = f_31 at hP hD
            refine lv_iinc (v := (nI (ii_23 + 1))) (lv' := [(6, .int (nI (ii_23 + 1))), (5, .int r_20), (4, .int r_18), (3, .int (nI n)), (2, .int (nI nb_2)), (0, .ref h0), (1, .ref x0)]) hx hb dX5_readDoors_123 hl (k := 0) rfl (nI_add ii_23 1) (by decide) rfl (fun ls hl => ?_)
            refine lv_goto (tgt := 90) hx hb dX5_readDoors_126 (by decide) ?_
            exact ih_23 _ (ii_23 + 1, f_30, f_31) _ _ _ (by omega) ⟨rfl, (by omega), hP, hD, hS, (lv_sub hl [0, 1, 2, 3, 4, 5, 6] rfl)⟩
    · have c_16 : ¬ ((n + nb_2) ≤ 24) := fun h => c_16 ((nI_leI (a := (n + nb_2)) (b := 24) (by omega) (by omega)).mpr h)
      refine lv_aload_n hx hb dX5_readDoors_35 rfl (lv_at hl 3 rfl) ?_
      refine lv_iconst (v := 4) hx hb dX5_readDoors_36 (by decide) ?_
      refine lv_aload_n hx hb dX5_readDoors_37 rfl (lv_at hl 3 rfl) ?_
      refine va_get (D := D) (ci := 6) (v := .int na__1) (C := RX6) (T := TX6) (N := 6) hx hb hts inX6 hown hK hP 4 rfl rfl 3 (by decide) (hts _ tw_118) (fun _ h9 => h9) rfl dX5_readDoors_38 ?_
      refine rw_v (D := D) (wr := [(h0, .inr (5, (fX5 h1 h2 h3 h4))), (aI k h1 10 (vv n see tm g)), (aI k h2 24 ff), (aI k h3 24 fp), (aB k x1 240 fx)]) (va_runV (As := [.int 4, .int na__1]) (rest := []) ⟨hx, hb, hml, hown, hts⟩ ((x_fail l D k st lo x0 x1 tz ta__1 na__1 0 fb__1 4 na__1 (by decide)) H.size) (cwV 2 hts (gV tw_455 tw_456 tw_457 tw_80 tw_458) rfl rfl rfl (by decide +kernel) ⟨Nat.le_of_ble_eq_true rfl, Nat.le_of_ble_eq_true rfl⟩) (pV hS hAlo hlo hP hK (va_Dlo hD hAlo) hZ [4] (by decide) rfl (ci := 6) (q := (RX6, TX6, 6)) (q0 := 0) rfl rfl) rfl rfl hl.1 rfl (lv_room (Nat.le_of_ble_eq_true rfl)) dX5_readDoors_41 ⟨Nat.le_of_ble_eq_true rfl, Nat.le_of_ble_eq_true rfl⟩) hS hA hP hD [4] [0, 1, 2, 3, 5] rfl rfl (by decide) (by decide) (fun u H locs hw_32 hP hD hS => ?_)
      obtain ⟨fn__32, fb__32⟩ := u
      replace hP : va_P D classes [(h0, .inr (5, (fX5 h1 h2 h3 h4))), (aI k h1 10 (vv n see tm g)), (aI k h2 24 ff), (aI k h3 24 fp), (aB k x1 240 fx), (x0, .inr (6, (fX6 x1 (nI tz) (nI ta__1) na__1 fn__32 fb__32)))] H := hP
      replace hD : va_D A [(h0, .inr (5, (fX5 h1 h2 h3 h4))), (aI k h1 10 (vv n see tm g)), (aI k h2 24 ff), (aI k h3 24 fp), (aB k x1 240 fx), (x0, .inr (6, (fX6 x1 (nI tz) (nI ta__1) na__1 fn__32 fb__32)))] := hD
      try dsimp only at hw_32
      refine lv_aload_n hx hb dX5_readDoors_44 rfl (lv_at hl 3 rfl) ?_
      refine va_ldcS hx hb hown (hZ.2.2.2.2.2.2.2.2.2.2 (RX5, 118, "free", 10) (List.mem_of_getElem? (i := 10) rfl)) dX5_readDoors_45 ?_
      refine rw_v (D := D) (wr := [(h0, .inr (5, (fX5 h1 h2 h3 h4))), (aI k h1 10 (vv n see tm g)), (aI k h2 24 ff), (aI k h3 24 fp)]) (va_runV (As := [.ref (st (100 + 10))]) (rest := []) ⟨hx, hb, hml, hown, hts⟩ ((x_needWord l D k st lo x0 x1 tz ta__1 na__1 fn__32 fb__32 fx 10 (by omega) (by omega) (by omega)) H.size) (cwV 1 hts (gV tw_482 tw_483 tw_484 tw_80 tw_485) rfl rfl rfl (by decide +kernel) ⟨Nat.le_of_ble_eq_true rfl, Nat.le_of_ble_eq_true rfl⟩) (pV hS hAlo hlo hP hK (va_Dlo hD hAlo) hZ [5, 4] (by decide) rfl (ci := 6) (q := (RX6, TX6, 6)) (q0 := 0) rfl rfl) rfl rfl hl.1 rfl (lv_room (Nat.le_of_ble_eq_true rfl)) dX5_readDoors_47 ⟨Nat.le_of_ble_eq_true rfl, Nat.le_of_ble_eq_true rfl⟩) hS hA hP hD [5, 4] [0, 1, 2, 3] rfl rfl (by decide) (by decide) (fun u H locs hw_33 hP hD hS => ?_)
      obtain ⟨ta__33, fn__33, fb__33⟩ := u
      replace hP : va_P D classes [(h0, .inr (5, (fX5 h1 h2 h3 h4))), (aI k h1 10 (vv n see tm g)), (aI k h2 24 ff), (aI k h3 24 fp), (x0, .inr (6, (fX6 x1 (nI tz) (nI ta__33) na__1 fn__33 fb__33))), (aB k x1 240 fx)] H := hP
      replace hD : va_D A [(h0, .inr (5, (fX5 h1 h2 h3 h4))), (aI k h1 10 (vv n see tm g)), (aI k h2 24 ff), (aI k h3 24 fp), (x0, .inr (6, (fX6 x1 (nI tz) (nI ta__33) na__1 fn__33 fb__33))), (aB k x1 240 fx)] := hD
      try dsimp only at hw_33
      have hnz_34 := hw_33.2.2.resolve_left hw_32
      refine lv_aload_n hx hb dX5_readDoors_50 rfl (lv_at hl 3 rfl) ?_
      refine lv_iconst (v := 0) hx hb dX5_readDoors_51 (by decide) ?_
      refine lv_bipush (v := 100) hx hb dX5_readDoors_52 (by decide) ?_
      refine rw_i (D := D) (wr := [(h0, .inr (5, (fX5 h1 h2 h3 h4))), (aI k h1 10 (vv n see tm g)), (aI k h2 24 ff), (aI k h3 24 fp)]) (va_runV (As := [.int 0, .int 100]) (rest := []) ⟨hx, hb, hml, hown, hts⟩ ((x_needNumber l D k st lo x0 x1 tz ta__33 na__1 fn__33 fb__33 fx 0 100 (by omega) (by omega) (by decide)) H.size) (cwV 2 hts (gV tw_467 tw_468 tw_469 tw_80 tw_470) rfl rfl rfl (by decide +kernel) ⟨Nat.le_of_ble_eq_true rfl, Nat.le_of_ble_eq_true rfl⟩) (pV hS hAlo hlo hP hK (va_Dlo hD hAlo) hZ [4, 5] (by decide) rfl (ci := 6) (q := (RX6, TX6, 6)) (q0 := 0) rfl rfl) rfl rfl hl.1 rfl (lv_room (Nat.le_of_ble_eq_true rfl)) dX5_readDoors_54 ⟨Nat.le_of_ble_eq_true rfl, Nat.le_of_ble_eq_true rfl⟩) hS hA hP hD [4, 5] [0, 1, 2, 3] rfl rfl (by decide) (by decide) (fun r_35 u H locs hw_35 hP hD hS => ?_)
      obtain ⟨ta__35, na__35, fn__35, fb__35⟩ := u
      replace hP : va_P D classes [(h0, .inr (5, (fX5 h1 h2 h3 h4))), (aI k h1 10 (vv n see tm g)), (aI k h2 24 ff), (aI k h3 24 fp), (x0, .inr (6, (fX6 x1 (nI tz) (nI ta__35) na__35 fn__35 fb__35))), (aB k x1 240 fx)] H := hP
      replace hD : va_D A [(h0, .inr (5, (fX5 h1 h2 h3 h4))), (aI k h1 10 (vv n see tm g)), (aI k h2 24 ff), (aI k h3 24 fp), (x0, .inr (6, (fX6 x1 (nI tz) (nI ta__35) na__35 fn__35 fb__35))), (aB k x1 240 fx)] := hD
      try dsimp only at hw_35
      have hnz_36 := hw_35.2.2.2.resolve_left hnz_34
      refine lv_istore (lv' := [(4, .int r_35), (3, .int (nI n)), (2, .int (nI nb_2)), (0, .ref h0), (1, .ref x0)]) hx hb dX5_readDoors_57 hl (by decide) rfl (fun ls hl => ?_)
      refine lv_aload_n hx hb dX5_readDoors_59 rfl (lv_at hl 4 rfl) ?_
      refine va_ldcS hx hb hown (hZ.2.2.2.2.2.2.2.2.2.2 (RX5, 124, "price", 11) (List.mem_of_getElem? (i := 11) rfl)) dX5_readDoors_60 ?_
      refine rw_v (D := D) (wr := [(h0, .inr (5, (fX5 h1 h2 h3 h4))), (aI k h1 10 (vv n see tm g)), (aI k h2 24 ff), (aI k h3 24 fp)]) (va_runV (As := [.ref (st (100 + 11))]) (rest := []) ⟨hx, hb, hml, hown, hts⟩ ((x_needWord l D k st lo x0 x1 tz ta__35 na__35 fn__35 fb__35 fx 11 (by omega) (by omega) (by omega)) H.size) (cwV 1 hts (gV tw_482 tw_483 tw_484 tw_80 tw_485) rfl rfl rfl (by decide +kernel) ⟨Nat.le_of_ble_eq_true rfl, Nat.le_of_ble_eq_true rfl⟩) (pV hS hAlo hlo hP hK (va_Dlo hD hAlo) hZ [4, 5] (by decide) rfl (ci := 6) (q := (RX6, TX6, 6)) (q0 := 0) rfl rfl) rfl rfl hl.1 rfl (lv_room (Nat.le_of_ble_eq_true rfl)) dX5_readDoors_62 ⟨Nat.le_of_ble_eq_true rfl, Nat.le_of_ble_eq_true rfl⟩) hS hA hP hD [4, 5] [0, 1, 2, 3] rfl rfl (by decide) (by decide) (fun u H locs hw_37 hP hD hS => ?_)
      obtain ⟨ta__37, fn__37, fb__37⟩ := u
      replace hP : va_P D classes [(h0, .inr (5, (fX5 h1 h2 h3 h4))), (aI k h1 10 (vv n see tm g)), (aI k h2 24 ff), (aI k h3 24 fp), (x0, .inr (6, (fX6 x1 (nI tz) (nI ta__37) na__35 fn__37 fb__37))), (aB k x1 240 fx)] H := hP
      replace hD : va_D A [(h0, .inr (5, (fX5 h1 h2 h3 h4))), (aI k h1 10 (vv n see tm g)), (aI k h2 24 ff), (aI k h3 24 fp), (x0, .inr (6, (fX6 x1 (nI tz) (nI ta__37) na__35 fn__37 fb__37))), (aB k x1 240 fx)] := hD
      try dsimp only at hw_37
      have hnz_38 := hw_37.2.2.resolve_left hnz_36
      refine lv_aload_n hx hb dX5_readDoors_65 rfl (lv_at hl 4 rfl) ?_
      refine lv_iconst (v := 0) hx hb dX5_readDoors_66 (by decide) ?_
      refine lv_sipush (v := 999) hx hb dX5_readDoors_67 (by decide) ?_
      refine rw_i (D := D) (wr := [(h0, .inr (5, (fX5 h1 h2 h3 h4))), (aI k h1 10 (vv n see tm g)), (aI k h2 24 ff), (aI k h3 24 fp)]) (va_runV (As := [.int 0, .int 999]) (rest := []) ⟨hx, hb, hml, hown, hts⟩ ((x_needNumber l D k st lo x0 x1 tz ta__37 na__35 fn__37 fb__37 fx 0 999 (by omega) (by omega) (by decide)) H.size) (cwV 2 hts (gV tw_467 tw_468 tw_469 tw_80 tw_470) rfl rfl rfl (by decide +kernel) ⟨Nat.le_of_ble_eq_true rfl, Nat.le_of_ble_eq_true rfl⟩) (pV hS hAlo hlo hP hK (va_Dlo hD hAlo) hZ [4, 5] (by decide) rfl (ci := 6) (q := (RX6, TX6, 6)) (q0 := 0) rfl rfl) rfl rfl hl.1 rfl (lv_room (Nat.le_of_ble_eq_true rfl)) dX5_readDoors_70 ⟨Nat.le_of_ble_eq_true rfl, Nat.le_of_ble_eq_true rfl⟩) hS hA hP hD [4, 5] [0, 1, 2, 3] rfl rfl (by decide) (by decide) (fun r_39 u H locs hw_39 hP hD hS => ?_)
      obtain ⟨ta__39, na__39, fn__39, fb__39⟩ := u
      replace hP : va_P D classes [(h0, .inr (5, (fX5 h1 h2 h3 h4))), (aI k h1 10 (vv n see tm g)), (aI k h2 24 ff), (aI k h3 24 fp), (x0, .inr (6, (fX6 x1 (nI tz) (nI ta__39) na__39 fn__39 fb__39))), (aB k x1 240 fx)] H := hP
      replace hD : va_D A [(h0, .inr (5, (fX5 h1 h2 h3 h4))), (aI k h1 10 (vv n see tm g)), (aI k h2 24 ff), (aI k h3 24 fp), (x0, .inr (6, (fX6 x1 (nI tz) (nI ta__39) na__39 fn__39 fb__39))), (aB k x1 240 fx)] := hD
      try dsimp only at hw_39
      have hnz_40 := hw_39.2.2.2.resolve_left hnz_38
      refine lv_istore (lv' := [(5, .int r_39), (4, .int r_35), (3, .int (nI n)), (2, .int (nI nb_2)), (0, .ref h0), (1, .ref x0)]) hx hb dX5_readDoors_73 hl (by decide) rfl (fun ls hl => ?_)
      refine lv_aload_n hx hb dX5_readDoors_75 rfl (lv_at hl 5 rfl) ?_
      refine rw_v (D := D) (wr := [(h0, .inr (5, (fX5 h1 h2 h3 h4))), (aI k h1 10 (vv n see tm g)), (aI k h2 24 ff), (aI k h3 24 fp)]) (va_runV (As := []) (rest := []) ⟨hx, hb, hml, hown, hts⟩ ((x_needSemicolon l D k st lo x0 x1 tz ta__39 na__39 fn__39 fb__39 fx (by omega) (by omega)) H.size) (cwV 0 hts (gV tw_488 tw_489 tw_490 tw_80 tw_491) rfl rfl rfl (by decide +kernel) ⟨Nat.le_of_ble_eq_true rfl, Nat.le_of_ble_eq_true rfl⟩) (pV hS hAlo hlo hP hK (va_Dlo hD hAlo) hZ [4, 5] (by decide) rfl (ci := 6) (q := (RX6, TX6, 6)) (q0 := 0) rfl rfl) rfl rfl hl.1 rfl (lv_room (Nat.le_of_ble_eq_true rfl)) dX5_readDoors_76 ⟨Nat.le_of_ble_eq_true rfl, Nat.le_of_ble_eq_true rfl⟩) hS hA hP hD [4, 5] [0, 1, 2, 3] rfl rfl (by decide) (by decide) (fun u H locs hw_41 hP hD hS => ?_)
      obtain ⟨ta__41, fn__41, fb__41⟩ := u
      replace hP : va_P D classes [(h0, .inr (5, (fX5 h1 h2 h3 h4))), (aI k h1 10 (vv n see tm g)), (aI k h2 24 ff), (aI k h3 24 fp), (x0, .inr (6, (fX6 x1 (nI tz) (nI ta__41) na__39 fn__41 fb__41))), (aB k x1 240 fx)] H := hP
      replace hD : va_D A [(h0, .inr (5, (fX5 h1 h2 h3 h4))), (aI k h1 10 (vv n see tm g)), (aI k h2 24 ff), (aI k h3 24 fp), (x0, .inr (6, (fX6 x1 (nI tz) (nI ta__41) na__39 fn__41 fb__41))), (aB k x1 240 fx)] := hD
      try dsimp only at hw_41
      have hnz_42 := hw_41.2.2.resolve_left hnz_40
      refine lv_aload_n hx hb dX5_readDoors_79 rfl (lv_at hl 5 rfl) ?_
      refine ro_i (D := D) (va_runV (As := []) (rest := []) ⟨hx, hb, hml, hown, hts⟩ ((x_failed l D k st lo x0 x1 tz ta__41 na__39 fn__41 fb__41) H.size) (cwV 0 hts (gV tw_367 tw_368 tw_369 tw_80 tw_370) rfl rfl rfl (by decide +kernel) ⟨Nat.le_of_ble_eq_true rfl, Nat.le_of_ble_eq_true rfl⟩) (pV hS hAlo hlo hP hK (va_Dlo hD hAlo) hZ [4] (by decide) rfl (ci := 6) (q := (RX6, TX6, 6)) (q0 := 0) rfl rfl) rfl rfl hl.1 rfl (lv_room (Nat.le_of_ble_eq_true rfl)) dX5_readDoors_80 ⟨Nat.le_of_ble_eq_true rfl, Nat.le_of_ble_eq_true rfl⟩) hS hA hP (fun r_43 H locs hw_43 hP hS => ?_)
      try dsimp only at hw_43
      obtain rfl : r_43 = 1 := by rcases hw_43 with ⟨h, h2⟩ | ⟨h, h2⟩ <;> first | exact h | exact absurd h2 hnz_42
      refine lv_if_eq (tgt := 87) hx hb dX5_readDoors_83 (by decide) (fun h => absurd h (by decide)) (fun _ => ?_)
      have hP9 := hP.sub (ws' := [(h0, .inr (5, (fX5 h1 h2 h3 h4))), (aI k h1 10 (vv n see tm g)), (aI k h2 24 ff), (aI k h3 24 fp), (x0, .inr (6, (fX6 x1 (nI tz) (nI ta__41) na__39 fn__41 fb__41))), (aB k x1 240 fx)]) [0, 1, 2, 3, 4, 5] rfl
      have hD9 := hD.sub (ws' := [(h0, .inr (5, (fX5 h1 h2 h3 h4))), (aI k h1 10 (vv n see tm g)), (aI k h2 24 ff), (aI k h3 24 fp), (x0, .inr (6, (fX6 x1 (nI tz) (nI ta__41) na__39 fn__41 fb__41))), (aB k x1 240 fx)]) [0, 1, 2, 3, 4, 5] (by decide) rfl
      exact W.vret hx hb hr (fun t ht hW => ⟨⟨(n, ff, fp, ta__41, na__39, fn__41, fb__41), rfl, ⟨by omega, by omega, by omega⟩, by rw [ht]; exact hP9, hD9⟩, hS.F ht⟩) hS.2.2 dX5_readDoors_86


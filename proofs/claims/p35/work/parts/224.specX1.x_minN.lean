set_option maxHeartbeats 4000000 in
set_option maxRecDepth 100000 in
theorem x_minN (l : Launch) (D : va_G) (k : Nat → ClassId) (st : Nat → Nat) (lo : Nat) (v0 : Nat) (v1 : Nat) (hv0 : v0 < 2 ^ 31) (hv1 : v1 < 2 ^ 31) : CRi l D k st lo yJ9_min_7cf53 cJ9_min_7cf53 2 (some .int) ({ frames := 0, cells := 0, slots := 0, locals := 0 }) [.int (nI v0), .int (nI v1)] [] (fun r => r = nI (min v0 v1)) := by
  intro sz
  refine Met.ofW (cc := cJ9_min_7cf53) (maxL := 2) (ret := (some .int)) (by decide) rfl ?_
  intro p e s m args below meth c s₁ B hml hv
  obtain ⟨rfl, hsz, hlo, hP, hK, hDL, hZ⟩ := hv
  have hx := B.exec
  have hb := B.bytes
  have hr := B.returns
  have hts := WS_ts B.pre
  have hown : s.vm.findClass RJ9 = some m.cls := findClass_of_methodNamed B.named
  have hlocks := B.notSynchronized
  subst hsz
  have hA : ∀ q : Nat, s.heap.size ≤ q → (fun q : Nat => s.heap.size ≤ q) q := fun _ h => h
  have hAlo : ∀ q : Nat, (fun q : Nat => s.heap.size ≤ q) q → lo ≤ q := fun q h => Nat.le_trans hlo h
  have hS : va_S (fun q : Nat => s.heap.size ≤ q) s.heap s.heap [] := va_S.rf
  have hl := lv_entry ([.int (nI v0), .int (nI v1)]) (n := 2) (Nat.le_of_ble_eq_true rfl)
  rw [lg_entry_eq]
  generalize (lg_sl ([.int (nI v0), .int (nI v1)]) ++ List.replicate (2 - (lg_sl ([.int (nI v0), .int (nI v1)])).length) Slot.unset).toArray = ls at hl ⊢
  have hl : lv_has ls 2 [(0, .int (nI v0)), (1, .int (nI v1))] := hl
  refine lv_iload_n hx hb dJ9_min_7cf53_0 rfl (lv_at hl 0 rfl) ?_
  refine lv_iload_n hx hb dJ9_min_7cf53_1 rfl (lv_at hl 1 rfl) ?_
  refine lv_icmp_gt (tgt := 9) hx hb dJ9_min_7cf53_2 (by decide) (fun c_1 => ?_) (fun c_1 => ?_)
  · have c_1 := (nI_ltI (a := v1) (b := v0) (by omega) (by omega)).mp c_1
    refine lv_iload_n hx hb dJ9_min_7cf53_9 rfl (lv_at hl 1 rfl) ?_
    exact W.iret (v := (nI v1)) hx hb hr (fun t ht hW => ⟨⟨(nI v1), (), rfl, (by show (_ : Int32) = _; congr 1; omega), trivial⟩, hS.F ht⟩) hS.2.2 dJ9_min_7cf53_10
  · have c_1 : ¬ (v1 < v0) := fun h => c_1 ((nI_ltI (a := v1) (b := v0) (by omega) (by omega)).mpr h)
    refine lv_iload_n hx hb dJ9_min_7cf53_5 rfl (lv_at hl 0 rfl) ?_
    refine lv_goto (tgt := 10) hx hb dJ9_min_7cf53_6 (by decide) ?_
    exact W.iret (v := (nI v0)) hx hb hr (fun t ht hW => ⟨⟨(nI v0), (), rfl, (by show (_ : Int32) = _; congr 1; omega), trivial⟩, hS.F ht⟩) hS.2.2 dJ9_min_7cf53_10


theorem dX7_isRule_0 : decode cX7_isRule 0 = .ok (.iload_n 1, 1) := by decide +kernel
theorem dX7_isRule_1 : decode cX7_isRule 1 = .ok (.ifCond .lt 15, 3) := by decide +kernel
theorem dX7_isRule_4 : decode cX7_isRule 4 = .ok (.iload_n 1, 1) := by decide +kernel
theorem dX7_isRule_5 : decode cX7_isRule 5 = .ok (.aload_n 0, 1) := by decide +kernel
theorem dX7_isRule_6 : decode cX7_isRule 6 = .ok (.getfield 39, 3) := by decide +kernel
theorem dX7_isRule_9 : decode cX7_isRule 9 = .ok (.if_icmp .ge 7, 3) := by decide +kernel
theorem dX7_isRule_12 : decode cX7_isRule 12 = .ok (.iconst 1, 1) := by decide +kernel
theorem dX7_isRule_13 : decode cX7_isRule 13 = .ok (.goto 4, 3) := by decide +kernel
theorem dX7_isRule_16 : decode cX7_isRule 16 = .ok (.iconst 0, 1) := by decide +kernel
theorem dX7_isRule_17 : decode cX7_isRule 17 = .ok (.ireturn, 1) := by decide +kernel
set_option maxHeartbeats 4000000 in
set_option maxRecDepth 100000 in
theorem x_isRule (l : Launch) (D : va_G) (k : Nat → ClassId) (st : Nat → Nat) (lo : Nat) (a : Nat → Nat) (rk : Nat) (lfa : Int32) (pz : Int32) (hrk : rk ≤ 4) : CRi l D k st lo yX7_isRule cX7_isRule 2 (some .boolean) ({ frames := 0, cells := 0, slots := 0, locals := 0 }) [.ref (a 0), .int pz] [((a 0), .inr (7, [.ref (a 1), .ref (a 3), .ref (a 19), .ref (a 35), .ref (a 40), .int (nI rk), .int lfa, .ref (a 53), .ref (a 56), .ref (a 63), .ref (a 64), .ref (a 68)]))] (fun r => (r = 1 ∧ ((pz = 0 ∧ 0 < rk) ∨ (pz = 1 ∧ 1 < rk) ∨ (pz = 2 ∧ 2 < rk) ∨ (pz = 3 ∧ 3 < rk))) ∨ r = 0) := by
  intro sz
  refine Met.ofW (cc := cX7_isRule) (maxL := 2) (ret := (some .boolean)) (by decide) rfl ?_
  intro p e s m args below meth c s₁ B hml hv
  obtain ⟨rfl, hsz, hlo, hP, hK, hDL, hZ⟩ := hv
  have hx := B.exec
  have hb := B.bytes
  have hr := B.returns
  have hts := WS_ts B.pre
  have hown : s.vm.findClass RX7 = some m.cls := findClass_of_methodNamed B.named
  have hlocks := B.notSynchronized
  subst hsz
  have hA : ∀ q : Nat, s.heap.size ≤ q → (fun q : Nat => s.heap.size ≤ q) q := fun _ h => h
  have hAlo : ∀ q : Nat, (fun q : Nat => s.heap.size ≤ q) q → lo ≤ q := fun q h => Nat.le_trans hlo h
  have hS : va_S (fun q : Nat => s.heap.size ≤ q) s.heap s.heap [] := va_S.rf
  have hl := lv_entry ([.ref (a 0), .int pz]) (n := 2) (Nat.le_of_ble_eq_true rfl)
  rw [lg_entry_eq]
  generalize (lg_sl ([.ref (a 0), .int pz]) ++ List.replicate (2 - (lg_sl ([.ref (a 0), .int pz])).length) Slot.unset).toArray = ls at hl ⊢
  have hl : lv_has ls 2 [(0, .ref (a 0)), (1, .int pz)] := hl
  refine lv_iload_n hx hb dX7_isRule_0 rfl (lv_at hl 1 rfl) ?_
  refine lv_if_lt (tgt := 16) hx hb dX7_isRule_1 (by decide) (fun c_1 => ?_) (fun c_1 => ?_)
  · refine lv_iconst (v := 0) hx hb dX7_isRule_16 (by decide) ?_
    exact W.zret (v := 0) (ty := .boolean) hx hb hr rfl (fun t ht hW => ⟨⟨0, (), rfl, .inr rfl, trivial⟩, hS.F ht⟩) hS.2.2 dX7_isRule_17
  · obtain ⟨i_9, hi_9, rfl⟩ := nI_of c_1
    refine lv_iload_n hx hb dX7_isRule_4 rfl (lv_at hl 1 rfl) ?_
    refine lv_aload_n hx hb dX7_isRule_5 rfl (lv_at hl 0 rfl) ?_
    refine va_get (D := D) (ci := 7) (v := .int (nI rk)) (C := RX7) (T := TX7) (N := 12) hx hb hts inX7 hown hK hP 0 rfl rfl 5 (by decide) (hts _ tw_310) (fun _ h9 => h9) rfl dX7_isRule_6 ?_
    refine lv_icmp_ge (tgt := 16) hx hb dX7_isRule_9 (by decide) (fun c_2 => ?_) (fun c_2 => ?_)
    · have c_2 := (nI_leI (a := rk) (b := i_9) (by omega) (by omega)).mp c_2
      refine lv_iconst (v := 0) hx hb dX7_isRule_16 (by decide) ?_
      exact W.zret (v := 0) (ty := .boolean) hx hb hr rfl (fun t ht hW => ⟨⟨0, (), rfl, .inr rfl, trivial⟩, hS.F ht⟩) hS.2.2 dX7_isRule_17
    · have c_2 : ¬ (rk ≤ i_9) := fun h => c_2 ((nI_leI (a := rk) (b := i_9) (by omega) (by omega)).mpr h)
      rcases (show i_9 = 0 ∨ i_9 = 1 ∨ i_9 = 2 ∨ i_9 = 3 by omega) with rfl | rfl | rfl | rfl
      · refine lv_iconst (v := 1) hx hb dX7_isRule_12 (by decide) ?_
        refine lv_goto (tgt := 17) hx hb dX7_isRule_13 (by decide) ?_
        exact W.zret (v := 1) (ty := .boolean) hx hb hr rfl (fun t ht hW => ⟨⟨1, (), rfl, .inl ⟨rfl, .inl ⟨rfl, by omega⟩⟩, trivial⟩, hS.F ht⟩) hS.2.2 dX7_isRule_17
      · refine lv_iconst (v := 1) hx hb dX7_isRule_12 (by decide) ?_
        refine lv_goto (tgt := 17) hx hb dX7_isRule_13 (by decide) ?_
        exact W.zret (v := 1) (ty := .boolean) hx hb hr rfl (fun t ht hW => ⟨⟨1, (), rfl, .inl ⟨rfl, .inr (.inl ⟨rfl, by omega⟩)⟩, trivial⟩, hS.F ht⟩) hS.2.2 dX7_isRule_17
      · refine lv_iconst (v := 1) hx hb dX7_isRule_12 (by decide) ?_
        refine lv_goto (tgt := 17) hx hb dX7_isRule_13 (by decide) ?_
        exact W.zret (v := 1) (ty := .boolean) hx hb hr rfl (fun t ht hW => ⟨⟨1, (), rfl, .inl ⟨rfl, .inr (.inr (.inl ⟨rfl, by omega⟩))⟩, trivial⟩, hS.F ht⟩) hS.2.2 dX7_isRule_17
      · refine lv_iconst (v := 1) hx hb dX7_isRule_12 (by decide) ?_
        refine lv_goto (tgt := 17) hx hb dX7_isRule_13 (by decide) ?_
        exact W.zret (v := 1) (ty := .boolean) hx hb hr rfl (fun t ht hW => ⟨⟨1, (), rfl, .inl ⟨rfl, .inr (.inr (.inr ⟨rfl, by omega⟩))⟩, trivial⟩, hS.F ht⟩) hS.2.2 dX7_isRule_17


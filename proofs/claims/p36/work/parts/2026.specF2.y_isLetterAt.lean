set_option maxHeartbeats 4000000 in
set_option maxRecDepth 100000 in
theorem y_isLetterAt (l : Launch) (D : va_G) (k : Nat → ClassId) (st : Nat → Nat) (lo : Nat) (x0 : Nat) (x1 : Nat) (tz : Nat) (ta : Nat) (na : Int32) (fn : Int32) (fb : Int32) (fx : Nat → Int32) (i : Nat) (hz : tz ≤ 240) (hi : i < 2 ^ 31) : CRi l D k st lo yX6_isLetterAt cX6_isLetterAt 3 (some .boolean) ({ frames := 1, cells := 0, slots := 0, locals := 21 }) [.ref x0, .int (nI i)] [(x0, .inr (6, (fX6 x1 (nI tz) (nI ta) na fn fb))), (aB k x1 240 fx)] (fun r => isB r (byF (bF fx) tz i) 97 122) := by
  intro sz
  refine Met.ofW (cc := cX6_isLetterAt) (maxL := 3) (ret := (some .boolean)) (by decide) rfl ?_
  intro p e s m args below meth c s₁ B hml hv
  obtain ⟨rfl, hsz, hlo, hP, hK, hDL, hZ⟩ := hv
  have hx := B.exec
  have hb := B.bytes
  have hr := B.returns
  have hts := WS_ts B.pre
  have hown : s.vm.findClass RX6 = some m.cls := findClass_of_methodNamed B.named
  have hlocks := B.notSynchronized
  subst hsz
  have hA : ∀ q : Nat, s.heap.size ≤ q → (fun q : Nat => s.heap.size ≤ q) q := fun _ h => h
  have hAlo : ∀ q : Nat, (fun q : Nat => s.heap.size ≤ q) q → lo ≤ q := fun q h => Nat.le_trans hlo h
  have hS : va_S (fun q : Nat => s.heap.size ≤ q) s.heap s.heap [] := va_S.rf
  have hl := lv_entry ([.ref x0, .int (nI i)]) (n := 3) (Nat.le_of_ble_eq_true rfl)
  rw [lg_entry_eq]
  generalize (lg_sl ([.ref x0, .int (nI i)]) ++ List.replicate (3 - (lg_sl ([.ref x0, .int (nI i)])).length) Slot.unset).toArray = ls at hl ⊢
  have hl : lv_has ls 3 [(0, .ref x0), (1, .int (nI i))] := hl
  refine lv_aload_n hx hb dX6_isLetterAt_0 rfl (lv_at hl 0 rfl) ?_
  refine lv_iload_n hx hb dX6_isLetterAt_1 rfl (lv_at hl 1 rfl) ?_
  refine ro_i (D := D) (va_runV (As := [.int (nI i)]) (rest := []) ⟨hx, hb, hml, hown, hts⟩ ((y_byteAt l D k st lo x0 x1 tz ta na fn fb fx i (by omega) (by omega)) s.heap.size) (cwV 1 hts (gV tw_379 tw_380 tw_381 tw_80 tw_382) rfl rfl rfl (by decide +kernel) ⟨Nat.le_of_ble_eq_true rfl, Nat.le_of_ble_eq_true rfl⟩) (pV hS hAlo hlo hP hK hDL hZ [0, 1] (by decide) rfl (ci := 6) (q := (RX6, TX6, 6)) (q0 := 0) rfl rfl) rfl rfl hl.1 rfl (lv_room (Nat.le_of_ble_eq_true rfl)) dX6_isLetterAt_2 ⟨Nat.le_of_ble_eq_true rfl, Nat.le_of_ble_eq_true rfl⟩) hS hA hP (fun r_1 H locs hw_1 hP hS => ?_)
  try dsimp only at hw_1
  refine lv_istore_n (lv' := [(2, .int r_1), (0, .ref x0), (1, .int (nI i))]) hx hb dX6_isLetterAt_5 rfl hl (by decide) rfl (fun ls hl => ?_)
  refine lv_iload_n hx hb dX6_isLetterAt_6 rfl (lv_at hl 0 rfl) ?_
  refine lv_bipush (v := 97) hx hb dX6_isLetterAt_7 (by decide) ?_
  refine lv_icmp_lt (tgt := 22) hx hb dX6_isLetterAt_9 (by decide) (fun c_2 => ?_) (fun c_2 => ?_)
  · refine lv_iconst (v := 0) hx hb dX6_isLetterAt_22 (by decide) ?_
    exact W.zret (v := 0) (ty := .boolean) hx hb hr rfl (fun t ht hW => ⟨⟨0, (), rfl, .inr ⟨rfl, fun h => absurd (show (97 : Int32) ≤ r_1 by rw [hw_1]; exact h.1) (Int32.not_le.mpr c_2)⟩, trivial⟩, hS.F ht⟩) hS.2.2 dX6_isLetterAt_23
  · refine lv_iload_n hx hb dX6_isLetterAt_12 rfl (lv_at hl 0 rfl) ?_
    refine lv_bipush (v := 122) hx hb dX6_isLetterAt_13 (by decide) ?_
    refine lv_icmp_gt (tgt := 22) hx hb dX6_isLetterAt_15 (by decide) (fun c_3 => ?_) (fun c_3 => ?_)
    · refine lv_iconst (v := 0) hx hb dX6_isLetterAt_22 (by decide) ?_
      exact W.zret (v := 0) (ty := .boolean) hx hb hr rfl (fun t ht hW => ⟨⟨0, (), rfl, .inr ⟨rfl, fun h => absurd (show r_1 ≤ 122 by rw [hw_1]; exact h.2) (Int32.not_le.mpr c_3)⟩, trivial⟩, hS.F ht⟩) hS.2.2 dX6_isLetterAt_23
    · refine lv_iconst (v := 1) hx hb dX6_isLetterAt_18 (by decide) ?_
      refine lv_goto (tgt := 23) hx hb dX6_isLetterAt_19 (by decide) ?_
      exact W.zret (v := 1) (ty := .boolean) hx hb hr rfl (fun t ht hW => ⟨⟨1, (), rfl, .inl ⟨rfl, by rw [← hw_1]; exact ⟨Int32.not_lt.mp c_2, Int32.not_lt.mp c_3⟩⟩, trivial⟩, hS.F ht⟩) hS.2.2 dX6_isLetterAt_23


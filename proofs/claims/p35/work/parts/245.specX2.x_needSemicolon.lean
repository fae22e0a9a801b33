theorem dX6_needSemicolon_0 : decode cX6_needSemicolon 0 = .ok (.aload_n 0, 1) := by decide +kernel
theorem dX6_needSemicolon_1 : decode cX6_needSemicolon 1 = .ok (.invokevirtual 35, 3) := by decide +kernel
theorem dX6_needSemicolon_4 : decode cX6_needSemicolon 4 = .ok (.aload_n 0, 1) := by decide +kernel
theorem dX6_needSemicolon_5 : decode cX6_needSemicolon 5 = .ok (.aload_n 0, 1) := by decide +kernel
theorem dX6_needSemicolon_6 : decode cX6_needSemicolon 6 = .ok (.getfield 19, 3) := by decide +kernel
theorem dX6_needSemicolon_9 : decode cX6_needSemicolon 9 = .ok (.invokevirtual 31, 3) := by decide +kernel
theorem dX6_needSemicolon_12 : decode cX6_needSemicolon 12 = .ok (.bipush 59, 2) := by decide +kernel
theorem dX6_needSemicolon_14 : decode cX6_needSemicolon 14 = .ok (.if_icmp .ne 16, 3) := by decide +kernel
theorem dX6_needSemicolon_17 : decode cX6_needSemicolon 17 = .ok (.aload_n 0, 1) := by decide +kernel
theorem dX6_needSemicolon_18 : decode cX6_needSemicolon 18 = .ok (.dup, 1) := by decide +kernel
theorem dX6_needSemicolon_19 : decode cX6_needSemicolon 19 = .ok (.getfield 19, 3) := by decide +kernel
theorem dX6_needSemicolon_22 : decode cX6_needSemicolon 22 = .ok (.iconst 1, 1) := by decide +kernel
theorem dX6_needSemicolon_23 : decode cX6_needSemicolon 23 = .ok (.iadd, 1) := by decide +kernel
theorem dX6_needSemicolon_24 : decode cX6_needSemicolon 24 = .ok (.putfield 19, 3) := by decide +kernel
theorem dX6_needSemicolon_27 : decode cX6_needSemicolon 27 = .ok (.goto 12, 3) := by decide +kernel
theorem dX6_needSemicolon_30 : decode cX6_needSemicolon 30 = .ok (.aload_n 0, 1) := by decide +kernel
theorem dX6_needSemicolon_31 : decode cX6_needSemicolon 31 = .ok (.iconst 1, 1) := by decide +kernel
theorem dX6_needSemicolon_32 : decode cX6_needSemicolon 32 = .ok (.aload_n 0, 1) := by decide +kernel
theorem dX6_needSemicolon_33 : decode cX6_needSemicolon 33 = .ok (.getfield 19, 3) := by decide +kernel
theorem dX6_needSemicolon_36 : decode cX6_needSemicolon 36 = .ok (.invokevirtual 60, 3) := by decide +kernel
theorem dX6_needSemicolon_39 : decode cX6_needSemicolon 39 = .ok (.return_, 1) := by decide +kernel
set_option maxHeartbeats 4000000 in
set_option maxRecDepth 100000 in
theorem x_needSemicolon (l : Launch) (D : va_G) (k : Nat → ClassId) (st : Nat → Nat) (lo : Nat) (x0 : Nat) (x1 : Nat) (tz : Nat) (ta : Nat) (na : Int32) (fn : Int32) (fb : Int32) (fx : Nat → Int32) (ht : ta ≤ tz) (hz : tz ≤ 240) : CWv l D k st lo yX6_needSemicolon cX6_needSemicolon 1 none ({ frames := 2, cells := 0, slots := 0, locals := 41 }) 0 0 [.ref x0] [(x0, .inr (6, [.ref x1, .int (nI tz), .int (nI ta), .int na, .int fn, .int fb])), (x1, .inl (k 0, 240, .inl fx))] (fun (u : Nat × Int32 × Int32) => match u with | (ta_, fn_, fb_) => ta ≤ ta_ ∧ ta_ ≤ tz ∧ (fn = 0 ∨ ¬ fn_ = 0)) (fun (u : Nat × Int32 × Int32) => match u with | (ta_, fn_, fb_) => [(x0, .inr (6, [.ref x1, .int (nI tz), .int (nI ta_), .int na, .int fn_, .int fb_])), (x1, .inl (k 0, 240, .inl fx))]) := by
  intro sz
  refine Met.ofW (cc := cX6_needSemicolon) (maxL := 1) (ret := none) (by decide) rfl ?_
  intro p e s m args below meth c s₁ B hml hv
  obtain ⟨rfl, hsz, hlo, hP, hK, hDL, hZ⟩ := hv
  have hx := B.exec
  have hb := B.bytes
  have hr := B.returns
  have hts := WS_ts B.pre
  have hown : s.vm.findClass RX6 = some m.cls := findClass_of_methodNamed B.named
  have hlocks := B.notSynchronized
  subst hsz
  have hD := hDL.self (sz := s.heap.size)
  have hAlo := A_lo hDL hlo
  generalize hAe : va_A [(x0, .inr (6, [.ref x1, .int (nI tz), .int (nI ta), .int na, .int fn, .int fb])), (x1, .inl (k 0, 240, .inl fx))] s.heap.size = A at hD hAlo ⊢
  have hA : ∀ q : Nat, s.heap.size ≤ q → A q := fun q h => by rw [← hAe]; exact Or.inr h
  have hS : va_S A s.heap s.heap [] := va_S.rf
  have hl := lv_entry ([.ref x0]) (n := 1) (Nat.le_of_ble_eq_true rfl)
  rw [lg_entry_eq]
  generalize (lg_sl ([.ref x0]) ++ List.replicate (1 - (lg_sl ([.ref x0])).length) Slot.unset).toArray = ls at hl ⊢
  have hl : lv_has ls 1 [(0, .ref x0)] := hl
  refine lv_aload_n hx hb dX6_needSemicolon_0 rfl (lv_at hl 0 rfl) ?_
  refine rw_v (D := D) (wr := []) (va_runV (As := []) (rest := []) ⟨hx, hb, hml, hown, hts⟩ ((x_skip l D k st lo x0 x1 tz ta na fn fb fx (by omega) (by omega)) s.heap.size) (cwV 0 hts (gV tw_375 tw_376 tw_377 tw_80 tw_378) rfl rfl rfl (by decide +kernel) ⟨Nat.le_of_ble_eq_true rfl, Nat.le_of_ble_eq_true rfl⟩) (pV hS hAlo hlo hP hK (va_Dlo hD hAlo) hZ [0, 1] (by decide) rfl (ci := 6) (q0 := 0) rfl rfl) rfl rfl hl.1 rfl (lv_room (Nat.le_of_ble_eq_true rfl)) dX6_needSemicolon_1 ⟨Nat.le_of_ble_eq_true rfl, Nat.le_of_ble_eq_true rfl⟩) hS hA hP hD [0, 1] [] rfl rfl (by decide) (by decide) (fun u H locs hw_1 hP hD hS => ?_)
  obtain ⟨ta__1, rfl⟩ : ∃ z, z = u := ⟨_, rfl⟩
  replace hP : va_P D classes [(x0, .inr (6, [.ref x1, .int (nI tz), .int (nI ta__1), .int na, .int fn, .int fb])), (x1, .inl (k 0, 240, .inl fx))] H := hP
  replace hD : va_D A [(x0, .inr (6, [.ref x1, .int (nI tz), .int (nI ta__1), .int na, .int fn, .int fb])), (x1, .inl (k 0, 240, .inl fx))] := hD
  try dsimp only at hw_1
  refine lv_aload_n hx hb dX6_needSemicolon_4 rfl (lv_at hl 0 rfl) ?_
  refine lv_aload_n hx hb dX6_needSemicolon_5 rfl (lv_at hl 0 rfl) ?_
  refine va_get (D := D) (ci := 6) (v := .int (nI ta__1)) (C := RX6) (T := TX6) (N := 6) hx hb hts inX6 hown hK hP 0 rfl rfl 2 (by decide) (hts _ tw_113) (fun _ h9 => h9) rfl dX6_needSemicolon_6 ?_
  refine ro_i (D := D) (va_runV (As := [.int (nI ta__1)]) (rest := []) ⟨hx, hb, hml, hown, hts⟩ ((x_byteAt l D k st lo x0 x1 tz ta__1 na fn fb fx ta__1 (by omega) (by omega)) H.size) (cwV 1 hts (gV tw_379 tw_380 tw_381 tw_80 tw_382) rfl rfl rfl (by decide +kernel) ⟨Nat.le_of_ble_eq_true rfl, Nat.le_of_ble_eq_true rfl⟩) (pV hS hAlo hlo hP hK (va_Dlo hD hAlo) hZ [0, 1] (by decide) rfl (ci := 6) (q0 := 0) rfl rfl) rfl rfl hl.1 rfl (lv_room (Nat.le_of_ble_eq_true rfl)) dX6_needSemicolon_9 ⟨Nat.le_of_ble_eq_true rfl, Nat.le_of_ble_eq_true rfl⟩) hS hA hP (fun r_2 H locs hw_2 hP hS => ?_)
  try dsimp only at hw_2
  refine lv_bipush (v := 59) hx hb dX6_needSemicolon_12 (by decide) ?_
  refine lv_icmp_ne (tgt := 30) hx hb dX6_needSemicolon_14 (by decide) (fun c_3 => ?_) (fun c_3 => ?_)
  · refine lv_aload_n hx hb dX6_needSemicolon_30 rfl (lv_at hl 0 rfl) ?_
    refine lv_iconst (v := 1) hx hb dX6_needSemicolon_31 (by decide) ?_
    refine lv_aload_n hx hb dX6_needSemicolon_32 rfl (lv_at hl 0 rfl) ?_
    refine va_get (D := D) (ci := 6) (v := .int (nI ta__1)) (C := RX6) (T := TX6) (N := 6) hx hb hts inX6 hown hK hP 0 rfl rfl 2 (by decide) (hts _ tw_113) (fun _ h9 => h9) rfl dX6_needSemicolon_33 ?_
    refine rw_v (D := D) (wr := [(x1, .inl (k 0, 240, .inl fx))]) (va_runV (As := [.int 1, .int (nI ta__1)]) (rest := []) ⟨hx, hb, hml, hown, hts⟩ ((x_fail l D k st lo x0 x1 tz ta__1 na fn fb 1 (nI ta__1) (by decide)) H.size) (cwV 2 hts (gV tw_476 tw_456 tw_457 tw_80 tw_458) rfl rfl rfl (by decide +kernel) ⟨Nat.le_of_ble_eq_true rfl, Nat.le_of_ble_eq_true rfl⟩) (pV hS hAlo hlo hP hK (va_Dlo hD hAlo) hZ [0] (by decide) rfl (ci := 6) (q0 := 0) rfl rfl) rfl rfl hl.1 rfl (lv_room (Nat.le_of_ble_eq_true rfl)) dX6_needSemicolon_36 ⟨Nat.le_of_ble_eq_true rfl, Nat.le_of_ble_eq_true rfl⟩) hS hA hP hD [0] [1] rfl rfl (by decide) (by decide) (fun u H locs hw_4 hP hD hS => ?_)
    obtain ⟨fn__4, fb__4⟩ := u
    replace hP : va_P D classes [(x1, .inl (k 0, 240, .inl fx)), (x0, .inr (6, [.ref x1, .int (nI tz), .int (nI ta__1), .int na, .int fn__4, .int fb__4]))] H := hP
    replace hD : va_D A [(x1, .inl (k 0, 240, .inl fx)), (x0, .inr (6, [.ref x1, .int (nI tz), .int (nI ta__1), .int na, .int fn__4, .int fb__4]))] := hD
    try dsimp only at hw_4
    have hP9 := hP.sub (ws' := [(x0, .inr (6, [.ref x1, .int (nI tz), .int (nI ta__1), .int na, .int fn__4, .int fb__4])), (x1, .inl (k 0, 240, .inl fx))]) [1, 0] rfl
    have hD9 := hD.sub (ws' := [(x0, .inr (6, [.ref x1, .int (nI tz), .int (nI ta__1), .int na, .int fn__4, .int fb__4])), (x1, .inl (k 0, 240, .inl fx))]) [1, 0] (by decide) rfl
    exact W.vret hx hb hr (fun t ht hW => ⟨⟨(ta__1, fn__4, fb__4), rfl, ⟨by omega, by omega, .inr hw_4⟩, by rw [ht]; exact hP9, hD9⟩, hS.F ht⟩) hS.2.2 dX6_needSemicolon_39
  · have hlt_5 := hw_2.resolve_left (fun h => absurd (h.symm.trans c_3) (by decide))
    refine lv_aload_n hx hb dX6_needSemicolon_17 rfl (lv_at hl 0 rfl) ?_
    refine lv_dup hx hb dX6_needSemicolon_18 rfl ?_
    refine va_get (D := D) (ci := 6) (v := .int (nI ta__1)) (C := RX6) (T := TX6) (N := 6) hx hb hts inX6 hown hK hP 0 rfl rfl 2 (by decide) (hts _ tw_113) (fun _ h9 => h9) rfl dX6_needSemicolon_19 ?_
    refine lv_iconst (v := 1) hx hb dX6_needSemicolon_22 (by decide) ?_
    refine lv_iadd hx hb dX6_needSemicolon_23 ?_
    refine lv_ti (y := (nI (ta__1 + 1))) (nI_add ta__1 1) ?_
    refine va_put (D := D) (ci := 6) (v := .int (nI (ta__1 + 1))) (ty := .int) (C := RX6) (T := TX6) (N := 6) hx hb hts inX6 tyX6 tyX6_ok nmX6 hown hK hP hD hS 0 rfl rfl 2 (by decide) (hts _ tw_113) (fun _ h9 => h9) rfl (by decide +kernel) rfl rfl (Nat.le_of_ble_eq_true rfl) dX6_needSemicolon_24 (fun H locs hP hD hS => ?_)
    replace hP : va_P D classes [(x0, .inr (6, [.ref x1, .int (nI tz), .int (nI (ta__1 + 1)), .int na, .int fn, .int fb])), (x1, .inl (k 0, 240, .inl fx))] H := hP
    replace hD : va_D A [(x0, .inr (6, [.ref x1, .int (nI tz), .int (nI (ta__1 + 1)), .int na, .int fn, .int fb])), (x1, .inl (k 0, 240, .inl fx))] := hD
    refine lv_goto (tgt := 39) hx hb dX6_needSemicolon_27 (by decide) ?_
    have hP9 := hP.sub (ws' := [(x0, .inr (6, [.ref x1, .int (nI tz), .int (nI (ta__1 + 1)), .int na, .int fn, .int fb])), (x1, .inl (k 0, 240, .inl fx))]) [0, 1] rfl
    have hD9 := hD.sub (ws' := [(x0, .inr (6, [.ref x1, .int (nI tz), .int (nI (ta__1 + 1)), .int na, .int fn, .int fb])), (x1, .inl (k 0, 240, .inl fx))]) [0, 1] (by decide) rfl
    exact W.vret hx hb hr (fun t ht hW => ⟨⟨((ta__1 + 1), fn, fb), rfl, ⟨by omega, by omega, (Decidable.em _)⟩, by rw [ht]; exact hP9, hD9⟩, hS.F ht⟩) hS.2.2 dX6_needSemicolon_39


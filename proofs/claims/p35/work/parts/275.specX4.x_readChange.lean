theorem dX3_readChange_0 : decode cX3_readChange 0 = .ok (.aload_n 1, 1) := by decide +kernel
theorem dX3_readChange_1 : decode cX3_readChange 1 = .ok (.iconst 1, 1) := by decide +kernel
theorem dX3_readChange_2 : decode cX3_readChange 2 = .ok (.bipush 24, 2) := by decide +kernel
theorem dX3_readChange_4 : decode cX3_readChange 4 = .ok (.invokevirtual 35, 3) := by decide +kernel
theorem dX3_readChange_7 : decode cX3_readChange 7 = .ok (.istore_n 2, 1) := by decide +kernel
theorem dX3_readChange_8 : decode cX3_readChange 8 = .ok (.aload_n 1, 1) := by decide +kernel
theorem dX3_readChange_9 : decode cX3_readChange 9 = .ok (.invokevirtual 39, 3) := by decide +kernel
theorem dX3_readChange_12 : decode cX3_readChange 12 = .ok (.ifCond .ne 34, 3) := by decide +kernel
theorem dX3_readChange_15 : decode cX3_readChange 15 = .ok (.aload_n 0, 1) := by decide +kernel
theorem dX3_readChange_16 : decode cX3_readChange 16 = .ok (.getfield 22, 3) := by decide +kernel
theorem dX3_readChange_19 : decode cX3_readChange 19 = .ok (.ifCond .le 27, 3) := by decide +kernel
theorem dX3_readChange_22 : decode cX3_readChange 22 = .ok (.iload_n 2, 1) := by decide +kernel
theorem dX3_readChange_23 : decode cX3_readChange 23 = .ok (.aload_n 0, 1) := by decide +kernel
theorem dX3_readChange_24 : decode cX3_readChange 24 = .ok (.getfield 9, 3) := by decide +kernel
theorem dX3_readChange_27 : decode cX3_readChange 27 = .ok (.aload_n 0, 1) := by decide +kernel
theorem dX3_readChange_28 : decode cX3_readChange 28 = .ok (.getfield 22, 3) := by decide +kernel
theorem dX3_readChange_31 : decode cX3_readChange 31 = .ok (.iconst 1, 1) := by decide +kernel
theorem dX3_readChange_32 : decode cX3_readChange 32 = .ok (.isub, 1) := by decide +kernel
theorem dX3_readChange_33 : decode cX3_readChange 33 = .ok (.iaload, 1) := by decide +kernel
theorem dX3_readChange_34 : decode cX3_readChange 34 = .ok (.if_icmp .gt 12, 3) := by decide +kernel
theorem dX3_readChange_37 : decode cX3_readChange 37 = .ok (.aload_n 1, 1) := by decide +kernel
theorem dX3_readChange_38 : decode cX3_readChange 38 = .ok (.iconst 3, 1) := by decide +kernel
theorem dX3_readChange_39 : decode cX3_readChange 39 = .ok (.aload_n 1, 1) := by decide +kernel
theorem dX3_readChange_40 : decode cX3_readChange 40 = .ok (.getfield 67, 3) := by decide +kernel
theorem dX3_readChange_43 : decode cX3_readChange 43 = .ok (.invokevirtual 63, 3) := by decide +kernel
theorem dX3_readChange_46 : decode cX3_readChange 46 = .ok (.aload_n 1, 1) := by decide +kernel
theorem dX3_readChange_47 : decode cX3_readChange 47 = .ok (.ldc 28, 2) := by decide +kernel
theorem dX3_readChange_49 : decode cX3_readChange 49 = .ok (.invokevirtual 29, 3) := by decide +kernel
theorem dX3_readChange_52 : decode cX3_readChange 52 = .ok (.aload_n 1, 1) := by decide +kernel
theorem dX3_readChange_53 : decode cX3_readChange 53 = .ok (.iconst 0, 1) := by decide +kernel
theorem dX3_readChange_54 : decode cX3_readChange 54 = .ok (.bipush 24, 2) := by decide +kernel
theorem dX3_readChange_56 : decode cX3_readChange 56 = .ok (.invokevirtual 35, 3) := by decide +kernel
theorem dX3_readChange_59 : decode cX3_readChange 59 = .ok (.istore_n 3, 1) := by decide +kernel
theorem dX3_readChange_60 : decode cX3_readChange 60 = .ok (.aload_n 1, 1) := by decide +kernel
theorem dX3_readChange_61 : decode cX3_readChange 61 = .ok (.invokevirtual 39, 3) := by decide +kernel
theorem dX3_readChange_64 : decode cX3_readChange 64 = .ok (.ifCond .ne 42, 3) := by decide +kernel
theorem dX3_readChange_67 : decode cX3_readChange 67 = .ok (.aload_n 0, 1) := by decide +kernel
theorem dX3_readChange_68 : decode cX3_readChange 68 = .ok (.getfield 22, 3) := by decide +kernel
theorem dX3_readChange_71 : decode cX3_readChange 71 = .ok (.bipush 24, 2) := by decide +kernel
theorem dX3_readChange_73 : decode cX3_readChange 73 = .ok (.if_icmp .ge 33, 3) := by decide +kernel
theorem dX3_readChange_76 : decode cX3_readChange 76 = .ok (.aload_n 0, 1) := by decide +kernel
theorem dX3_readChange_77 : decode cX3_readChange 77 = .ok (.getfield 9, 3) := by decide +kernel
theorem dX3_readChange_80 : decode cX3_readChange 80 = .ok (.aload_n 0, 1) := by decide +kernel
theorem dX3_readChange_81 : decode cX3_readChange 81 = .ok (.getfield 22, 3) := by decide +kernel
theorem dX3_readChange_84 : decode cX3_readChange 84 = .ok (.iload_n 2, 1) := by decide +kernel
theorem dX3_readChange_85 : decode cX3_readChange 85 = .ok (.iastore, 1) := by decide +kernel
theorem dX3_readChange_86 : decode cX3_readChange 86 = .ok (.aload_n 0, 1) := by decide +kernel
theorem dX3_readChange_87 : decode cX3_readChange 87 = .ok (.getfield 15, 3) := by decide +kernel
theorem dX3_readChange_90 : decode cX3_readChange 90 = .ok (.aload_n 0, 1) := by decide +kernel
theorem dX3_readChange_91 : decode cX3_readChange 91 = .ok (.getfield 22, 3) := by decide +kernel
theorem dX3_readChange_94 : decode cX3_readChange 94 = .ok (.iload_n 3, 1) := by decide +kernel
theorem dX3_readChange_95 : decode cX3_readChange 95 = .ok (.iastore, 1) := by decide +kernel
theorem dX3_readChange_96 : decode cX3_readChange 96 = .ok (.aload_n 0, 1) := by decide +kernel
theorem dX3_readChange_97 : decode cX3_readChange 97 = .ok (.dup, 1) := by decide +kernel
theorem dX3_readChange_98 : decode cX3_readChange 98 = .ok (.getfield 22, 3) := by decide +kernel
theorem dX3_readChange_101 : decode cX3_readChange 101 = .ok (.iconst 1, 1) := by decide +kernel
theorem dX3_readChange_102 : decode cX3_readChange 102 = .ok (.iadd, 1) := by decide +kernel
theorem dX3_readChange_103 : decode cX3_readChange 103 = .ok (.putfield 22, 3) := by decide +kernel
theorem dX3_readChange_106 : decode cX3_readChange 106 = .ok (.return_, 1) := by decide +kernel
set_option maxHeartbeats 4000000 in
set_option maxRecDepth 100000 in
theorem x_readChange (l : Launch) (D : va_G) (k : Nat → ClassId) (st : Nat → Nat) (lo : Nat) (u0 : Nat) (u1 : Nat) (u2 : Nat) (rf : Int32) (rc : Nat) (rr : Nat) (rs : Nat → Int32) (rb : Nat → Int32) (x0 : Nat) (x1 : Nat) (tz : Nat) (ta : Nat) (na : Int32) (fn : Int32) (fb : Int32) (fx : Nat → Int32) (ht : ta ≤ tz) (hz : tz ≤ 240) (hrc : rc ≤ 24) : CWv l D k st lo yX3_readChange cX3_readChange 4 none ({ frames := 6, cells := 0, slots := 0, locals := 129 }) 0 0 [.ref u0, .ref x0] [(u0, .inr (3, [.ref u1, .ref u2, .int rf, .int (nI rc), .int (nI rr)])), (u1, .inl (k 1, 24, .inl rs)), (u2, .inl (k 1, 24, .inl rb)), (x0, .inr (6, [.ref x1, .int (nI tz), .int (nI ta), .int na, .int fn, .int fb])), (x1, .inl (k 0, 240, .inl fx))] (fun (u : Nat × (Nat → Int32) × (Nat → Int32) × Nat × Int32 × Int32 × Int32) => match u with | (rc_, rs_, rb_, ta_, na_, fn_, fb_) => rc_ ≤ 24 ∧ ta ≤ ta_ ∧ ta_ ≤ tz) (fun (u : Nat × (Nat → Int32) × (Nat → Int32) × Nat × Int32 × Int32 × Int32) => match u with | (rc_, rs_, rb_, ta_, na_, fn_, fb_) => [(u0, .inr (3, [.ref u1, .ref u2, .int rf, .int (nI rc_), .int (nI rr)])), (u1, .inl (k 1, 24, .inl rs_)), (u2, .inl (k 1, 24, .inl rb_)), (x0, .inr (6, [.ref x1, .int (nI tz), .int (nI ta_), .int na_, .int fn_, .int fb_])), (x1, .inl (k 0, 240, .inl fx))]) := by
  intro sz
  refine Met.ofW (cc := cX3_readChange) (maxL := 4) (ret := none) (by decide) rfl ?_
  intro p e s m args below meth c s₁ B hml hv
  obtain ⟨rfl, hsz, hlo, hP, hK, hDL, hZ⟩ := hv
  have hx := B.exec
  have hb := B.bytes
  have hr := B.returns
  have hts := WS_ts B.pre
  have hown : s.vm.findClass RX3 = some m.cls := findClass_of_methodNamed B.named
  have hlocks := B.notSynchronized
  subst hsz
  have hD := hDL.self (sz := s.heap.size)
  have hAlo := A_lo hDL hlo
  generalize hAe : va_A [(u0, .inr (3, [.ref u1, .ref u2, .int rf, .int (nI rc), .int (nI rr)])), (u1, .inl (k 1, 24, .inl rs)), (u2, .inl (k 1, 24, .inl rb)), (x0, .inr (6, [.ref x1, .int (nI tz), .int (nI ta), .int na, .int fn, .int fb])), (x1, .inl (k 0, 240, .inl fx))] s.heap.size = A at hD hAlo ⊢
  have hA : ∀ q : Nat, s.heap.size ≤ q → A q := fun q h => by rw [← hAe]; exact Or.inr h
  have hS : va_S A s.heap s.heap [] := va_S.rf
  have hl := lv_entry ([.ref u0, .ref x0]) (n := 4) (Nat.le_of_ble_eq_true rfl)
  rw [lg_entry_eq]
  generalize (lg_sl ([.ref u0, .ref x0]) ++ List.replicate (4 - (lg_sl ([.ref u0, .ref x0])).length) Slot.unset).toArray = ls at hl ⊢
  have hl : lv_has ls 4 [(0, .ref u0), (1, .ref x0)] := hl
  refine lv_aload_n hx hb dX3_readChange_0 rfl (lv_at hl 1 rfl) ?_
  refine lv_iconst (v := 1) hx hb dX3_readChange_1 (by decide) ?_
  refine lv_bipush (v := 24) hx hb dX3_readChange_2 (by decide) ?_
  refine rw_i (D := D) (wr := [(u0, .inr (3, [.ref u1, .ref u2, .int rf, .int (nI rc), .int (nI rr)])), (u1, .inl (k 1, 24, .inl rs)), (u2, .inl (k 1, 24, .inl rb))]) (va_runV (As := [.int 1, .int 24]) (rest := []) ⟨hx, hb, hml, hown, hts⟩ ((x_needNumber l D k st lo x0 x1 tz ta na fn fb fx 1 24 (by omega) (by omega) (by decide)) s.heap.size) (cwV 2 hts (gV tw_681 tw_468 tw_469 tw_80 tw_470) rfl rfl rfl (by decide +kernel) ⟨Nat.le_of_ble_eq_true rfl, Nat.le_of_ble_eq_true rfl⟩) (pV hS hAlo hlo hP hK (va_Dlo hD hAlo) hZ [3, 4] (by decide) rfl (ci := 6) (q0 := 0) rfl rfl) rfl rfl hl.1 rfl (lv_room (Nat.le_of_ble_eq_true rfl)) dX3_readChange_4 ⟨Nat.le_of_ble_eq_true rfl, Nat.le_of_ble_eq_true rfl⟩) hS hA hP hD [3, 4] [0, 1, 2] rfl rfl (by decide) (by decide) (fun r_1 u H locs hw_1 hP hD hS => ?_)
  obtain ⟨ta__1, na__1, fn__1, fb__1⟩ := u
  replace hP : va_P D classes [(u0, .inr (3, [.ref u1, .ref u2, .int rf, .int (nI rc), .int (nI rr)])), (u1, .inl (k 1, 24, .inl rs)), (u2, .inl (k 1, 24, .inl rb)), (x0, .inr (6, [.ref x1, .int (nI tz), .int (nI ta__1), .int na__1, .int fn__1, .int fb__1])), (x1, .inl (k 0, 240, .inl fx))] H := hP
  replace hD : va_D A [(u0, .inr (3, [.ref u1, .ref u2, .int rf, .int (nI rc), .int (nI rr)])), (u1, .inl (k 1, 24, .inl rs)), (u2, .inl (k 1, 24, .inl rb)), (x0, .inr (6, [.ref x1, .int (nI tz), .int (nI ta__1), .int na__1, .int fn__1, .int fb__1])), (x1, .inl (k 0, 240, .inl fx))] := hD
  try dsimp only at hw_1
  refine lv_istore_n (lv' := [(2, .int r_1), (0, .ref u0), (1, .ref x0)]) hx hb dX3_readChange_7 rfl hl (by decide) rfl (fun ls hl => ?_)
  refine lv_aload_n hx hb dX3_readChange_8 rfl (lv_at hl 2 rfl) ?_
  refine ro_i (D := D) (va_runV (As := []) (rest := []) ⟨hx, hb, hml, hown, hts⟩ ((x_failed l D k st lo x0 x1 tz ta__1 na__1 fn__1 fb__1) H.size) (cwV 0 hts (gV tw_682 tw_368 tw_369 tw_80 tw_370) rfl rfl rfl (by decide +kernel) ⟨Nat.le_of_ble_eq_true rfl, Nat.le_of_ble_eq_true rfl⟩) (pV hS hAlo hlo hP hK (va_Dlo hD hAlo) hZ [3] (by decide) rfl (ci := 6) (q0 := 0) rfl rfl) rfl rfl hl.1 rfl (lv_room (Nat.le_of_ble_eq_true rfl)) dX3_readChange_9 ⟨Nat.le_of_ble_eq_true rfl, Nat.le_of_ble_eq_true rfl⟩) hS hA hP (fun r_2 H locs hw_2 hP hS => ?_)
  try dsimp only at hw_2
  rcases hw_2 with ⟨rfl, hw_2⟩ | ⟨rfl, rfl⟩
  · refine lv_if_ne (tgt := 46) hx hb dX3_readChange_12 (by decide) (fun _ => ?_) (fun h => absurd h (by decide))
    refine lv_aload_n hx hb dX3_readChange_46 rfl (lv_at hl 2 rfl) ?_
    refine va_ldcS hx hb hown (hZ.2.2.2.2.2.2.2.2.2.2 (RX3, 28, "from", 12) (List.mem_of_getElem? (i := 12) rfl)) dX3_readChange_47 ?_
    refine rw_v (D := D) (wr := [(u0, .inr (3, [.ref u1, .ref u2, .int rf, .int (nI rc), .int (nI rr)])), (u1, .inl (k 1, 24, .inl rs)), (u2, .inl (k 1, 24, .inl rb))]) (va_runV (As := [.ref (st (100 + 12))]) (rest := []) ⟨hx, hb, hml, hown, hts⟩ ((x_needWord l D k st lo x0 x1 tz ta__1 na__1 fn__1 fb__1 fx 12 (by omega) (by omega) (by omega)) H.size) (cwV 1 hts (gV tw_680 tw_483 tw_484 tw_80 tw_485) rfl rfl rfl (by decide +kernel) ⟨Nat.le_of_ble_eq_true rfl, Nat.le_of_ble_eq_true rfl⟩) (pV hS hAlo hlo hP hK (va_Dlo hD hAlo) hZ [3, 4] (by decide) rfl (ci := 6) (q0 := 0) rfl rfl) rfl rfl hl.1 rfl (lv_room (Nat.le_of_ble_eq_true rfl)) dX3_readChange_49 ⟨Nat.le_of_ble_eq_true rfl, Nat.le_of_ble_eq_true rfl⟩) hS hA hP hD [3, 4] [0, 1, 2] rfl rfl (by decide) (by decide) (fun u H locs hw_3 hP hD hS => ?_)
    obtain ⟨ta__3, fn__3, fb__3⟩ := u
    replace hP : va_P D classes [(u0, .inr (3, [.ref u1, .ref u2, .int rf, .int (nI rc), .int (nI rr)])), (u1, .inl (k 1, 24, .inl rs)), (u2, .inl (k 1, 24, .inl rb)), (x0, .inr (6, [.ref x1, .int (nI tz), .int (nI ta__3), .int na__1, .int fn__3, .int fb__3])), (x1, .inl (k 0, 240, .inl fx))] H := hP
    replace hD : va_D A [(u0, .inr (3, [.ref u1, .ref u2, .int rf, .int (nI rc), .int (nI rr)])), (u1, .inl (k 1, 24, .inl rs)), (u2, .inl (k 1, 24, .inl rb)), (x0, .inr (6, [.ref x1, .int (nI tz), .int (nI ta__3), .int na__1, .int fn__3, .int fb__3])), (x1, .inl (k 0, 240, .inl fx))] := hD
    try dsimp only at hw_3
    have hnz_4 := hw_3.2.2.resolve_left hw_2
    refine lv_aload_n hx hb dX3_readChange_52 rfl (lv_at hl 2 rfl) ?_
    refine lv_iconst (v := 0) hx hb dX3_readChange_53 (by decide) ?_
    refine lv_bipush (v := 24) hx hb dX3_readChange_54 (by decide) ?_
    refine rw_i (D := D) (wr := [(u0, .inr (3, [.ref u1, .ref u2, .int rf, .int (nI rc), .int (nI rr)])), (u1, .inl (k 1, 24, .inl rs)), (u2, .inl (k 1, 24, .inl rb))]) (va_runV (As := [.int 0, .int 24]) (rest := []) ⟨hx, hb, hml, hown, hts⟩ ((x_needNumber l D k st lo x0 x1 tz ta__3 na__1 fn__3 fb__3 fx 0 24 (by omega) (by omega) (by decide)) H.size) (cwV 2 hts (gV tw_681 tw_468 tw_469 tw_80 tw_470) rfl rfl rfl (by decide +kernel) ⟨Nat.le_of_ble_eq_true rfl, Nat.le_of_ble_eq_true rfl⟩) (pV hS hAlo hlo hP hK (va_Dlo hD hAlo) hZ [3, 4] (by decide) rfl (ci := 6) (q0 := 0) rfl rfl) rfl rfl hl.1 rfl (lv_room (Nat.le_of_ble_eq_true rfl)) dX3_readChange_56 ⟨Nat.le_of_ble_eq_true rfl, Nat.le_of_ble_eq_true rfl⟩) hS hA hP hD [3, 4] [0, 1, 2] rfl rfl (by decide) (by decide) (fun r_5 u H locs hw_5 hP hD hS => ?_)
    obtain ⟨ta__5, na__5, fn__5, fb__5⟩ := u
    replace hP : va_P D classes [(u0, .inr (3, [.ref u1, .ref u2, .int rf, .int (nI rc), .int (nI rr)])), (u1, .inl (k 1, 24, .inl rs)), (u2, .inl (k 1, 24, .inl rb)), (x0, .inr (6, [.ref x1, .int (nI tz), .int (nI ta__5), .int na__5, .int fn__5, .int fb__5])), (x1, .inl (k 0, 240, .inl fx))] H := hP
    replace hD : va_D A [(u0, .inr (3, [.ref u1, .ref u2, .int rf, .int (nI rc), .int (nI rr)])), (u1, .inl (k 1, 24, .inl rs)), (u2, .inl (k 1, 24, .inl rb)), (x0, .inr (6, [.ref x1, .int (nI tz), .int (nI ta__5), .int na__5, .int fn__5, .int fb__5])), (x1, .inl (k 0, 240, .inl fx))] := hD
    try dsimp only at hw_5
    have hnz_6 := hw_5.2.2.2.resolve_left hnz_4
    refine lv_istore_n (lv' := [(3, .int r_5), (2, .int r_1), (0, .ref u0), (1, .ref x0)]) hx hb dX3_readChange_59 rfl hl (by decide) rfl (fun ls hl => ?_)
    refine lv_aload_n hx hb dX3_readChange_60 rfl (lv_at hl 3 rfl) ?_
    refine ro_i (D := D) (va_runV (As := []) (rest := []) ⟨hx, hb, hml, hown, hts⟩ ((x_failed l D k st lo x0 x1 tz ta__5 na__5 fn__5 fb__5) H.size) (cwV 0 hts (gV tw_682 tw_368 tw_369 tw_80 tw_370) rfl rfl rfl (by decide +kernel) ⟨Nat.le_of_ble_eq_true rfl, Nat.le_of_ble_eq_true rfl⟩) (pV hS hAlo hlo hP hK (va_Dlo hD hAlo) hZ [3] (by decide) rfl (ci := 6) (q0 := 0) rfl rfl) rfl rfl hl.1 rfl (lv_room (Nat.le_of_ble_eq_true rfl)) dX3_readChange_61 ⟨Nat.le_of_ble_eq_true rfl, Nat.le_of_ble_eq_true rfl⟩) hS hA hP (fun r_7 H locs hw_7 hP hS => ?_)
    try dsimp only at hw_7
    obtain rfl : r_7 = 1 := by rcases hw_7 with ⟨h, h2⟩ | ⟨h, h2⟩ <;> first | exact h | exact absurd h2 hnz_6
    refine lv_if_ne (tgt := 106) hx hb dX3_readChange_64 (by decide) (fun _ => ?_) (fun h => absurd h (by decide))
    have hP9 := hP.sub (ws' := [(u0, .inr (3, [.ref u1, .ref u2, .int rf, .int (nI rc), .int (nI rr)])), (u1, .inl (k 1, 24, .inl rs)), (u2, .inl (k 1, 24, .inl rb)), (x0, .inr (6, [.ref x1, .int (nI tz), .int (nI ta__5), .int na__5, .int fn__5, .int fb__5])), (x1, .inl (k 0, 240, .inl fx))]) [0, 1, 2, 3, 4] rfl
    have hD9 := hD.sub (ws' := [(u0, .inr (3, [.ref u1, .ref u2, .int rf, .int (nI rc), .int (nI rr)])), (u1, .inl (k 1, 24, .inl rs)), (u2, .inl (k 1, 24, .inl rb)), (x0, .inr (6, [.ref x1, .int (nI tz), .int (nI ta__5), .int na__5, .int fn__5, .int fb__5])), (x1, .inl (k 0, 240, .inl fx))]) [0, 1, 2, 3, 4] (by decide) rfl
    exact W.vret hx hb hr (fun t ht hW => ⟨⟨(rc, rs, rb, ta__5, na__5, fn__5, fb__5), rfl, ⟨by omega, by omega, by omega⟩, by rw [ht]; exact hP9, hD9⟩, hS.F ht⟩) hS.2.2 dX3_readChange_106
  · refine lv_if_ne (tgt := 46) hx hb dX3_readChange_12 (by decide) (fun h => absurd (by decide) h) (fun _ => ?_)
    refine lv_aload_n hx hb dX3_readChange_15 rfl (lv_at hl 1 rfl) ?_
    refine va_get (D := D) (ci := 3) (v := .int (nI rc)) (C := RX3) (T := TX3) (N := 5) hx hb hts inX3 hown hK hP 0 rfl rfl 3 (by decide) (hts _ tw_292) (fun _ h9 => h9) rfl dX3_readChange_16 ?_
    refine lv_if_le (tgt := 46) hx hb dX3_readChange_19 (by decide) (fun c_8 => ?_) (fun c_8 => ?_)
    · have c_8 := (nI_leI (a := rc) (b := 0) (by omega) (by omega)).mp c_8
      refine lv_aload_n hx hb dX3_readChange_46 rfl (lv_at hl 2 rfl) ?_
      refine va_ldcS hx hb hown (hZ.2.2.2.2.2.2.2.2.2.2 (RX3, 28, "from", 12) (List.mem_of_getElem? (i := 12) rfl)) dX3_readChange_47 ?_
      refine rw_v (D := D) (wr := [(u0, .inr (3, [.ref u1, .ref u2, .int rf, .int (nI rc), .int (nI rr)])), (u1, .inl (k 1, 24, .inl rs)), (u2, .inl (k 1, 24, .inl rb))]) (va_runV (As := [.ref (st (100 + 12))]) (rest := []) ⟨hx, hb, hml, hown, hts⟩ ((x_needWord l D k st lo x0 x1 tz ta__1 na__1 0 fb__1 fx 12 (by omega) (by omega) (by omega)) H.size) (cwV 1 hts (gV tw_680 tw_483 tw_484 tw_80 tw_485) rfl rfl rfl (by decide +kernel) ⟨Nat.le_of_ble_eq_true rfl, Nat.le_of_ble_eq_true rfl⟩) (pV hS hAlo hlo hP hK (va_Dlo hD hAlo) hZ [3, 4] (by decide) rfl (ci := 6) (q0 := 0) rfl rfl) rfl rfl hl.1 rfl (lv_room (Nat.le_of_ble_eq_true rfl)) dX3_readChange_49 ⟨Nat.le_of_ble_eq_true rfl, Nat.le_of_ble_eq_true rfl⟩) hS hA hP hD [3, 4] [0, 1, 2] rfl rfl (by decide) (by decide) (fun u H locs hw_9 hP hD hS => ?_)
      obtain ⟨ta__9, fn__9, fb__9⟩ := u
      replace hP : va_P D classes [(u0, .inr (3, [.ref u1, .ref u2, .int rf, .int (nI rc), .int (nI rr)])), (u1, .inl (k 1, 24, .inl rs)), (u2, .inl (k 1, 24, .inl rb)), (x0, .inr (6, [.ref x1, .int (nI tz), .int (nI ta__9), .int na__1, .int fn__9, .int fb__9])), (x1, .inl (k 0, 240, .inl fx))] H := hP
      replace hD : va_D A [(u0, .inr (3, [.ref u1, .ref u2, .int rf, .int (nI rc), .int (nI rr)])), (u1, .inl (k 1, 24, .inl rs)), (u2, .inl (k 1, 24, .inl rb)), (x0, .inr (6, [.ref x1, .int (nI tz), .int (nI ta__9), .int na__1, .int fn__9, .int fb__9])), (x1, .inl (k 0, 240, .inl fx))] := hD
      try dsimp only at hw_9
      refine lv_aload_n hx hb dX3_readChange_52 rfl (lv_at hl 2 rfl) ?_
      refine lv_iconst (v := 0) hx hb dX3_readChange_53 (by decide) ?_
      refine lv_bipush (v := 24) hx hb dX3_readChange_54 (by decide) ?_
      refine rw_i (D := D) (wr := [(u0, .inr (3, [.ref u1, .ref u2, .int rf, .int (nI rc), .int (nI rr)])), (u1, .inl (k 1, 24, .inl rs)), (u2, .inl (k 1, 24, .inl rb))]) (va_runV (As := [.int 0, .int 24]) (rest := []) ⟨hx, hb, hml, hown, hts⟩ ((x_needNumber l D k st lo x0 x1 tz ta__9 na__1 fn__9 fb__9 fx 0 24 (by omega) (by omega) (by decide)) H.size) (cwV 2 hts (gV tw_681 tw_468 tw_469 tw_80 tw_470) rfl rfl rfl (by decide +kernel) ⟨Nat.le_of_ble_eq_true rfl, Nat.le_of_ble_eq_true rfl⟩) (pV hS hAlo hlo hP hK (va_Dlo hD hAlo) hZ [3, 4] (by decide) rfl (ci := 6) (q0 := 0) rfl rfl) rfl rfl hl.1 rfl (lv_room (Nat.le_of_ble_eq_true rfl)) dX3_readChange_56 ⟨Nat.le_of_ble_eq_true rfl, Nat.le_of_ble_eq_true rfl⟩) hS hA hP hD [3, 4] [0, 1, 2] rfl rfl (by decide) (by decide) (fun r_10 u H locs hw_10 hP hD hS => ?_)
      obtain ⟨ta__10, na__10, fn__10, fb__10⟩ := u
      replace hP : va_P D classes [(u0, .inr (3, [.ref u1, .ref u2, .int rf, .int (nI rc), .int (nI rr)])), (u1, .inl (k 1, 24, .inl rs)), (u2, .inl (k 1, 24, .inl rb)), (x0, .inr (6, [.ref x1, .int (nI tz), .int (nI ta__10), .int na__10, .int fn__10, .int fb__10])), (x1, .inl (k 0, 240, .inl fx))] H := hP
      replace hD : va_D A [(u0, .inr (3, [.ref u1, .ref u2, .int rf, .int (nI rc), .int (nI rr)])), (u1, .inl (k 1, 24, .inl rs)), (u2, .inl (k 1, 24, .inl rb)), (x0, .inr (6, [.ref x1, .int (nI tz), .int (nI ta__10), .int na__10, .int fn__10, .int fb__10])), (x1, .inl (k 0, 240, .inl fx))] := hD
      try dsimp only at hw_10
      refine lv_istore_n (lv' := [(3, .int r_10), (2, .int r_1), (0, .ref u0), (1, .ref x0)]) hx hb dX3_readChange_59 rfl hl (by decide) rfl (fun ls hl => ?_)
      refine lv_aload_n hx hb dX3_readChange_60 rfl (lv_at hl 3 rfl) ?_
      refine ro_i (D := D) (va_runV (As := []) (rest := []) ⟨hx, hb, hml, hown, hts⟩ ((x_failed l D k st lo x0 x1 tz ta__10 na__10 fn__10 fb__10) H.size) (cwV 0 hts (gV tw_682 tw_368 tw_369 tw_80 tw_370) rfl rfl rfl (by decide +kernel) ⟨Nat.le_of_ble_eq_true rfl, Nat.le_of_ble_eq_true rfl⟩) (pV hS hAlo hlo hP hK (va_Dlo hD hAlo) hZ [3] (by decide) rfl (ci := 6) (q0 := 0) rfl rfl) rfl rfl hl.1 rfl (lv_room (Nat.le_of_ble_eq_true rfl)) dX3_readChange_61 ⟨Nat.le_of_ble_eq_true rfl, Nat.le_of_ble_eq_true rfl⟩) hS hA hP (fun r_11 H locs hw_11 hP hS => ?_)
      try dsimp only at hw_11
      rcases hw_11 with ⟨rfl, hw_11⟩ | ⟨rfl, rfl⟩
      · refine lv_if_ne (tgt := 106) hx hb dX3_readChange_64 (by decide) (fun _ => ?_) (fun h => absurd h (by decide))
        have hP9 := hP.sub (ws' := [(u0, .inr (3, [.ref u1, .ref u2, .int rf, .int (nI rc), .int (nI rr)])), (u1, .inl (k 1, 24, .inl rs)), (u2, .inl (k 1, 24, .inl rb)), (x0, .inr (6, [.ref x1, .int (nI tz), .int (nI ta__10), .int na__10, .int fn__10, .int fb__10])), (x1, .inl (k 0, 240, .inl fx))]) [0, 1, 2, 3, 4] rfl
        have hD9 := hD.sub (ws' := [(u0, .inr (3, [.ref u1, .ref u2, .int rf, .int (nI rc), .int (nI rr)])), (u1, .inl (k 1, 24, .inl rs)), (u2, .inl (k 1, 24, .inl rb)), (x0, .inr (6, [.ref x1, .int (nI tz), .int (nI ta__10), .int na__10, .int fn__10, .int fb__10])), (x1, .inl (k 0, 240, .inl fx))]) [0, 1, 2, 3, 4] (by decide) rfl
        exact W.vret hx hb hr (fun t ht hW => ⟨⟨(rc, rs, rb, ta__10, na__10, fn__10, fb__10), rfl, ⟨by omega, by omega, by omega⟩, by rw [ht]; exact hP9, hD9⟩, hS.F ht⟩) hS.2.2 dX3_readChange_106
      · refine lv_if_ne (tgt := 106) hx hb dX3_readChange_64 (by decide) (fun h => absurd (by decide) h) (fun _ => ?_)
        refine lv_aload_n hx hb dX3_readChange_67 rfl (lv_at hl 2 rfl) ?_
        refine va_get (D := D) (ci := 3) (v := .int (nI rc)) (C := RX3) (T := TX3) (N := 5) hx hb hts inX3 hown hK hP 0 rfl rfl 3 (by decide) (hts _ tw_292) (fun _ h9 => h9) rfl dX3_readChange_68 ?_
        refine lv_bipush (v := 24) hx hb dX3_readChange_71 (by decide) ?_
        refine lv_icmp_ge (tgt := 106) hx hb dX3_readChange_73 (by decide) (fun h => absurd ((nI_leI (a := 24) (b := rc) (by omega) (by omega)).mp h) (by omega)) (fun _ => ?_)
        refine lv_aload_n hx hb dX3_readChange_76 rfl (lv_at hl 2 rfl) ?_
        refine va_get (D := D) (ci := 3) (v := .ref u1) (C := RX3) (T := TX3) (N := 5) hx hb hts inX3 hown hK hP 0 rfl rfl 0 (by decide) (hts _ tw_289) (fun _ h9 => h9) rfl dX3_readChange_77 ?_
        refine lv_aload_n hx hb dX3_readChange_80 rfl (lv_at hl 2 rfl) ?_
        refine va_get (D := D) (ci := 3) (v := .int (nI rc)) (C := RX3) (T := TX3) (N := 5) hx hb hts inX3 hown hK hP 0 rfl rfl 3 (by decide) (hts _ tw_292) (fun _ h9 => h9) rfl dX3_readChange_81 ?_
        refine lv_iload_n hx hb dX3_readChange_84 rfl (lv_at hl 1 rfl) ?_
        refine va_iast hx hb hK hP hD hS 1 1 rfl rfl (vp_in_nI (by omega) (by decide)) dX3_readChange_85 (fun H locs hP hD hS => ?_)
        replace hP : va_P D classes [(u0, .inr (3, [.ref u1, .ref u2, .int rf, .int (nI rc), .int (nI rr)])), (u1, .inl (k 1, 24, .inl (upd rs (Int32.toNatClampNeg (nI rc)) r_1))), (u2, .inl (k 1, 24, .inl rb)), (x0, .inr (6, [.ref x1, .int (nI tz), .int (nI ta__10), .int na__10, .int 0, .int fb__10])), (x1, .inl (k 0, 240, .inl fx))] H := hP
        replace hD : va_D A [(u0, .inr (3, [.ref u1, .ref u2, .int rf, .int (nI rc), .int (nI rr)])), (u1, .inl (k 1, 24, .inl (upd rs (Int32.toNatClampNeg (nI rc)) r_1))), (u2, .inl (k 1, 24, .inl rb)), (x0, .inr (6, [.ref x1, .int (nI tz), .int (nI ta__10), .int na__10, .int 0, .int fb__10])), (x1, .inl (k 0, 240, .inl fx))] := hD
        generalize (upd rs (Int32.toNatClampNeg (nI rc)) r_1) = f_13 at hP hD
        refine lv_aload_n hx hb dX3_readChange_86 rfl (lv_at hl 2 rfl) ?_
        refine va_get (D := D) (ci := 3) (v := .ref u2) (C := RX3) (T := TX3) (N := 5) hx hb hts inX3 hown hK hP 0 rfl rfl 1 (by decide) (hts _ tw_290) (fun _ h9 => h9) rfl dX3_readChange_87 ?_
        refine lv_aload_n hx hb dX3_readChange_90 rfl (lv_at hl 2 rfl) ?_
        refine va_get (D := D) (ci := 3) (v := .int (nI rc)) (C := RX3) (T := TX3) (N := 5) hx hb hts inX3 hown hK hP 0 rfl rfl 3 (by decide) (hts _ tw_292) (fun _ h9 => h9) rfl dX3_readChange_91 ?_
        refine lv_iload_n hx hb dX3_readChange_94 rfl (lv_at hl 0 rfl) ?_
        refine va_iast hx hb hK hP hD hS 2 1 rfl rfl (vp_in_nI (by omega) (by decide)) dX3_readChange_95 (fun H locs hP hD hS => ?_)
        replace hP : va_P D classes [(u0, .inr (3, [.ref u1, .ref u2, .int rf, .int (nI rc), .int (nI rr)])), (u1, .inl (k 1, 24, .inl f_13)), (u2, .inl (k 1, 24, .inl (upd rb (Int32.toNatClampNeg (nI rc)) r_10))), (x0, .inr (6, [.ref x1, .int (nI tz), .int (nI ta__10), .int na__10, .int 0, .int fb__10])), (x1, .inl (k 0, 240, .inl fx))] H := hP
        replace hD : va_D A [(u0, .inr (3, [.ref u1, .ref u2, .int rf, .int (nI rc), .int (nI rr)])), (u1, .inl (k 1, 24, .inl f_13)), (u2, .inl (k 1, 24, .inl (upd rb (Int32.toNatClampNeg (nI rc)) r_10))), (x0, .inr (6, [.ref x1, .int (nI tz), .int (nI ta__10), .int na__10, .int 0, .int fb__10])), (x1, .inl (k 0, 240, .inl fx))] := hD
        generalize (upd rb (Int32.toNatClampNeg (nI rc)) r_10) = f_14 at hP hD
        refine lv_aload_n hx hb dX3_readChange_96 rfl (lv_at hl 2 rfl) ?_
        refine lv_dup hx hb dX3_readChange_97 rfl ?_
        refine va_get (D := D) (ci := 3) (v := .int (nI rc)) (C := RX3) (T := TX3) (N := 5) hx hb hts inX3 hown hK hP 0 rfl rfl 3 (by decide) (hts _ tw_292) (fun _ h9 => h9) rfl dX3_readChange_98 ?_
        refine lv_iconst (v := 1) hx hb dX3_readChange_101 (by decide) ?_
        refine lv_iadd hx hb dX3_readChange_102 ?_
        refine lv_ti (y := (nI (rc + 1))) (nI_add rc 1) ?_
        refine va_put (D := D) (ci := 3) (v := .int (nI (rc + 1))) (ty := .int) (C := RX3) (T := TX3) (N := 5) hx hb hts inX3 tyX3 tyX3_ok nmX3 hown hK hP hD hS 0 rfl rfl 3 (by decide) (hts _ tw_292) (fun _ h9 => h9) rfl (by decide +kernel) rfl rfl (Nat.le_of_ble_eq_true rfl) dX3_readChange_103 (fun H locs hP hD hS => ?_)
        replace hP : va_P D classes [(u0, .inr (3, [.ref u1, .ref u2, .int rf, .int (nI (rc + 1)), .int (nI rr)])), (u1, .inl (k 1, 24, .inl f_13)), (u2, .inl (k 1, 24, .inl f_14)), (x0, .inr (6, [.ref x1, .int (nI tz), .int (nI ta__10), .int na__10, .int 0, .int fb__10])), (x1, .inl (k 0, 240, .inl fx))] H := hP
        replace hD : va_D A [(u0, .inr (3, [.ref u1, .ref u2, .int rf, .int (nI (rc + 1)), .int (nI rr)])), (u1, .inl (k 1, 24, .inl f_13)), (u2, .inl (k 1, 24, .inl f_14)), (x0, .inr (6, [.ref x1, .int (nI tz), .int (nI ta__10), .int na__10, .int 0, .int fb__10])), (x1, .inl (k 0, 240, .inl fx))] := hD
        have hP9 := hP.sub (ws' := [(u0, .inr (3, [.ref u1, .ref u2, .int rf, .int (nI (rc + 1)), .int (nI rr)])), (u1, .inl (k 1, 24, .inl f_13)), (u2, .inl (k 1, 24, .inl f_14)), (x0, .inr (6, [.ref x1, .int (nI tz), .int (nI ta__10), .int na__10, .int 0, .int fb__10])), (x1, .inl (k 0, 240, .inl fx))]) [0, 1, 2, 3, 4] rfl
        have hD9 := hD.sub (ws' := [(u0, .inr (3, [.ref u1, .ref u2, .int rf, .int (nI (rc + 1)), .int (nI rr)])), (u1, .inl (k 1, 24, .inl f_13)), (u2, .inl (k 1, 24, .inl f_14)), (x0, .inr (6, [.ref x1, .int (nI tz), .int (nI ta__10), .int na__10, .int 0, .int fb__10])), (x1, .inl (k 0, 240, .inl fx))]) [0, 1, 2, 3, 4] (by decide) rfl
        exact W.vret hx hb hr (fun t ht hW => ⟨⟨((rc + 1), f_13, f_14, ta__10, na__10, 0, fb__10), rfl, ⟨by omega, by omega, by omega⟩, by rw [ht]; exact hP9, hD9⟩, hS.F ht⟩) hS.2.2 dX3_readChange_106
    · have c_8 : ¬ (rc ≤ 0) := fun h => c_8 ((nI_leI (a := rc) (b := 0) (by omega) (by omega)).mpr h)
      refine lv_iload_n hx hb dX3_readChange_22 rfl (lv_at hl 0 rfl) ?_
      refine lv_aload_n hx hb dX3_readChange_23 rfl (lv_at hl 1 rfl) ?_
      refine va_get (D := D) (ci := 3) (v := .ref u1) (C := RX3) (T := TX3) (N := 5) hx hb hts inX3 hown hK hP 0 rfl rfl 0 (by decide) (hts _ tw_289) (fun _ h9 => h9) rfl dX3_readChange_24 ?_
      refine lv_aload_n hx hb dX3_readChange_27 rfl (lv_at hl 1 rfl) ?_
      refine va_get (D := D) (ci := 3) (v := .int (nI rc)) (C := RX3) (T := TX3) (N := 5) hx hb hts inX3 hown hK hP 0 rfl rfl 3 (by decide) (hts _ tw_292) (fun _ h9 => h9) rfl dX3_readChange_28 ?_
      refine lv_iconst (v := 1) hx hb dX3_readChange_31 (by decide) ?_
      refine lv_isub hx hb dX3_readChange_32 ?_
      refine lv_ti (y := (nI (rc - 1))) (pk_sub (a := rc) (b := 1) (by omega)) ?_
      refine va_iald hx hb hK hP 1 1 rfl rfl (vp_in_nI (by omega) (by decide)) dX3_readChange_33 ?_
      refine lv_ti (y := (rs (rc - 1))) (by rw [nI_clamp (by omega)]) ?_
      refine lv_icmp_gt (tgt := 46) hx hb dX3_readChange_34 (by decide) (fun c_15 => ?_) (fun c_15 => ?_)
      · refine lv_aload_n hx hb dX3_readChange_46 rfl (lv_at hl 2 rfl) ?_
        refine va_ldcS hx hb hown (hZ.2.2.2.2.2.2.2.2.2.2 (RX3, 28, "from", 12) (List.mem_of_getElem? (i := 12) rfl)) dX3_readChange_47 ?_
        refine rw_v (D := D) (wr := [(u0, .inr (3, [.ref u1, .ref u2, .int rf, .int (nI rc), .int (nI rr)])), (u1, .inl (k 1, 24, .inl rs)), (u2, .inl (k 1, 24, .inl rb))]) (va_runV (As := [.ref (st (100 + 12))]) (rest := []) ⟨hx, hb, hml, hown, hts⟩ ((x_needWord l D k st lo x0 x1 tz ta__1 na__1 0 fb__1 fx 12 (by omega) (by omega) (by omega)) H.size) (cwV 1 hts (gV tw_680 tw_483 tw_484 tw_80 tw_485) rfl rfl rfl (by decide +kernel) ⟨Nat.le_of_ble_eq_true rfl, Nat.le_of_ble_eq_true rfl⟩) (pV hS hAlo hlo hP hK (va_Dlo hD hAlo) hZ [3, 4] (by decide) rfl (ci := 6) (q0 := 0) rfl rfl) rfl rfl hl.1 rfl (lv_room (Nat.le_of_ble_eq_true rfl)) dX3_readChange_49 ⟨Nat.le_of_ble_eq_true rfl, Nat.le_of_ble_eq_true rfl⟩) hS hA hP hD [3, 4] [0, 1, 2] rfl rfl (by decide) (by decide) (fun u H locs hw_16 hP hD hS => ?_)
        obtain ⟨ta__16, fn__16, fb__16⟩ := u
        replace hP : va_P D classes [(u0, .inr (3, [.ref u1, .ref u2, .int rf, .int (nI rc), .int (nI rr)])), (u1, .inl (k 1, 24, .inl rs)), (u2, .inl (k 1, 24, .inl rb)), (x0, .inr (6, [.ref x1, .int (nI tz), .int (nI ta__16), .int na__1, .int fn__16, .int fb__16])), (x1, .inl (k 0, 240, .inl fx))] H := hP
        replace hD : va_D A [(u0, .inr (3, [.ref u1, .ref u2, .int rf, .int (nI rc), .int (nI rr)])), (u1, .inl (k 1, 24, .inl rs)), (u2, .inl (k 1, 24, .inl rb)), (x0, .inr (6, [.ref x1, .int (nI tz), .int (nI ta__16), .int na__1, .int fn__16, .int fb__16])), (x1, .inl (k 0, 240, .inl fx))] := hD
        try dsimp only at hw_16
        refine lv_aload_n hx hb dX3_readChange_52 rfl (lv_at hl 2 rfl) ?_
        refine lv_iconst (v := 0) hx hb dX3_readChange_53 (by decide) ?_
        refine lv_bipush (v := 24) hx hb dX3_readChange_54 (by decide) ?_
        refine rw_i (D := D) (wr := [(u0, .inr (3, [.ref u1, .ref u2, .int rf, .int (nI rc), .int (nI rr)])), (u1, .inl (k 1, 24, .inl rs)), (u2, .inl (k 1, 24, .inl rb))]) (va_runV (As := [.int 0, .int 24]) (rest := []) ⟨hx, hb, hml, hown, hts⟩ ((x_needNumber l D k st lo x0 x1 tz ta__16 na__1 fn__16 fb__16 fx 0 24 (by omega) (by omega) (by decide)) H.size) (cwV 2 hts (gV tw_681 tw_468 tw_469 tw_80 tw_470) rfl rfl rfl (by decide +kernel) ⟨Nat.le_of_ble_eq_true rfl, Nat.le_of_ble_eq_true rfl⟩) (pV hS hAlo hlo hP hK (va_Dlo hD hAlo) hZ [3, 4] (by decide) rfl (ci := 6) (q0 := 0) rfl rfl) rfl rfl hl.1 rfl (lv_room (Nat.le_of_ble_eq_true rfl)) dX3_readChange_56 ⟨Nat.le_of_ble_eq_true rfl, Nat.le_of_ble_eq_true rfl⟩) hS hA hP hD [3, 4] [0, 1, 2] rfl rfl (by decide) (by decide) (fun r_17 u H locs hw_17 hP hD hS => ?_)
        obtain ⟨ta__17, na__17, fn__17, fb__17⟩ := u
        replace hP : va_P D classes [(u0, .inr (3, [.ref u1, .ref u2, .int rf, .int (nI rc), .int (nI rr)])), (u1, .inl (k 1, 24, .inl rs)), (u2, .inl (k 1, 24, .inl rb)), (x0, .inr (6, [.ref x1, .int (nI tz), .int (nI ta__17), .int na__17, .int fn__17, .int fb__17])), (x1, .inl (k 0, 240, .inl fx))] H := hP
        replace hD : va_D A [(u0, .inr (3, [.ref u1, .ref u2, .int rf, .int (nI rc), .int (nI rr)])), (u1, .inl (k 1, 24, .inl rs)), (u2, .inl (k 1, 24, .inl rb)), (x0, .inr (6, [.ref x1, .int (nI tz), .int (nI ta__17), .int na__17, .int fn__17, .int fb__17])), (x1, .inl (k 0, 240, .inl fx))] := hD
        try dsimp only at hw_17
        refine lv_istore_n (lv' := [(3, .int r_17), (2, .int r_1), (0, .ref u0), (1, .ref x0)]) hx hb dX3_readChange_59 rfl hl (by decide) rfl (fun ls hl => ?_)
        refine lv_aload_n hx hb dX3_readChange_60 rfl (lv_at hl 3 rfl) ?_
        refine ro_i (D := D) (va_runV (As := []) (rest := []) ⟨hx, hb, hml, hown, hts⟩ ((x_failed l D k st lo x0 x1 tz ta__17 na__17 fn__17 fb__17) H.size) (cwV 0 hts (gV tw_682 tw_368 tw_369 tw_80 tw_370) rfl rfl rfl (by decide +kernel) ⟨Nat.le_of_ble_eq_true rfl, Nat.le_of_ble_eq_true rfl⟩) (pV hS hAlo hlo hP hK (va_Dlo hD hAlo) hZ [3] (by decide) rfl (ci := 6) (q0 := 0) rfl rfl) rfl rfl hl.1 rfl (lv_room (Nat.le_of_ble_eq_true rfl)) dX3_readChange_61 ⟨Nat.le_of_ble_eq_true rfl, Nat.le_of_ble_eq_true rfl⟩) hS hA hP (fun r_18 H locs hw_18 hP hS => ?_)
        try dsimp only at hw_18
        rcases hw_18 with ⟨rfl, hw_18⟩ | ⟨rfl, rfl⟩
        · refine lv_if_ne (tgt := 106) hx hb dX3_readChange_64 (by decide) (fun _ => ?_) (fun h => absurd h (by decide))
          have hP9 := hP.sub (ws' := [(u0, .inr (3, [.ref u1, .ref u2, .int rf, .int (nI rc), .int (nI rr)])), (u1, .inl (k 1, 24, .inl rs)), (u2, .inl (k 1, 24, .inl rb)), (x0, .inr (6, [.ref x1, .int (nI tz), .int (nI ta__17), .int na__17, .int fn__17, .int fb__17])), (x1, .inl (k 0, 240, .inl fx))]) [0, 1, 2, 3, 4] rfl
          have hD9 := hD.sub (ws' := [(u0, .inr (3, [.ref u1, .ref u2, .int rf, .int (nI rc), .int (nI rr)])), (u1, .inl (k 1, 24, .inl rs)), (u2, .inl (k 1, 24, .inl rb)), (x0, .inr (6, [.ref x1, .int (nI tz), .int (nI ta__17), .int na__17, .int fn__17, .int fb__17])), (x1, .inl (k 0, 240, .inl fx))]) [0, 1, 2, 3, 4] (by decide) rfl
          exact W.vret hx hb hr (fun t ht hW => ⟨⟨(rc, rs, rb, ta__17, na__17, fn__17, fb__17), rfl, ⟨by omega, by omega, by omega⟩, by rw [ht]; exact hP9, hD9⟩, hS.F ht⟩) hS.2.2 dX3_readChange_106
        · refine lv_if_ne (tgt := 106) hx hb dX3_readChange_64 (by decide) (fun h => absurd (by decide) h) (fun _ => ?_)
          refine lv_aload_n hx hb dX3_readChange_67 rfl (lv_at hl 2 rfl) ?_
          refine va_get (D := D) (ci := 3) (v := .int (nI rc)) (C := RX3) (T := TX3) (N := 5) hx hb hts inX3 hown hK hP 0 rfl rfl 3 (by decide) (hts _ tw_292) (fun _ h9 => h9) rfl dX3_readChange_68 ?_
          refine lv_bipush (v := 24) hx hb dX3_readChange_71 (by decide) ?_
          refine lv_icmp_ge (tgt := 106) hx hb dX3_readChange_73 (by decide) (fun c_19 => ?_) (fun c_19 => ?_)
          · have c_19 := (nI_leI (a := 24) (b := rc) (by omega) (by omega)).mp c_19
            have hP9 := hP.sub (ws' := [(u0, .inr (3, [.ref u1, .ref u2, .int rf, .int (nI rc), .int (nI rr)])), (u1, .inl (k 1, 24, .inl rs)), (u2, .inl (k 1, 24, .inl rb)), (x0, .inr (6, [.ref x1, .int (nI tz), .int (nI ta__17), .int na__17, .int 0, .int fb__17])), (x1, .inl (k 0, 240, .inl fx))]) [0, 1, 2, 3, 4] rfl
            have hD9 := hD.sub (ws' := [(u0, .inr (3, [.ref u1, .ref u2, .int rf, .int (nI rc), .int (nI rr)])), (u1, .inl (k 1, 24, .inl rs)), (u2, .inl (k 1, 24, .inl rb)), (x0, .inr (6, [.ref x1, .int (nI tz), .int (nI ta__17), .int na__17, .int 0, .int fb__17])), (x1, .inl (k 0, 240, .inl fx))]) [0, 1, 2, 3, 4] (by decide) rfl
            exact W.vret hx hb hr (fun t ht hW => ⟨⟨(rc, rs, rb, ta__17, na__17, 0, fb__17), rfl, ⟨by omega, by omega, by omega⟩, by rw [ht]; exact hP9, hD9⟩, hS.F ht⟩) hS.2.2 dX3_readChange_106
          · have c_19 : ¬ (24 ≤ rc) := fun h => c_19 ((nI_leI (a := 24) (b := rc) (by omega) (by omega)).mpr h)
            refine lv_aload_n hx hb dX3_readChange_76 rfl (lv_at hl 2 rfl) ?_
            refine va_get (D := D) (ci := 3) (v := .ref u1) (C := RX3) (T := TX3) (N := 5) hx hb hts inX3 hown hK hP 0 rfl rfl 0 (by decide) (hts _ tw_289) (fun _ h9 => h9) rfl dX3_readChange_77 ?_
            refine lv_aload_n hx hb dX3_readChange_80 rfl (lv_at hl 2 rfl) ?_
            refine va_get (D := D) (ci := 3) (v := .int (nI rc)) (C := RX3) (T := TX3) (N := 5) hx hb hts inX3 hown hK hP 0 rfl rfl 3 (by decide) (hts _ tw_292) (fun _ h9 => h9) rfl dX3_readChange_81 ?_
            refine lv_iload_n hx hb dX3_readChange_84 rfl (lv_at hl 1 rfl) ?_
            refine va_iast hx hb hK hP hD hS 1 1 rfl rfl (vp_in_nI (by omega) (by decide)) dX3_readChange_85 (fun H locs hP hD hS => ?_)
            replace hP : va_P D classes [(u0, .inr (3, [.ref u1, .ref u2, .int rf, .int (nI rc), .int (nI rr)])), (u1, .inl (k 1, 24, .inl (upd rs (Int32.toNatClampNeg (nI rc)) r_1))), (u2, .inl (k 1, 24, .inl rb)), (x0, .inr (6, [.ref x1, .int (nI tz), .int (nI ta__17), .int na__17, .int 0, .int fb__17])), (x1, .inl (k 0, 240, .inl fx))] H := hP
            replace hD : va_D A [(u0, .inr (3, [.ref u1, .ref u2, .int rf, .int (nI rc), .int (nI rr)])), (u1, .inl (k 1, 24, .inl (upd rs (Int32.toNatClampNeg (nI rc)) r_1))), (u2, .inl (k 1, 24, .inl rb)), (x0, .inr (6, [.ref x1, .int (nI tz), .int (nI ta__17), .int na__17, .int 0, .int fb__17])), (x1, .inl (k 0, 240, .inl fx))] := hD
            generalize (upd rs (Int32.toNatClampNeg (nI rc)) r_1) = f_20 at hP hD
            refine lv_aload_n hx hb dX3_readChange_86 rfl (lv_at hl 2 rfl) ?_
            refine va_get (D := D) (ci := 3) (v := .ref u2) (C := RX3) (T := TX3) (N := 5) hx hb hts inX3 hown hK hP 0 rfl rfl 1 (by decide) (hts _ tw_290) (fun _ h9 => h9) rfl dX3_readChange_87 ?_
            refine lv_aload_n hx hb dX3_readChange_90 rfl (lv_at hl 2 rfl) ?_
            refine va_get (D := D) (ci := 3) (v := .int (nI rc)) (C := RX3) (T := TX3) (N := 5) hx hb hts inX3 hown hK hP 0 rfl rfl 3 (by decide) (hts _ tw_292) (fun _ h9 => h9) rfl dX3_readChange_91 ?_
            refine lv_iload_n hx hb dX3_readChange_94 rfl (lv_at hl 0 rfl) ?_
            refine va_iast hx hb hK hP hD hS 2 1 rfl rfl (vp_in_nI (by omega) (by decide)) dX3_readChange_95 (fun H locs hP hD hS => ?_)
            replace hP : va_P D classes [(u0, .inr (3, [.ref u1, .ref u2, .int rf, .int (nI rc), .int (nI rr)])), (u1, .inl (k 1, 24, .inl f_20)), (u2, .inl (k 1, 24, .inl (upd rb (Int32.toNatClampNeg (nI rc)) r_17))), (x0, .inr (6, [.ref x1, .int (nI tz), .int (nI ta__17), .int na__17, .int 0, .int fb__17])), (x1, .inl (k 0, 240, .inl fx))] H := hP
            replace hD : va_D A [(u0, .inr (3, [.ref u1, .ref u2, .int rf, .int (nI rc), .int (nI rr)])), (u1, .inl (k 1, 24, .inl f_20)), (u2, .inl (k 1, 24, .inl (upd rb (Int32.toNatClampNeg (nI rc)) r_17))), (x0, .inr (6, [.ref x1, .int (nI tz), .int (nI ta__17), .int na__17, .int 0, .int fb__17])), (x1, .inl (k 0, 240, .inl fx))] := hD
            generalize (upd rb (Int32.toNatClampNeg (nI rc)) r_17) = f_21 at hP hD
            refine lv_aload_n hx hb dX3_readChange_96 rfl (lv_at hl 2 rfl) ?_
            refine lv_dup hx hb dX3_readChange_97 rfl ?_
            refine va_get (D := D) (ci := 3) (v := .int (nI rc)) (C := RX3) (T := TX3) (N := 5) hx hb hts inX3 hown hK hP 0 rfl rfl 3 (by decide) (hts _ tw_292) (fun _ h9 => h9) rfl dX3_readChange_98 ?_
            refine lv_iconst (v := 1) hx hb dX3_readChange_101 (by decide) ?_
            refine lv_iadd hx hb dX3_readChange_102 ?_
            refine lv_ti (y := (nI (rc + 1))) (nI_add rc 1) ?_
            refine va_put (D := D) (ci := 3) (v := .int (nI (rc + 1))) (ty := .int) (C := RX3) (T := TX3) (N := 5) hx hb hts inX3 tyX3 tyX3_ok nmX3 hown hK hP hD hS 0 rfl rfl 3 (by decide) (hts _ tw_292) (fun _ h9 => h9) rfl (by decide +kernel) rfl rfl (Nat.le_of_ble_eq_true rfl) dX3_readChange_103 (fun H locs hP hD hS => ?_)
            replace hP : va_P D classes [(u0, .inr (3, [.ref u1, .ref u2, .int rf, .int (nI (rc + 1)), .int (nI rr)])), (u1, .inl (k 1, 24, .inl f_20)), (u2, .inl (k 1, 24, .inl f_21)), (x0, .inr (6, [.ref x1, .int (nI tz), .int (nI ta__17), .int na__17, .int 0, .int fb__17])), (x1, .inl (k 0, 240, .inl fx))] H := hP
            replace hD : va_D A [(u0, .inr (3, [.ref u1, .ref u2, .int rf, .int (nI (rc + 1)), .int (nI rr)])), (u1, .inl (k 1, 24, .inl f_20)), (u2, .inl (k 1, 24, .inl f_21)), (x0, .inr (6, [.ref x1, .int (nI tz), .int (nI ta__17), .int na__17, .int 0, .int fb__17])), (x1, .inl (k 0, 240, .inl fx))] := hD
            have hP9 := hP.sub (ws' := [(u0, .inr (3, [.ref u1, .ref u2, .int rf, .int (nI (rc + 1)), .int (nI rr)])), (u1, .inl (k 1, 24, .inl f_20)), (u2, .inl (k 1, 24, .inl f_21)), (x0, .inr (6, [.ref x1, .int (nI tz), .int (nI ta__17), .int na__17, .int 0, .int fb__17])), (x1, .inl (k 0, 240, .inl fx))]) [0, 1, 2, 3, 4] rfl
            have hD9 := hD.sub (ws' := [(u0, .inr (3, [.ref u1, .ref u2, .int rf, .int (nI (rc + 1)), .int (nI rr)])), (u1, .inl (k 1, 24, .inl f_20)), (u2, .inl (k 1, 24, .inl f_21)), (x0, .inr (6, [.ref x1, .int (nI tz), .int (nI ta__17), .int na__17, .int 0, .int fb__17])), (x1, .inl (k 0, 240, .inl fx))]) [0, 1, 2, 3, 4] (by decide) rfl
            exact W.vret hx hb hr (fun t ht hW => ⟨⟨((rc + 1), f_20, f_21, ta__17, na__17, 0, fb__17), rfl, ⟨by omega, by omega, by omega⟩, by rw [ht]; exact hP9, hD9⟩, hS.F ht⟩) hS.2.2 dX3_readChange_106
      · refine lv_aload_n hx hb dX3_readChange_37 rfl (lv_at hl 2 rfl) ?_
        refine lv_iconst (v := 3) hx hb dX3_readChange_38 (by decide) ?_
        refine lv_aload_n hx hb dX3_readChange_39 rfl (lv_at hl 2 rfl) ?_
        refine va_get (D := D) (ci := 6) (v := .int na__1) (C := RX6) (T := TX6) (N := 6) hx hb hts inX6 hown hK hP 3 rfl rfl 3 (by decide) (hts _ tw_117) (fun _ h9 => h9) rfl dX3_readChange_40 ?_
        refine rw_v (D := D) (wr := [(u0, .inr (3, [.ref u1, .ref u2, .int rf, .int (nI rc), .int (nI rr)])), (u1, .inl (k 1, 24, .inl rs)), (u2, .inl (k 1, 24, .inl rb)), (x1, .inl (k 0, 240, .inl fx))]) (va_runV (As := [.int 3, .int na__1]) (rest := []) ⟨hx, hb, hml, hown, hts⟩ ((x_fail l D k st lo x0 x1 tz ta__1 na__1 0 fb__1 3 na__1 (by decide)) H.size) (cwV 2 hts (gV tw_689 tw_456 tw_457 tw_80 tw_458) rfl rfl rfl (by decide +kernel) ⟨Nat.le_of_ble_eq_true rfl, Nat.le_of_ble_eq_true rfl⟩) (pV hS hAlo hlo hP hK (va_Dlo hD hAlo) hZ [3] (by decide) rfl (ci := 6) (q0 := 0) rfl rfl) rfl rfl hl.1 rfl (lv_room (Nat.le_of_ble_eq_true rfl)) dX3_readChange_43 ⟨Nat.le_of_ble_eq_true rfl, Nat.le_of_ble_eq_true rfl⟩) hS hA hP hD [3] [0, 1, 2, 4] rfl rfl (by decide) (by decide) (fun u H locs hw_22 hP hD hS => ?_)
        obtain ⟨fn__22, fb__22⟩ := u
        replace hP : va_P D classes [(u0, .inr (3, [.ref u1, .ref u2, .int rf, .int (nI rc), .int (nI rr)])), (u1, .inl (k 1, 24, .inl rs)), (u2, .inl (k 1, 24, .inl rb)), (x1, .inl (k 0, 240, .inl fx)), (x0, .inr (6, [.ref x1, .int (nI tz), .int (nI ta__1), .int na__1, .int fn__22, .int fb__22]))] H := hP
        replace hD : va_D A [(u0, .inr (3, [.ref u1, .ref u2, .int rf, .int (nI rc), .int (nI rr)])), (u1, .inl (k 1, 24, .inl rs)), (u2, .inl (k 1, 24, .inl rb)), (x1, .inl (k 0, 240, .inl fx)), (x0, .inr (6, [.ref x1, .int (nI tz), .int (nI ta__1), .int na__1, .int fn__22, .int fb__22]))] := hD
        try dsimp only at hw_22
        refine lv_aload_n hx hb dX3_readChange_46 rfl (lv_at hl 2 rfl) ?_
        refine va_ldcS hx hb hown (hZ.2.2.2.2.2.2.2.2.2.2 (RX3, 28, "from", 12) (List.mem_of_getElem? (i := 12) rfl)) dX3_readChange_47 ?_
        refine rw_v (D := D) (wr := [(u0, .inr (3, [.ref u1, .ref u2, .int rf, .int (nI rc), .int (nI rr)])), (u1, .inl (k 1, 24, .inl rs)), (u2, .inl (k 1, 24, .inl rb))]) (va_runV (As := [.ref (st (100 + 12))]) (rest := []) ⟨hx, hb, hml, hown, hts⟩ ((x_needWord l D k st lo x0 x1 tz ta__1 na__1 fn__22 fb__22 fx 12 (by omega) (by omega) (by omega)) H.size) (cwV 1 hts (gV tw_680 tw_483 tw_484 tw_80 tw_485) rfl rfl rfl (by decide +kernel) ⟨Nat.le_of_ble_eq_true rfl, Nat.le_of_ble_eq_true rfl⟩) (pV hS hAlo hlo hP hK (va_Dlo hD hAlo) hZ [4, 3] (by decide) rfl (ci := 6) (q0 := 0) rfl rfl) rfl rfl hl.1 rfl (lv_room (Nat.le_of_ble_eq_true rfl)) dX3_readChange_49 ⟨Nat.le_of_ble_eq_true rfl, Nat.le_of_ble_eq_true rfl⟩) hS hA hP hD [4, 3] [0, 1, 2] rfl rfl (by decide) (by decide) (fun u H locs hw_23 hP hD hS => ?_)
        obtain ⟨ta__23, fn__23, fb__23⟩ := u
        replace hP : va_P D classes [(u0, .inr (3, [.ref u1, .ref u2, .int rf, .int (nI rc), .int (nI rr)])), (u1, .inl (k 1, 24, .inl rs)), (u2, .inl (k 1, 24, .inl rb)), (x0, .inr (6, [.ref x1, .int (nI tz), .int (nI ta__23), .int na__1, .int fn__23, .int fb__23])), (x1, .inl (k 0, 240, .inl fx))] H := hP
        replace hD : va_D A [(u0, .inr (3, [.ref u1, .ref u2, .int rf, .int (nI rc), .int (nI rr)])), (u1, .inl (k 1, 24, .inl rs)), (u2, .inl (k 1, 24, .inl rb)), (x0, .inr (6, [.ref x1, .int (nI tz), .int (nI ta__23), .int na__1, .int fn__23, .int fb__23])), (x1, .inl (k 0, 240, .inl fx))] := hD
        try dsimp only at hw_23
        have hnz_24 := hw_23.2.2.resolve_left hw_22
        refine lv_aload_n hx hb dX3_readChange_52 rfl (lv_at hl 2 rfl) ?_
        refine lv_iconst (v := 0) hx hb dX3_readChange_53 (by decide) ?_
        refine lv_bipush (v := 24) hx hb dX3_readChange_54 (by decide) ?_
        refine rw_i (D := D) (wr := [(u0, .inr (3, [.ref u1, .ref u2, .int rf, .int (nI rc), .int (nI rr)])), (u1, .inl (k 1, 24, .inl rs)), (u2, .inl (k 1, 24, .inl rb))]) (va_runV (As := [.int 0, .int 24]) (rest := []) ⟨hx, hb, hml, hown, hts⟩ ((x_needNumber l D k st lo x0 x1 tz ta__23 na__1 fn__23 fb__23 fx 0 24 (by omega) (by omega) (by decide)) H.size) (cwV 2 hts (gV tw_681 tw_468 tw_469 tw_80 tw_470) rfl rfl rfl (by decide +kernel) ⟨Nat.le_of_ble_eq_true rfl, Nat.le_of_ble_eq_true rfl⟩) (pV hS hAlo hlo hP hK (va_Dlo hD hAlo) hZ [3, 4] (by decide) rfl (ci := 6) (q0 := 0) rfl rfl) rfl rfl hl.1 rfl (lv_room (Nat.le_of_ble_eq_true rfl)) dX3_readChange_56 ⟨Nat.le_of_ble_eq_true rfl, Nat.le_of_ble_eq_true rfl⟩) hS hA hP hD [3, 4] [0, 1, 2] rfl rfl (by decide) (by decide) (fun r_25 u H locs hw_25 hP hD hS => ?_)
        obtain ⟨ta__25, na__25, fn__25, fb__25⟩ := u
        replace hP : va_P D classes [(u0, .inr (3, [.ref u1, .ref u2, .int rf, .int (nI rc), .int (nI rr)])), (u1, .inl (k 1, 24, .inl rs)), (u2, .inl (k 1, 24, .inl rb)), (x0, .inr (6, [.ref x1, .int (nI tz), .int (nI ta__25), .int na__25, .int fn__25, .int fb__25])), (x1, .inl (k 0, 240, .inl fx))] H := hP
        replace hD : va_D A [(u0, .inr (3, [.ref u1, .ref u2, .int rf, .int (nI rc), .int (nI rr)])), (u1, .inl (k 1, 24, .inl rs)), (u2, .inl (k 1, 24, .inl rb)), (x0, .inr (6, [.ref x1, .int (nI tz), .int (nI ta__25), .int na__25, .int fn__25, .int fb__25])), (x1, .inl (k 0, 240, .inl fx))] := hD
        try dsimp only at hw_25
        have hnz_26 := hw_25.2.2.2.resolve_left hnz_24
        refine lv_istore_n (lv' := [(3, .int r_25), (2, .int r_1), (0, .ref u0), (1, .ref x0)]) hx hb dX3_readChange_59 rfl hl (by decide) rfl (fun ls hl => ?_)
        refine lv_aload_n hx hb dX3_readChange_60 rfl (lv_at hl 3 rfl) ?_
        refine ro_i (D := D) (va_runV (As := []) (rest := []) ⟨hx, hb, hml, hown, hts⟩ ((x_failed l D k st lo x0 x1 tz ta__25 na__25 fn__25 fb__25) H.size) (cwV 0 hts (gV tw_682 tw_368 tw_369 tw_80 tw_370) rfl rfl rfl (by decide +kernel) ⟨Nat.le_of_ble_eq_true rfl, Nat.le_of_ble_eq_true rfl⟩) (pV hS hAlo hlo hP hK (va_Dlo hD hAlo) hZ [3] (by decide) rfl (ci := 6) (q0 := 0) rfl rfl) rfl rfl hl.1 rfl (lv_room (Nat.le_of_ble_eq_true rfl)) dX3_readChange_61 ⟨Nat.le_of_ble_eq_true rfl, Nat.le_of_ble_eq_true rfl⟩) hS hA hP (fun r_27 H locs hw_27 hP hS => ?_)
        try dsimp only at hw_27
        obtain rfl : r_27 = 1 := by rcases hw_27 with ⟨h, h2⟩ | ⟨h, h2⟩ <;> first | exact h | exact absurd h2 hnz_26
        refine lv_if_ne (tgt := 106) hx hb dX3_readChange_64 (by decide) (fun _ => ?_) (fun h => absurd h (by decide))
        have hP9 := hP.sub (ws' := [(u0, .inr (3, [.ref u1, .ref u2, .int rf, .int (nI rc), .int (nI rr)])), (u1, .inl (k 1, 24, .inl rs)), (u2, .inl (k 1, 24, .inl rb)), (x0, .inr (6, [.ref x1, .int (nI tz), .int (nI ta__25), .int na__25, .int fn__25, .int fb__25])), (x1, .inl (k 0, 240, .inl fx))]) [0, 1, 2, 3, 4] rfl
        have hD9 := hD.sub (ws' := [(u0, .inr (3, [.ref u1, .ref u2, .int rf, .int (nI rc), .int (nI rr)])), (u1, .inl (k 1, 24, .inl rs)), (u2, .inl (k 1, 24, .inl rb)), (x0, .inr (6, [.ref x1, .int (nI tz), .int (nI ta__25), .int na__25, .int fn__25, .int fb__25])), (x1, .inl (k 0, 240, .inl fx))]) [0, 1, 2, 3, 4] (by decide) rfl
        exact W.vret hx hb hr (fun t ht hW => ⟨⟨(rc, rs, rb, ta__25, na__25, fn__25, fb__25), rfl, ⟨by omega, by omega, by omega⟩, by rw [ht]; exact hP9, hD9⟩, hS.F ht⟩) hS.2.2 dX3_readChange_106


theorem dX3_readChange_0 : decode cX3_readChange 0 = .ok (.aload_n 1, 1) := by decide +kernel
theorem dX3_readChange_1 : decode cX3_readChange 1 = .ok (.iconst 1, 1) := by decide +kernel
theorem dX3_readChange_2 : decode cX3_readChange 2 = .ok (.bipush 24, 2) := by decide +kernel
theorem dX3_readChange_4 : decode cX3_readChange 4 = .ok (.invokevirtual 35, 3) := by decide +kernel
theorem dX3_readChange_7 : decode cX3_readChange 7 = .ok (.istore_n 2, 1) := by decide +kernel
theorem dX3_readChange_8 : decode cX3_readChange 8 = .ok (.aload_n 1, 1) := by decide +kernel
theorem dX3_readChange_9 : decode cX3_readChange 9 = .ok (.invokevirtual 39, 3) := by decide +kernel
theorem dX3_readChange_12 : decode cX3_readChange 12 = .ok (.ifCond .ne 34, 3) := by decide +kernel
theorem dX3_readChange_15 : decode cX3_readChange 15 = .ok (.aload_n 0, 1) := by decide +kernel
theorem dX3_readChange_16 : decode cX3_readChange 16 = .ok (.getfield 22, 3) := by decide +kernel
theorem dX3_readChange_19 : decode cX3_readChange 19 = .ok (.ifCond .le 27, 3) := by decide +kernel
theorem dX3_readChange_22 : decode cX3_readChange 22 = .ok (.iload_n 2, 1) := by decide +kernel
theorem dX3_readChange_23 : decode cX3_readChange 23 = .ok (.aload_n 0, 1) := by decide +kernel
theorem dX3_readChange_24 : decode cX3_readChange 24 = .ok (.getfield 9, 3) := by decide +kernel
theorem dX3_readChange_27 : decode cX3_readChange 27 = .ok (.aload_n 0, 1) := by decide +kernel
theorem dX3_readChange_28 : decode cX3_readChange 28 = .ok (.getfield 22, 3) := by decide +kernel
theorem dX3_readChange_31 : decode cX3_readChange 31 = .ok (.iconst 1, 1) := by decide +kernel
theorem dX3_readChange_32 : decode cX3_readChange 32 = .ok (.isub, 1) := by decide +kernel
theorem dX3_readChange_33 : decode cX3_readChange 33 = .ok (.iaload, 1) := by decide +kernel
theorem dX3_readChange_34 : decode cX3_readChange 34 = .ok (.if_icmp .gt 12, 3) := by decide +kernel
theorem dX3_readChange_37 : decode cX3_readChange 37 = .ok (.aload_n 1, 1) := by decide +kernel
theorem dX3_readChange_38 : decode cX3_readChange 38 = .ok (.iconst 3, 1) := by decide +kernel
theorem dX3_readChange_39 : decode cX3_readChange 39 = .ok (.aload_n 1, 1) := by decide +kernel
theorem dX3_readChange_40 : decode cX3_readChange 40 = .ok (.getfield 67, 3) := by decide +kernel
theorem dX3_readChange_43 : decode cX3_readChange 43 = .ok (.invokevirtual 63, 3) := by decide +kernel
theorem dX3_readChange_46 : decode cX3_readChange 46 = .ok (.aload_n 1, 1) := by decide +kernel
theorem dX3_readChange_47 : decode cX3_readChange 47 = .ok (.ldc 28, 2) := by decide +kernel
theorem dX3_readChange_49 : decode cX3_readChange 49 = .ok (.invokevirtual 29, 3) := by decide +kernel
theorem dX3_readChange_52 : decode cX3_readChange 52 = .ok (.aload_n 1, 1) := by decide +kernel
theorem dX3_readChange_53 : decode cX3_readChange 53 = .ok (.iconst 0, 1) := by decide +kernel
theorem dX3_readChange_54 : decode cX3_readChange 54 = .ok (.bipush 24, 2) := by decide +kernel
theorem dX3_readChange_56 : decode cX3_readChange 56 = .ok (.invokevirtual 35, 3) := by decide +kernel
theorem dX3_readChange_59 : decode cX3_readChange 59 = .ok (.istore_n 3, 1) := by decide +kernel
theorem dX3_readChange_60 : decode cX3_readChange 60 = .ok (.aload_n 1, 1) := by decide +kernel
theorem dX3_readChange_61 : decode cX3_readChange 61 = .ok (.invokevirtual 39, 3) := by decide +kernel
theorem dX3_readChange_64 : decode cX3_readChange 64 = .ok (.ifCond .ne 42, 3) := by decide +kernel
theorem dX3_readChange_67 : decode cX3_readChange 67 = .ok (.aload_n 0, 1) := by decide +kernel
theorem dX3_readChange_68 : decode cX3_readChange 68 = .ok (.getfield 22, 3) := by decide +kernel
theorem dX3_readChange_71 : decode cX3_readChange 71 = .ok (.bipush 24, 2) := by decide +kernel
theorem dX3_readChange_73 : decode cX3_readChange 73 = .ok (.if_icmp .ge 33, 3) := by decide +kernel
theorem dX3_readChange_76 : decode cX3_readChange 76 = .ok (.aload_n 0, 1) := by decide +kernel
theorem dX3_readChange_77 : decode cX3_readChange 77 = .ok (.getfield 9, 3) := by decide +kernel
theorem dX3_readChange_80 : decode cX3_readChange 80 = .ok (.aload_n 0, 1) := by decide +kernel
theorem dX3_readChange_81 : decode cX3_readChange 81 = .ok (.getfield 22, 3) := by decide +kernel
theorem dX3_readChange_84 : decode cX3_readChange 84 = .ok (.iload_n 2, 1) := by decide +kernel
theorem dX3_readChange_85 : decode cX3_readChange 85 = .ok (.iastore, 1) := by decide +kernel
theorem dX3_readChange_86 : decode cX3_readChange 86 = .ok (.aload_n 0, 1) := by decide +kernel
theorem dX3_readChange_87 : decode cX3_readChange 87 = .ok (.getfield 15, 3) := by decide +kernel
theorem dX3_readChange_90 : decode cX3_readChange 90 = .ok (.aload_n 0, 1) := by decide +kernel
theorem dX3_readChange_91 : decode cX3_readChange 91 = .ok (.getfield 22, 3) := by decide +kernel
theorem dX3_readChange_94 : decode cX3_readChange 94 = .ok (.iload_n 3, 1) := by decide +kernel
theorem dX3_readChange_95 : decode cX3_readChange 95 = .ok (.iastore, 1) := by decide +kernel
theorem dX3_readChange_96 : decode cX3_readChange 96 = .ok (.aload_n 0, 1) := by decide +kernel
theorem dX3_readChange_97 : decode cX3_readChange 97 = .ok (.dup, 1) := by decide +kernel
theorem dX3_readChange_98 : decode cX3_readChange 98 = .ok (.getfield 22, 3) := by decide +kernel
theorem dX3_readChange_101 : decode cX3_readChange 101 = .ok (.iconst 1, 1) := by decide +kernel
theorem dX3_readChange_102 : decode cX3_readChange 102 = .ok (.iadd, 1) := by decide +kernel
theorem dX3_readChange_103 : decode cX3_readChange 103 = .ok (.putfield 22, 3) := by decide +kernel
theorem dX3_readChange_106 : decode cX3_readChange 106 = .ok (.return_, 1) := by decide +kernel
set_option maxHeartbeats 4000000 in
set_option maxRecDepth 100000 in
theorem x_readChange (l : Launch) (D : va_G) (k : Nat → ClassId) (st : Nat → Nat) (lo : Nat) (u0 : Nat) (u1 : Nat) (u2 : Nat) (rf : Int32) (rc : Nat) (rr : Nat) (rs : Nat → Int32) (rb : Nat → Int32) (x0 : Nat) (x1 : Nat) (tz : Nat) (ta : Nat) (na : Int32) (fn : Int32) (fb : Int32) (fx : Nat → Int32) (ht : ta ≤ tz) (hz : tz ≤ 240) (hrc : rc ≤ 24) : CWv l D k st lo yX3_readChange cX3_readChange 4 none ({ frames := 6, cells := 0, slots := 0, locals := 129 }) 0 0 [.ref u0, .ref x0] [(u0, .inr (3, (fX3 u1 u2 rf (nI rc) (nI rr)))), (aI k u1 24 rs), (aI k u2 24 rb), (x0, .inr (6, (fX6 x1 (nI tz) (nI ta) na fn fb))), (aB k x1 240 fx)] (fun (u : Nat × (Nat → Int32) × (Nat → Int32) × Nat × Int32 × Int32 × Int32) => match u with | (rc_, rs_, rb_, ta_, na_, fn_, fb_) => rc_ ≤ 24 ∧ ta ≤ ta_ ∧ ta_ ≤ tz) (fun (u : Nat × (Nat → Int32) × (Nat → Int32) × Nat × Int32 × Int32 × Int32) => match u with | (rc_, rs_, rb_, ta_, na_, fn_, fb_) => [(u0, .inr (3, (fX3 u1 u2 rf (nI rc_) (nI rr)))), (aI k u1 24 rs_), (aI k u2 24 rb_), (x0, .inr (6, (fX6 x1 (nI tz) (nI ta_) na_ fn_ fb_))), (aB k x1 240 fx)]) := by
  intro sz
  refine Met.ofW (cc := cX3_readChange) (maxL := 4) (ret := none) (by decide) rfl ?_
  intro p e s m args below meth c s₁ B hml hv
  obtain ⟨rfl, hsz, hlo, hP, hK, hDL, hZ⟩ := hv
  have hx := B.exec
  have hb := B.bytes
  have hr := B.returns
  have hts := WS_ts B.pre
  have hown : s.vm.findClass RX3 = some m.cls := findClass_of_methodNamed B.named
  have hlocks := B.notSynchronized
  subst hsz
  have hD := hDL.self (sz := s.heap.size)
  have hAlo := A_lo hDL hlo
  generalize hAe : va_A [(u0, .inr (3, (fX3 u1 u2 rf (nI rc) (nI rr)))), (aI k u1 24 rs), (aI k u2 24 rb), (x0, .inr (6, (fX6 x1 (nI tz) (nI ta) na fn fb))), (aB k x1 240 fx)] s.heap.size = A at hD hAlo ⊢
  have hA : ∀ q : Nat, s.heap.size ≤ q → A q := fun q h => by rw [← hAe]; exact Or.inr h
  have hS : va_S A s.heap s.heap [] := va_S.rf
  have hl := lv_entry ([.ref u0, .ref x0]) (n := 4) (Nat.le_of_ble_eq_true rfl)
  rw [lg_entry_eq]
  generalize (lg_sl ([.ref u0, .ref x0]) ++ List.replicate (4 - (lg_sl ([.ref u0, .ref x0])).length) Slot.unset).toArray = ls at hl ⊢
  have hl : lv_has ls 4 [(0, .ref u0), (1, .ref x0)] := hl
  refine lv_aload_n hx hb dX3_readChange_0 rfl (lv_at hl 1 rfl) ?_
  refine lv_iconst (v := 1) hx hb dX3_readChange_1 (by decide) ?_
  refine lv_bipush (v := 24) hx hb dX3_readChange_2 (by decide) ?_
  refine rw_i (D := D) (wr := [(u0, .inr (3, (fX3 u1 u2 rf (nI rc) (nI rr)))), (aI k u1 24 rs), (aI k u2 24 rb)]) (va_runV (As := [.int 1, .int 24]) (rest := []) ⟨hx, hb, hml, hown, hts⟩ ((x_needNumber l D k st lo x0 x1 tz ta na fn fb fx 1 24 (by omega) (by omega) (by decide)) s.heap.size) (cwV 2 hts (gV tw_681 tw_468 tw_469 tw_80 tw_470) rfl rfl rfl (by decide +kernel) ⟨Nat.le_of_ble_eq_true rfl, Nat.le_of_ble_eq_true rfl⟩) (pV hS hAlo hlo hP hK (va_Dlo hD hAlo) hZ [3, 4] (by decide) rfl (ci := 6) (q := (RX6, TX6, 6)) (q0 := 0) rfl rfl) rfl rfl hl.1 rfl (lv_room (Nat.le_of_ble_eq_true rfl)) dX3_readChange_4 ⟨Nat.le_of_ble_eq_true rfl, Nat.le_of_ble_eq_true rfl⟩) hS hA hP hD [3, 4] [0, 1, 2] rfl rfl (by decide) (by decide) (fun r_1 u H locs hw_1 hP hD hS => ?_)
  obtain ⟨ta__1, na__1, fn__1, fb__1⟩ := u
  replace hP : va_P D classes [(u0, .inr (3, (fX3 u1 u2 rf (nI rc) (nI rr)))), (aI k u1 24 rs), (aI k u2 24 rb), (x0, .inr (6, (fX6 x1 (nI tz) (nI ta__1) na__1 fn__1 fb__1))), (aB k x1 240 fx)] H := hP
  replace hD : va_D A [(u0, .inr (3, (fX3 u1 u2 rf (nI rc) (nI rr)))), (aI k u1 24 rs), (aI k u2 24 rb), (x0, .inr (6, (fX6 x1 (nI tz) (nI ta__1) na__1 fn__1 fb__1))), (aB k x1 240 fx)] := hD
  try dsimp only at hw_1
  refine lv_istore_n (lv' := [(2, .int r_1), (0, .ref u0), (1, .ref x0)]) hx hb dX3_readChange_7 rfl hl (by decide) rfl (fun ls hl => ?_)
  refine lv_aload_n hx hb dX3_readChange_8 rfl (lv_at hl 2 rfl) ?_
  refine ro_i (D := D) (va_runV (As := []) (rest := []) ⟨hx, hb, hml, hown, hts⟩ ((x_failed l D k st lo x0 x1 tz ta__1 na__1 fn__1 fb__1) H.size) (cwV 0 hts (gV tw_682 tw_368 tw_369 tw_80 tw_370) rfl rfl rfl (by decide +kernel) ⟨Nat.le_of_ble_eq_true rfl, Nat.le_of_ble_eq_true rfl⟩) (pV hS hAlo hlo hP hK (va_Dlo hD hAlo) hZ [3] (by decide) rfl (ci := 6) (q := (RX6, TX6, 6)) (q0 := 0) rfl rfl) rfl rfl hl.1 rfl (lv_room (Nat.le_of_ble_eq_true rfl)) dX3_readChange_9 ⟨Nat.le_of_ble_eq_true rfl, Nat.le_of_ble_eq_true rfl⟩) hS hA hP (fun r_2 H locs hw_2 hP hS => ?_)
  try dsimp only at hw_2
  rcases hw_2 with ⟨rfl, hw_2⟩ | ⟨rfl, rfl⟩
  · refine lv_if_ne (tgt := 46) hx hb dX3_readChange_12 (by decide) (fun _ => ?_) (fun h => absurd h (by decide))
    refine lv_aload_n hx hb dX3_readChange_46 rfl (lv_at hl 2 rfl) ?_
    refine va_ldcS hx hb hown (hZ.2.2.2.2.2.2.2.2.2.2 (RX3, 28, "from", 12) (List.mem_of_getElem? (i := 12) rfl)) dX3_readChange_47 ?_
    refine rw_v (D := D) (wr := [(u0, .inr (3, (fX3 u1 u2 rf (nI rc) (nI rr)))), (aI k u1 24 rs), (aI k u2 24 rb)]) (va_runV (As := [.ref (st (100 + 12))]) (rest := []) ⟨hx, hb, hml, hown, hts⟩ ((x_needWord l D k st lo x0 x1 tz ta__1 na__1 fn__1 fb__1 fx 12 (by omega) (by omega) (by omega)) H.size) (cwV 1 hts (gV tw_680 tw_483 tw_484 tw_80 tw_485) rfl rfl rfl (by decide +kernel) ⟨Nat.le_of_ble_eq_true rfl, Nat.le_of_ble_eq_true rfl⟩) (pV hS hAlo hlo hP hK (va_Dlo hD hAlo) hZ [3, 4] (by decide) rfl (ci := 6) (q := (RX6, TX6, 6)) (q0 := 0) rfl rfl) rfl rfl hl.1 rfl (lv_room (Nat.le_of_ble_eq_true rfl)) dX3_readChange_49 ⟨Nat.le_of_ble_eq_true rfl, Nat.le_of_ble_eq_true rfl⟩) hS hA hP hD [3, 4] [0, 1, 2] rfl rfl (by decide) (by decide) (fun u H locs hw_3 hP hD hS => ?_)
    obtain ⟨ta__3, fn__3, fb__3⟩ := u
    replace hP : va_P D classes [(u0, .inr (3, (fX3 u1 u2 rf (nI rc) (nI rr)))), (aI k u1 24 rs), (aI k u2 24 rb), (x0, .inr (6, (fX6 x1 (nI tz) (nI ta__3) na__1 fn__3 fb__3))), (aB k x1 240 fx)] H := hP
    replace hD : va_D A [(u0, .inr (3, (fX3 u1 u2 rf (nI rc) (nI rr)))), (aI k u1 24 rs), (aI k u2 24 rb), (x0, .inr (6, (fX6 x1 (nI tz) (nI ta__3) na__1 fn__3 fb__3))), (aB k x1 240 fx)] := hD
    try dsimp only at hw_3
    have hnz_4 := hw_3.2.2.resolve_left hw_2
    refine lv_aload_n hx hb dX3_readChange_52 rfl (lv_at hl 2 rfl) ?_
    refine lv_iconst (v := 0) hx hb dX3_readChange_53 (by decide) ?_
    refine lv_bipush (v := 24) hx hb dX3_readChange_54 (by decide) ?_
    refine rw_i (D := D) (wr := [(u0, .inr (3, (fX3 u1 u2 rf (nI rc) (nI rr)))), (aI k u1 24 rs), (aI k u2 24 rb)]) (va_runV (As := [.int 0, .int 24]) (rest := []) ⟨hx, hb, hml, hown, hts⟩ ((x_needNumber l D k st lo x0 x1 tz ta__3 na__1 fn__3 fb__3 fx 0 24 (by omega) (by omega) (by decide)) H.size) (cwV 2 hts (gV tw_681 tw_468 tw_469 tw_80 tw_470) rfl rfl rfl (by decide +kernel) ⟨Nat.le_of_ble_eq_true rfl, Nat.le_of_ble_eq_true rfl⟩) (pV hS hAlo hlo hP hK (va_Dlo hD hAlo) hZ [3, 4] (by decide) rfl (ci := 6) (q := (RX6, TX6, 6)) (q0 := 0) rfl rfl) rfl rfl hl.1 rfl (lv_room (Nat.le_of_ble_eq_true rfl)) dX3_readChange_56 ⟨Nat.le_of_ble_eq_true rfl, Nat.le_of_ble_eq_true rfl⟩) hS hA hP hD [3, 4] [0, 1, 2] rfl rfl (by decide) (by decide) (fun r_5 u H locs hw_5 hP hD hS => ?_)
    obtain ⟨ta__5, na__5, fn__5, fb__5⟩ := u
    replace hP : va_P D classes [(u0, .inr (3, (fX3 u1 u2 rf (nI rc) (nI rr)))), (aI k u1 24 rs), (aI k u2 24 rb), (x0, .inr (6, (fX6 x1 (nI tz) (nI ta__5) na__5 fn__5 fb__5))), (aB k x1 240 fx)] H := hP
    replace hD : va_D A [(u0, .inr (3, (fX3 u1 u2 rf (nI rc) (nI rr)))), (aI k u1 24 rs), (aI k u2 24 rb), (x0, .inr (6, (fX6 x1 (nI tz) (nI ta__5) na__5 fn__5 fb__5))), (aB k x1 240 fx)] := hD
    try dsimp only at hw_5
    have hnz_6 := hw_5.2.2.2.resolve_left hnz_4
    refine lv_istore_n (lv' := [(3, .int r_5), (2, .int r_1), (0, .ref u0), (1, .ref x0)]) hx hb dX3_readChange_59 rfl hl (by decide) rfl (fun ls hl => ?_)
    refine lv_aload_n hx hb dX3_readChange_60 rfl (lv_at hl 3 rfl) ?_
    refine ro_i (D := D) (va_runV (As := []) (rest := []) ⟨hx, hb, hml, hown, hts⟩ ((x_failed l D k st lo x0 x1 tz ta__5 na__5 fn__5 fb__5) H.size) (cwV 0 hts (gV tw_682 tw_368 tw_369 tw_80 tw_370) rfl rfl rfl (by decide +kernel) ⟨Nat.le_of_ble_eq_true rfl, Nat.le_of_ble_eq_true rfl⟩) (pV hS hAlo hlo hP hK (va_Dlo hD hAlo) hZ [3] (by decide) rfl (ci := 6) (q := (RX6, TX6, 6)) (q0 := 0) rfl rfl) rfl rfl hl.1 rfl (lv_room (Nat.le_of_ble_eq_true rfl)) dX3_readChange_61 ⟨Nat.le_of_ble_eq_true rfl, Nat.le_of_ble_eq_true rfl⟩) hS hA hP (fun r_7 H locs hw_7 hP hS => ?_)
    try dsimp only at hw_7
    obtain rfl : r_7 = 1 := by rcases hw_7 with ⟨h, h2⟩ | ⟨h, h2⟩ <;> first | exact h | exact absurd h2 hnz_6
    refine lv_if_ne (tgt := 106) hx hb dX3_readChange_64 (by decide) (fun _ => ?_) (fun h => absurd h (by decide))
    have hP9 := hP.sub (ws' := [(u0, .inr (3, (fX3 u1 u2 rf (nI rc) (nI rr)))), (aI k u1 24 rs), (aI k u2 24 rb), (x0, .inr (6, (fX6 x1 (nI tz) (nI ta__5) na__5 fn__5 fb__5))), (aB k x1 240 fx)]) [0, 1, 2, 3, 4] rfl
    have hD9 := hD.sub (ws' := [(u0, .inr (3, (fX3 u1 u2 rf (nI rc) (nI rr)))), (aI k u1 24 rs), (aI k u2 24 rb), (x0, .inr (6, (fX6 x1 (nI tz) (nI ta__5) na__5 fn__5 fb__5))), (aB k x1 240 fx)]) [0, 1, 2, 3, 4] (by decide) rfl
    exact W.vret hx hb hr (fun t ht hW => ⟨⟨(rc, rs, rb, ta__5, na__5, fn__5, fb__5), rfl, ⟨by omega, by omega, by omega⟩, by rw [ht]; exact hP9, hD9⟩, hS.F ht⟩) hS.2.2 dX3_readChange_106
  · refine lv_if_ne (tgt := 46) hx hb dX3_readChange_12 (by decide) (fun h => absurd (by decide) h) (fun _ => ?_)
    refine lv_aload_n hx hb dX3_readChange_15 rfl (lv_at hl 1 rfl) ?_
    refine va_get (D := D) (ci := 3) (v := .int (nI rc)) (C := RX3) (T := TX3) (N := 5) hx hb hts inX3 hown hK hP 0 rfl rfl 3 (by decide) (hts _ tw_292) (fun _ h9 => h9) rfl dX3_readChange_16 ?_
    refine lv_if_le (tgt := 46) hx hb dX3_readChange_19 (by decide) (fun c_8 => ?_) (fun c_8 => ?_)
    · have c_8 := (nI_leI (a := rc) (b := 0) (by omega) (by omega)).mp c_8
      refine lv_aload_n hx hb dX3_readChange_46 rfl (lv_at hl 2 rfl) ?_
      refine va_ldcS hx hb hown (hZ.2.2.2.2.2.2.2.2.2.2 (RX3, 28, "from", 12) (List.mem_of_getElem? (i := 12) rfl)) dX3_readChange_47 ?_
      refine rw_v (D := D) (wr := [(u0, .inr (3, (fX3 u1 u2 rf (nI rc) (nI rr)))), (aI k u1 24 rs), (aI k u2 24 rb)]) (va_runV (As := [.ref (st (100 + 12))]) (rest := []) ⟨hx, hb, hml, hown, hts⟩ ((x_needWord l D k st lo x0 x1 tz ta__1 na__1 0 fb__1 fx 12 (by omega) (by omega) (by omega)) H.size) (cwV 1 hts (gV tw_680 tw_483 tw_484 tw_80 tw_485) rfl rfl rfl (by decide +kernel) ⟨Nat.le_of_ble_eq_true rfl, Nat.le_of_ble_eq_true rfl⟩) (pV hS hAlo hlo hP hK (va_Dlo hD hAlo) hZ [3, 4] (by decide) rfl (ci := 6) (q := (RX6, TX6, 6)) (q0 := 0) rfl rfl) rfl rfl hl.1 rfl (lv_room (Nat.le_of_ble_eq_true rfl)) dX3_readChange_49 ⟨Nat.le_of_ble_eq_true rfl, Nat.le_of_ble_eq_true rfl⟩) hS hA hP hD [3, 4] [0, 1, 2] rfl rfl (by decide) (by decide) (fun u H locs hw_9 hP hD hS => ?_)
      obtain ⟨ta__9, fn__9, fb__9⟩ := u
      replace hP : va_P D classes [(u0, .inr (3, (fX3 u1 u2 rf (nI rc) (nI rr)))), (aI k u1 24 rs), (aI k u2 24 rb), (x0, .inr (6, (fX6 x1 (nI tz) (nI ta__9) na__1 fn__9 fb__9))), (aB k x1 240 fx)] H := hP
      replace hD : va_D A [(u0, .inr (3, (fX3 u1 u2 rf (nI rc) (nI rr)))), (aI k u1 24 rs), (aI k u2 24 rb), (x0, .inr (6, (fX6 x1 (nI tz) (nI ta__9) na__1 fn__9 fb__9))), (aB k x1 240 fx)] := hD
      try dsimp only at hw_9
      refine lv_aload_n hx hb dX3_readChange_52 rfl (lv_at hl 2 rfl) ?_
      refine lv_iconst (v := 0) hx hb dX3_readChange_53 (by decide) ?_
      refine lv_bipush (v := 24) hx hb dX3_readChange_54 (by decide) ?_
      refine rw_i (D := D) (wr := [(u0, .inr (3, (fX3 u1 u2 rf (nI rc) (nI rr)))), (aI k u1 24 rs), (aI k u2 24 rb)]) (va_runV (As := [.int 0, .int 24]) (rest := []) ⟨hx, hb, hml, hown, hts⟩ ((x_needNumber l D k st lo x0 x1 tz ta__9 na__1 fn__9 fb__9 fx 0 24 (by omega) (by omega) (by decide)) H.size) (cwV 2 hts (gV tw_681 tw_468 tw_469 tw_80 tw_470) rfl rfl rfl (by decide +kernel) ⟨Nat.le_of_ble_eq_true rfl, Nat.le_of_ble_eq_true rfl⟩) (pV hS hAlo hlo hP hK (va_Dlo hD hAlo) hZ [3, 4] (by decide) rfl (ci := 6) (q := (RX6, TX6, 6)) (q0 := 0) rfl rfl) rfl rfl hl.1 rfl (lv_room (Nat.le_of_ble_eq_true rfl)) dX3_readChange_56 ⟨Nat.le_of_ble_eq_true rfl, Nat.le_of_ble_eq_true rfl⟩) hS hA hP hD [3, 4] [0, 1, 2] rfl rfl (by decide) (by decide) (fun r_10 u H locs hw_10 hP hD hS => ?_)
      obtain ⟨ta__10, na__10, fn__10, fb__10⟩ := u
      replace hP : va_P D classes [(u0, .inr (3, (fX3 u1 u2 rf (nI rc) (nI rr)))), (aI k u1 24 rs), (aI k u2 24 rb), (x0, .inr (6, (fX6 x1 (nI tz) (nI ta__10) na__10 fn__10 fb__10))), (aB k x1 240 fx)] H := hP
      replace hD : va_D A [(u0, .inr (3, (fX3 u1 u2 rf (nI rc) (nI rr)))), (aI k u1 24 rs), (aI k u2 24 rb), (x0, .inr (6, (fX6 x1 (nI tz) (nI ta__10) na__10 fn__10 fb__10))), (aB k x1 240 fx)] := hD
      try dsimp only at hw_10
      refine lv_istore_n (lv' := [(3, .int r_10), (2, .int r_1), (0, .ref u0), (1, .ref x0)]) hx hb dX3_readChange_59 rfl hl (by decide) rfl (fun ls hl => ?_)
      refine lv_aload_n hx hb dX3_readChange_60 rfl (lv_at hl 3 rfl) ?_
      refine ro_i (D := D) (va_runV (As := []) (rest := []) ⟨hx, hb, hml, hown, hts⟩ ((x_failed l D k st lo x0 x1 tz ta__10 na__10 fn__10 fb__10) H.size) (cwV 0 hts (gV tw_682 tw_368 tw_369 tw_80 tw_370) rfl rfl rfl (by decide +kernel) ⟨Nat.le_of_ble_eq_true rfl, Nat.le_of_ble_eq_true rfl⟩) (pV hS hAlo hlo hP hK (va_Dlo hD hAlo) hZ [3] (by decide) rfl (ci := 6) (q := (RX6, TX6, 6)) (q0 := 0) rfl rfl) rfl rfl hl.1 rfl (lv_room (Nat.le_of_ble_eq_true rfl)) dX3_readChange_61 ⟨Nat.le_of_ble_eq_true rfl, Nat.le_of_ble_eq_true rfl⟩) hS hA hP (fun r_11 H locs hw_11 hP hS => ?_)
      try dsimp only at hw_11
      rcases hw_11 with ⟨rfl, hw_11⟩ | ⟨rfl, rfl⟩
      · refine lv_if_ne (tgt := 106) hx hb dX3_readChange_64 (by decide) (fun _ => ?_) (fun h => absurd h (by decide))
        have hP9 := hP.sub (ws' := [(u0, .inr (3, (fX3 u1 u2 rf (nI rc) (nI rr)))), (aI k u1 24 rs), (aI k u2 24 rb), (x0, .inr (6, (fX6 x1 (nI tz) (nI ta__10) na__10 fn__10 fb__10))), (aB k x1 240 fx)]) [0, 1, 2, 3, 4] rfl
        have hD9 := hD.sub (ws' := [(u0, .inr (3, (fX3 u1 u2 rf (nI rc) (nI rr)))), (aI k u1 24 rs), (aI k u2 24 rb), (x0, .inr (6, (fX6 x1 (nI tz) (nI ta__10) na__10 fn__10 fb__10))), (aB k x1 240 fx)]) [0, 1, 2, 3, 4] (by decide) rfl
        exact W.vret hx hb hr (fun t ht hW => ⟨⟨(rc, rs, rb, ta__10, na__10, fn__10, fb__10), rfl, ⟨by omega, by omega, by omega⟩, by rw [ht]; exact hP9, hD9⟩, hS.F ht⟩) hS.2.2 dX3_readChange_106
      · refine lv_if_ne (tgt := 106) hx hb dX3_readChange_64 (by decide) (fun h => absurd (by decide) h) (fun _ => ?_)
        refine lv_aload_n hx hb dX3_readChange_67 rfl (lv_at hl 2 rfl) ?_
        refine va_get (D := D) (ci := 3) (v := .int (nI rc)) (C := RX3) (T := TX3) (N := 5) hx hb hts inX3 hown hK hP 0 rfl rfl 3 (by decide) (hts _ tw_292) (fun _ h9 => h9) rfl dX3_readChange_68 ?_
        refine lv_bipush (v := 24) hx hb dX3_readChange_71 (by decide) ?_
        refine lv_icmp_ge (tgt := 106) hx hb dX3_readChange_73 (by decide) (fun h => absurd ((nI_leI (a := 24) (b := rc) (by omega) (by omega)).mp h) (by omega)) (fun _ => ?_)
        refine lv_aload_n hx hb dX3_readChange_76 rfl (lv_at hl 2 rfl) ?_
        refine va_get (D := D) (ci := 3) (v := .ref u1) (C := RX3) (T := TX3) (N := 5) hx hb hts inX3 hown hK hP 0 rfl rfl 0 (by decide) (hts _ tw_289) (fun _ h9 => h9) rfl dX3_readChange_77 ?_
        refine lv_aload_n hx hb dX3_readChange_80 rfl (lv_at hl 2 rfl) ?_
        refine va_get (D := D) (ci := 3) (v := .int (nI rc)) (C := RX3) (T := TX3) (N := 5) hx hb hts inX3 hown hK hP 0 rfl rfl 3 (by decide) (hts _ tw_292) (fun _ h9 => h9) rfl dX3_readChange_81 ?_
        refine lv_iload_n hx hb dX3_readChange_84 rfl (lv_at hl 1 rfl) ?_
        refine va_iast hx hb hK hP hD hS 1 1 rfl rfl (vp_in_nI (by omega) (by decide)) dX3_readChange_85 (fun H locs hP hD hS => ?_)
        replace hP : va_P D classes [(u0, .inr (3, (fX3 u1 u2 rf (nI rc) (nI rr)))), (aI k u1 24 (upd rs (Int32.toNatClampNeg (nI rc)) r_1)), (aI k u2 24 rb), (x0, .inr (6, (fX6 x1 (nI tz) (nI ta__10) na__10 0 fb__10))), (aB k x1 240 fx)] H := hP
        replace hD : va_D A [(u0, .inr (3, (fX3 u1 u2 rf (nI rc) (nI rr)))), (aI k u1 24 (upd rs (Int32.toNatClampNeg (nI rc)) r_1)), (aI k u2 24 rb), (x0, .inr (6, (fX6 x1 (nI tz) (nI ta__10) na__10 0 fb__10))), (aB k x1 240 fx)] := hD
        generalize (upd rs (Int32.toNatClampNeg (nI rc)) r_1) = f_13 at hP hD
        refine lv_aload_n hx hb dX3_readChange_86 rfl (lv_at hl 2 rfl) ?_
        refine va_get (D := D) (ci := 3) (v := .ref u2) (C := RX3) (T := TX3) (N := 5) hx hb hts inX3 hown hK hP 0 rfl rfl 1 (by decide) (hts _ tw_290) (fun _ h9 => h9) rfl dX3_readChange_87 ?_
        refine lv_aload_n hx hb dX3_readChange_90 rfl (lv_at hl 2 rfl) ?_
        refine va_get (D := D) (ci := 3) (v := .int (nI rc)) (C := RX3) (T := TX3) (N := 5) hx hb hts inX3 hown hK hP 0 rfl rfl 3 (by decide) (hts _ tw_292) (fun _ h9 => h9) rfl dX3_readChange_91 ?_
        refine lv_iload_n hx hb dX3_readChange_94 rfl (lv_at hl 0 rfl) ?_
        refine va_iast hx hb hK hP hD hS 2 1 rfl rfl (vp_in_nI (by omega) (by decide)) dX3_readChange_95 (fun H locs hP hD hS => ?_)
        replace hP : va_P D classes [(u0, .inr (3, (fX3 u1 u2 rf (nI rc) (nI rr)))), (aI k u1 24 f_13), (aI k u2 24 (upd rb (Int32.toNatClampNeg (nI rc)) r_10)), (x0, .inr (6, (fX6 x1 (nI tz) (nI ta__10) na__10 0 fb__10))), (aB k x1 240 fx)] H := hP
        replace hD : va_D A [(u0, .inr (3, (fX3 u1 u2 rf (nI rc) (nI rr)))), (aI k u1 24 f_13), (aI k u2 24 (upd rb (Int32.toNatClampNeg (nI rc)) r_10)), (x0, .inr (6, (fX6 x1 (nI tz) (nI ta__10) na__10 0 fb__10))), (aB k x1 240 fx)] := hD
        generalize (upd rb (Int32.toNatClampNeg (nI rc)) r_10) = f_14 at hP hD
        refine lv_aload_n hx hb dX3_readChange_96 rfl (lv_at hl 2 rfl) ?_
        refine lv_dup hx hb dX3_readChange_97 rfl ?_
        refine va_get (D := D) (ci := 3) (v := .int (nI rc)) (C := RX3) (T := TX3) (N := 5) hx hb hts inX3 hown hK hP 0 rfl rfl 3 (by decide) (hts _ tw_292) (fun _ h9 => h9) rfl dX3_readChange_98 ?_
        refine lv_iconst (v := 1) hx hb dX3_readChange_101 (by decide) ?_
        refine lv_iadd hx hb dX3_readChange_102 ?_
        refine lv_ti (y := (nI (rc + 1))) (nI_add rc 1) ?_
        refine va_put (D := D) (ci := 3) (v := .int (nI (rc + 1))) (ty := .int) (C := RX3) (T := TX3) (N := 5) hx hb hts inX3 tyX3 tyX3_ok nmX3 hown hK hP hD hS 0 rfl rfl 3 (by decide) (hts _ tw_292) (fun _ h9 => h9) rfl (by decide +kernel) rfl rfl (Nat.le_of_ble_eq_true rfl) dX3_readChange_103 (fun H locs hP hD hS => ?_)
        replace hP : va_P D classes [(u0, .inr (3, (fX3 u1 u2 rf (nI (rc + 1)) (nI rr)))), (aI k u1 24 f_13), (aI k u2 24 f_14), (x0, .inr (6, (fX6 x1 (nI tz) (nI ta__10) na__10 0 fb__10))), (aB k x1 240 fx)] H := hP
        replace hD : va_D A [(u0, .inr (3, (fX3 u1 u2 rf (nI (rc + 1)) (nI rr)))), (aI k u1 24 f_13), (aI k u2 24 f_14), (x0, .inr (6, (fX6 x1 (nI tz) (nI ta__10) na__10 0 fb__10))), (aB k x1 240 fx)] := hD
        have hP9 := hP.sub (ws' := [(u0, .inr (3, (fX3 u1 u2 rf (nI (rc + 1)) (nI rr)))), (aI k u1 24 f_13), (aI k u2 24 f_14), (x0, .inr (6, (fX6 x1 (nI tz) (nI ta__10) na__10 0 fb__10))), (aB k x1 240 fx)]) [0, 1, 2, 3, 4] rfl
        have hD9 := hD.sub (ws' := [(u0, .inr (3, (fX3 u1 u2 rf (nI (rc + 1)) (nI rr)))), (aI k u1 24 f_13), (aI k u2 24 f_14), (x0, .inr (6, (fX6 x1 (nI tz) (nI ta__10) na__10 0 fb__10))), (aB k x1 240 fx)]) [0, 1, 2, 3, 4] (by decide) rfl
        exact W.vret hx hb hr (fun t ht hW => ⟨⟨((rc + 1), f_13, f_14, ta__10, na__10, 0, fb__10), rfl, ⟨by omega, by omega, by omega⟩, by rw [ht]; exact hP9, hD9⟩, hS.F ht⟩) hS.2.2 dX3_readChange_106
    · have c_8 : ¬ (rc ≤ 0) := fun h => c_8 ((nI_leI (a := rc) (b := 0) (by omega) (by omega)).mpr h)
      refine lv_iload_n hx hb dX3_readChange_22 rfl (lv_at hl 0 rfl) ?_
      refine lv_aload_n hx hb dX3_readChange_23 rfl (lv_at hl 1 rfl) ?_
      refine va_get (D := D) (ci := 3) (v := .ref u1) (C := RX3) (T := TX3) (N := 5) hx hb hts inX3 hown hK hP 0 rfl rfl 0 (by decide) (hts _ tw_289) (fun _ h9 => h9) rfl dX3_readChange_24 ?_
      refine lv_aload_n hx hb dX3_readChange_27 rfl (lv_at hl 1 rfl) ?_
      refine va_get (D := D) (ci := 3) (v := .int (nI rc)) (C := RX3) (T := TX3) (N := 5) hx hb hts inX3 hown hK hP 0 rfl rfl 3 (by decide) (hts _ tw_292) (fun _ h9 => h9) rfl dX3_readChange_28 ?_
      refine lv_iconst (v := 1) hx hb dX3_readChange_31 (by decide) ?_
      refine lv_isub hx hb dX3_readChange_32 ?_
      refine lv_ti (y := (nI (rc - 1))) (pk_sub (a := rc) (b := 1) (by omega)) ?_
      refine va_iald hx hb hK hP 1 1 rfl rfl (vp_in_nI (by omega) (by decide)) dX3_readChange_33 ?_
      refine lv_ti (y := (rs (rc - 1))) (by rw [nI_clamp (by omega)]) ?_
      refine lv_icmp_gt (tgt := 46) hx hb dX3_readChange_34 (by decide) (fun c_15 => ?_) (fun c_15 => ?_)
      · refine lv_aload_n hx hb dX3_readChange_46 rfl (lv_at hl 2 rfl) ?_
        refine va_ldcS hx hb hown (hZ.2.2.2.2.2.2.2.2.2.2 (RX3, 28, "from", 12) (List.mem_of_getElem? (i := 12) rfl)) dX3_readChange_47 ?_
        refine rw_v (D := D) (wr := [(u0, .inr (3, (fX3 u1 u2 rf (nI rc) (nI rr)))), (aI k u1 24 rs), (aI k u2 24 rb)]) (va_runV (As := [.ref (st (100 + 12))]) (rest := []) ⟨hx, hb, hml, hown, hts⟩ ((x_needWord l D k st lo x0 x1 tz ta__1 na__1 0 fb__1 fx 12 (by omega) (by omega) (by omega)) H.size) (cwV 1 hts (gV tw_680 tw_483 tw_484 tw_80 tw_485) rfl rfl rfl (by decide +kernel) ⟨Nat.le_of_ble_eq_true rfl, Nat.le_of_ble_eq_true rfl⟩) (pV hS hAlo hlo hP hK (va_Dlo hD hAlo) hZ [3, 4] (by decide) rfl (ci := 6) (q := (RX6, TX6, 6)) (q0 := 0) rfl rfl) rfl rfl hl.1 rfl (lv_room (Nat.le_of_ble_eq_true rfl)) dX3_readChange_49 ⟨Nat.le_of_ble_eq_true rfl, Nat.le_of_ble_eq_true rfl⟩) hS hA hP hD [3, 4] [0, 1, 2] rfl rfl (by decide) (by decide) (fun u H locs hw_16 hP hD hS => ?_)
        obtain ⟨ta__16, fn__16, fb__16⟩ := u
        replace hP : va_P D classes [(u0, .inr (3, (fX3 u1 u2 rf (nI rc) (nI rr)))), (aI k u1 24 rs), (aI k u2 24 rb), (x0, .inr (6, (fX6 x1 (nI tz) (nI ta__16) na__1 fn__16 fb__16))), (aB k x1 240 fx)] H := hP
        replace hD : va_D A [(u0, .inr (3, (fX3 u1 u2 rf (nI rc) (nI rr)))), (aI k u1 24 rs), (aI k u2 24 rb), (x0, .inr (6, (fX6 x1 (nI tz) (nI ta__16) na__1 fn__16 fb__16))), (aB k x1 240 fx)] := hD
        try dsimp only at hw_16
        refine lv_aload_n hx hb dX3_readChange_52 rfl (lv_at hl 2 rfl) ?_
        refine lv_iconst (v := 0) hx hb dX3_readChange_53 (by decide) ?_
        refine lv_bipush (v := 24) hx hb dX3_readChange_54 (by decide) ?_
        refine rw_i (D := D) (wr := [(u0, .inr (3, (fX3 u1 u2 rf (nI rc) (nI rr)))), (aI k u1 24 rs), (aI k u2 24 rb)]) (va_runV (As := [.int 0, .int 24]) (rest := []) ⟨hx, hb, hml, hown, hts⟩ ((x_needNumber l D k st lo x0 x1 tz ta__16 na__1 fn__16 fb__16 fx 0 24 (by omega) (by omega) (by decide)) H.size) (cwV 2 hts (gV tw_681 tw_468 tw_469 tw_80 tw_470) rfl rfl rfl (by decide +kernel) ⟨Nat.le_of_ble_eq_true rfl, Nat.le_of_ble_eq_true rfl⟩) (pV hS hAlo hlo hP hK (va_Dlo hD hAlo) hZ [3, 4] (by decide) rfl (ci := 6) (q := (RX6, TX6, 6)) (q0 := 0) rfl rfl) rfl rfl hl.1 rfl (lv_room (Nat.le_of_ble_eq_true rfl)) dX3_readChange_56 ⟨Nat.le_of_ble_eq_true rfl, Nat.le_of_ble_eq_true rfl⟩) hS hA hP hD [3, 4] [0, 1, 2] rfl rfl (by decide) (by decide) (fun r_17 u H locs hw_17 hP hD hS => ?_)
        obtain ⟨ta__17, na__17, fn__17, fb__17⟩ := u
        replace hP : va_P D classes [(u0, .inr (3, (fX3 u1 u2 rf (nI rc) (nI rr)))), (aI k u1 24 rs), (aI k u2 24 rb), (x0, .inr (6, (fX6 x1 (nI tz) (nI ta__17) na__17 fn__17 fb__17))), (aB k x1 240 fx)] H := hP
        replace hD : va_D A [(u0, .inr (3, (fX3 u1 u2 rf (nI rc) (nI rr)))), (aI k u1 24 rs), (aI k u2 24 rb), (x0, .inr (6, (fX6 x1 (nI tz) (nI ta__17) na__17 fn__17 fb__17))), (aB k x1 240 fx)] := hD
        try dsimp only at hw_17
        refine lv_istore_n (lv' := [(3, .int r_17), (2, .int r_1), (0, .ref u0), (1, .ref x0)]) hx hb dX3_readChange_59 rfl hl (by decide) rfl (fun ls hl => ?_)
        refine lv_aload_n hx hb dX3_readChange_60 rfl (lv_at hl 3 rfl) ?_
        refine ro_i (D := D) (va_runV (As := []) (rest := []) ⟨hx, hb, hml, hown, hts⟩ ((x_failed l D k st lo x0 x1 tz ta__17 na__17 fn__17 fb__17) H.size) (cwV 0 hts (gV tw_682 tw_368 tw_369 tw_80 tw_370) rfl rfl rfl (by decide +kernel) ⟨Nat.le_of_ble_eq_true rfl, Nat.le_of_ble_eq_true rfl⟩) (pV hS hAlo hlo hP hK (va_Dlo hD hAlo) hZ [3] (by decide) rfl (ci := 6) (q := (RX6, TX6, 6)) (q0 := 0) rfl rfl) rfl rfl hl.1 rfl (lv_room (Nat.le_of_ble_eq_true rfl)) dX3_readChange_61 ⟨Nat.le_of_ble_eq_true rfl, Nat.le_of_ble_eq_true rfl⟩) hS hA hP (fun r_18 H locs hw_18 hP hS => ?_)
        try dsimp only at hw_18
        rcases hw_18 with ⟨rfl, hw_18⟩ | ⟨rfl, rfl⟩
        · refine lv_if_ne (tgt := 106) hx hb dX3_readChange_64 (by decide) (fun _ => ?_) (fun h => absurd h (by decide))
          have hP9 := hP.sub (ws' := [(u0, .inr (3, (fX3 u1 u2 rf (nI rc) (nI rr)))), (aI k u1 24 rs), (aI k u2 24 rb), (x0, .inr (6, (fX6 x1 (nI tz) (nI ta__17) na__17 fn__17 fb__17))), (aB k x1 240 fx)]) [0, 1, 2, 3, 4] rfl
          have hD9 := hD.sub (ws' := [(u0, .inr (3, (fX3 u1 u2 rf (nI rc) (nI rr)))), (aI k u1 24 rs), (aI k u2 24 rb), (x0, .inr (6, (fX6 x1 (nI tz) (nI ta__17) na__17 fn__17 fb__17))), (aB k x1 240 fx)]) [0, 1, 2, 3, 4] (by decide) rfl
          exact W.vret hx hb hr (fun t ht hW => ⟨⟨(rc, rs, rb, ta__17, na__17, fn__17, fb__17), rfl, ⟨by omega, by omega, by omega⟩, by rw [ht]; exact hP9, hD9⟩, hS.F ht⟩) hS.2.2 dX3_readChange_106
        · refine lv_if_ne (tgt := 106) hx hb dX3_readChange_64 (by decide) (fun h => absurd (by decide) h) (fun _ => ?_)
          refine lv_aload_n hx hb dX3_readChange_67 rfl (lv_at hl 2 rfl) ?_
          refine va_get (D := D) (ci := 3) (v := .int (nI rc)) (C := RX3) (T := TX3) (N := 5) hx hb hts inX3 hown hK hP 0 rfl rfl 3 (by decide) (hts _ tw_292) (fun _ h9 => h9) rfl dX3_readChange_68 ?_
          refine lv_bipush (v := 24) hx hb dX3_readChange_71 (by decide) ?_
          refine lv_icmp_ge (tgt := 106) hx hb dX3_readChange_73 (by decide) (fun c_19 => ?_) (fun c_19 => ?_)
          · have c_19 := (nI_leI (a := 24) (b := rc) (by omega) (by omega)).mp c_19
            have hP9 := hP.sub (ws' := [(u0, .inr (3, (fX3 u1 u2 rf (nI rc) (nI rr)))), (aI k u1 24 rs), (aI k u2 24 rb), (x0, .inr (6, (fX6 x1 (nI tz) (nI ta__17) na__17 0 fb__17))), (aB k x1 240 fx)]) [0, 1, 2, 3, 4] rfl
            have hD9 := hD.sub (ws' := [(u0, .inr (3, (fX3 u1 u2 rf (nI rc) (nI rr)))), (aI k u1 24 rs), (aI k u2 24 rb), (x0, .inr (6, (fX6 x1 (nI tz) (nI ta__17) na__17 0 fb__17))), (aB k x1 240 fx)]) [0, 1, 2, 3, 4] (by decide) rfl
            exact W.vret hx hb hr (fun t ht hW => ⟨⟨(rc, rs, rb, ta__17, na__17, 0, fb__17), rfl, ⟨by omega, by omega, by omega⟩, by rw [ht]; exact hP9, hD9⟩, hS.F ht⟩) hS.2.2 dX3_readChange_106
          · have c_19 : ¬ (24 ≤ rc) := fun h => c_19 ((nI_leI (a := 24) (b := rc) (by omega) (by omega)).mpr h)
            refine lv_aload_n hx hb dX3_readChange_76 rfl (lv_at hl 2 rfl) ?_
            refine va_get (D := D) (ci := 3) (v := .ref u1) (C := RX3) (T := TX3) (N := 5) hx hb hts inX3 hown hK hP 0 rfl rfl 0 (by decide) (hts _ tw_289) (fun _ h9 => h9) rfl dX3_readChange_77 ?_
            refine lv_aload_n hx hb dX3_readChange_80 rfl (lv_at hl 2 rfl) ?_
            refine va_get (D := D) (ci := 3) (v := .int (nI rc)) (C := RX3) (T := TX3) (N := 5) hx hb hts inX3 hown hK hP 0 rfl rfl 3 (by decide) (hts _ tw_292) (fun _ h9 => h9) rfl dX3_readChange_81 ?_
            refine lv_iload_n hx hb dX3_readChange_84 rfl (lv_at hl 1 rfl) ?_
            refine va_iast hx hb hK hP hD hS 1 1 rfl rfl (vp_in_nI (by omega) (by decide)) dX3_readChange_85 (fun H locs hP hD hS => ?_)
            replace hP : va_P D classes [(u0, .inr (3, (fX3 u1 u2 rf (nI rc) (nI rr)))), (aI k u1 24 (upd rs (Int32.toNatClampNeg (nI rc)) r_1)), (aI k u2 24 rb), (x0, .inr (6, (fX6 x1 (nI tz) (nI ta__17) na__17 0 fb__17))), (aB k x1 240 fx)] H := hP
            replace hD : va_D A [(u0, .inr (3, (fX3 u1 u2 rf (nI rc) (nI rr)))), (aI k u1 24 (upd rs (Int32.toNatClampNeg (nI rc)) r_1)), (aI k u2 24 rb), (x0, .inr (6, (fX6 x1 (nI tz) (nI ta__17) na__17 0 fb__17))), (aB k x1 240 fx)] := hD
            generalize (upd rs (Int32.toNatClampNeg (nI rc)) r_1) = f_20 at hP hD
            refine lv_aload_n hx hb dX3_readChange_86 rfl (lv_at hl 2 rfl) ?_
            refine va_get (D := D) (ci := 3) (v := .ref u2) (C := RX3) (T := TX3) (N := 5) hx hb hts inX3 hown hK hP 0 rfl rfl 1 (by decide) (hts _ tw_290) (fun _ h9 => h9) rfl dX3_readChange_87 ?_
            refine lv_aload_n hx hb dX3_readChange_90 rfl (lv_at hl 2 rfl) ?_
            refine va_get (D := D) (ci := 3) (v := .int (nI rc)) (C := RX3) (T := TX3) (N := 5) hx hb hts inX3 hown hK hP 0 rfl rfl 3 (by decide) (hts _ tw_292) (fun _ h9 => h9) rfl dX3_readChange_91 ?_
            refine lv_iload_n hx hb dX3_readChange_94 rfl (lv_at hl 0 rfl) ?_
            refine va_iast hx hb hK hP hD hS 2 1 rfl rfl (vp_in_nI (by omega) (by decide)) dX3_readChange_95 (fun H locs hP hD hS => ?_)
            replace hP : va_P D classes [(u0, .inr (3, (fX3 u1 u2 rf (nI rc) (nI rr)))), (aI k u1 24 f_20), (aI k u2 24 (upd rb (Int32.toNatClampNeg (nI rc)) r_17)), (x0, .inr (6, (fX6 x1 (nI tz) (nI ta__17) na__17 0 fb__17))), (aB k x1 240 fx)] H := hP
            replace hD : va_D A [(u0, .inr (3, (fX3 u1 u2 rf (nI rc) (nI rr)))), (aI k u1 24 f_20), (aI k u2 24 (upd rb (Int32.toNatClampNeg (nI rc)) r_17)), (x0, .inr (6, (fX6 x1 (nI tz) (nI ta__17) na__17 0 fb__17))), (aB k x1 240 fx)] := hD
            generalize (upd rb (Int32.toNatClampNeg (nI rc)) r_17) = f_21 at hP hD
            refine lv_aload_n hx hb dX3_readChange_96 rfl (lv_at hl 2 rfl) ?_
            refine lv_dup hx hb dX3_readChange_97 rfl ?_
            refine va_get (D := D) (ci := 3) (v := .int (nI rc)) (C := RX3) (T := TX3) (N := 5) hx hb hts inX3 hown hK hP 0 rfl rfl 3 (by decide) (hts _ tw_292) (fun _ h9 => h9) rfl dX3_readChange_98 ?_
            refine lv_iconst (v := 1) hx hb dX3_readChange_101 (by decide) ?_
            refine lv_iadd hx hb dX3_readChange_102 ?_
            refine lv_ti (y := (nI (rc + 1))) (nI_add rc 1) ?_
            refine va_put (D := D) (ci := 3) (v := .int (nI (rc + 1))) (ty := .int) (C := RX3) (T := TX3) (N := 5) hx hb hts inX3 tyX3 tyX3_ok nmX3 hown hK hP hD hS 0 rfl rfl 3 (by decide) (hts _ tw_292) (fun _ h9 => h9) rfl (by decide +kernel) rfl rfl (Nat.le_of_ble_eq_true rfl) dX3_readChange_103 (fun H locs hP hD hS => ?_)
            replace hP : va_P D classes [(u0, .inr (3, (fX3 u1 u2 rf (nI (rc + 1)) (nI rr)))), (aI k u1 24 f_20), (aI k u2 24 f_21), (x0, .inr (6, (fX6 x1 (nI tz) (nI ta__17) na__17 0 fb__17))), (aB k x1 240 fx)] H := hP
            replace hD : va_D A [(u0, .inr (3, (fX3 u1 u2 rf (nI (rc + 1)) (nI rr)))), (aI k u1 24 f_20), (aI k u2 24 f_21), (x0, .inr (6, (fX6 x1 (nI tz) (nI ta__17) na__17 0 fb__17))), (aB k x1 240 fx)] := hD
            have hP9 := hP.sub (ws' := [(u0, .inr (3, (fX3 u1 u2 rf (nI (rc + 1)) (nI rr)))), (aI k u1 24 f_20), (aI k u2 24 f_21), (x0, .inr (6, (fX6 x1 (nI tz) (nI ta__17) na__17 0 fb__17))), (aB k x1 240 fx)]) [0, 1, 2, 3, 4] rfl
            have hD9 := hD.sub (ws' := [(u0, .inr (3, (fX3 u1 u2 rf (nI (rc + 1)) (nI rr)))), (aI k u1 24 f_20), (aI k u2 24 f_21), (x0, .inr (6, (fX6 x1 (nI tz) (nI ta__17) na__17 0 fb__17))), (aB k x1 240 fx)]) [0, 1, 2, 3, 4] (by decide) rfl
            exact W.vret hx hb hr (fun t ht hW => ⟨⟨((rc + 1), f_20, f_21, ta__17, na__17, 0, fb__17), rfl, ⟨by omega, by omega, by omega⟩, by rw [ht]; exact hP9, hD9⟩, hS.F ht⟩) hS.2.2 dX3_readChange_106
      · refine lv_aload_n hx hb dX3_readChange_37 rfl (lv_at hl 2 rfl) ?_
        refine lv_iconst (v := 3) hx hb dX3_readChange_38 (by decide) ?_
        refine lv_aload_n hx hb dX3_readChange_39 rfl (lv_at hl 2 rfl) ?_
        refine va_get (D := D) (ci := 6) (v := .int na__1) (C := RX6) (T := TX6) (N := 6) hx hb hts inX6 hown hK hP 3 rfl rfl 3 (by decide) (hts _ tw_117) (fun _ h9 => h9) rfl dX3_readChange_40 ?_
        refine rw_v (D := D) (wr := [(u0, .inr (3, (fX3 u1 u2 rf (nI rc) (nI rr)))), (aI k u1 24 rs), (aI k u2 24 rb), (aB k x1 240 fx)]) (va_runV (As := [.int 3, .int na__1]) (rest := []) ⟨hx, hb, hml, hown, hts⟩ ((x_fail l D k st lo x0 x1 tz ta__1 na__1 0 fb__1 3 na__1 (by decide)) H.size) (cwV 2 hts (gV tw_689 tw_456 tw_457 tw_80 tw_458) rfl rfl rfl (by decide +kernel) ⟨Nat.le_of_ble_eq_true rfl, Nat.le_of_ble_eq_true rfl⟩) (pV hS hAlo hlo hP hK (va_Dlo hD hAlo) hZ [3] (by decide) rfl (ci := 6) (q := (RX6, TX6, 6)) (q0 := 0) rfl rfl) rfl rfl hl.1 rfl (lv_room (Nat.le_of_ble_eq_true rfl)) dX3_readChange_43 ⟨Nat.le_of_ble_eq_true rfl, Nat.le_of_ble_eq_true rfl⟩) hS hA hP hD [3] [0, 1, 2, 4] rfl rfl (by decide) (by decide) (fun u H locs hw_22 hP hD hS => ?_)
        obtain ⟨fn__22, fb__22⟩ := u
        replace hP : va_P D classes [(u0, .inr (3, (fX3 u1 u2 rf (nI rc) (nI rr)))), (aI k u1 24 rs), (aI k u2 24 rb), (aB k x1 240 fx), (x0, .inr (6, (fX6 x1 (nI tz) (nI ta__1) na__1 fn__22 fb__22)))] H := hP
        replace hD : va_D A [(u0, .inr (3, (fX3 u1 u2 rf (nI rc) (nI rr)))), (aI k u1 24 rs), (aI k u2 24 rb), (aB k x1 240 fx), (x0, .inr (6, (fX6 x1 (nI tz) (nI ta__1) na__1 fn__22 fb__22)))] := hD
        try dsimp only at hw_22
        refine lv_aload_n hx hb dX3_readChange_46 rfl (lv_at hl 2 rfl) ?_
        refine va_ldcS hx hb hown (hZ.2.2.2.2.2.2.2.2.2.2 (RX3, 28, "from", 12) (List.mem_of_getElem? (i := 12) rfl)) dX3_readChange_47 ?_
        refine rw_v (D := D) (wr := [(u0, .inr (3, (fX3 u1 u2 rf (nI rc) (nI rr)))), (aI k u1 24 rs), (aI k u2 24 rb)]) (va_runV (As := [.ref (st (100 + 12))]) (rest := []) ⟨hx, hb, hml, hown, hts⟩ ((x_needWord l D k st lo x0 x1 tz ta__1 na__1 fn__22 fb__22 fx 12 (by omega) (by omega) (by omega)) H.size) (cwV 1 hts (gV tw_680 tw_483 tw_484 tw_80 tw_485) rfl rfl rfl (by decide +kernel) ⟨Nat.le_of_ble_eq_true rfl, Nat.le_of_ble_eq_true rfl⟩) (pV hS hAlo hlo hP hK (va_Dlo hD hAlo) hZ [4, 3] (by decide) rfl (ci := 6) (q := (RX6, TX6, 6)) (q0 := 0) rfl rfl) rfl rfl hl.1 rfl (lv_room (Nat.le_of_ble_eq_true rfl)) dX3_readChange_49 ⟨Nat.le_of_ble_eq_true rfl, Nat.le_of_ble_eq_true rfl⟩) hS hA hP hD [4, 3] [0, 1, 2] rfl rfl (by decide) (by decide) (fun u H locs hw_23 hP hD hS => ?_)
        obtain ⟨ta__23, fn__23, fb__23⟩ := u
        replace hP : va_P D classes [(u0, .inr (3, (fX3 u1 u2 rf (nI rc) (nI rr)))), (aI k u1 24 rs), (aI k u2 24 rb), (x0, .inr (6, (fX6 x1 (nI tz) (nI ta__23) na__1 fn__23 fb__23))), (aB k x1 240 fx)] H := hP
        replace hD : va_D A [(u0, .inr (3, (fX3 u1 u2 rf (nI rc) (nI rr)))), (aI k u1 24 rs), (aI k u2 24 rb), (x0, .inr (6, (fX6 x1 (nI tz) (nI ta__23) na__1 fn__23 fb__23))), (aB k x1 240 fx)] := hD
        try dsimp only at hw_23
        have hnz_24 := hw_23.2.2.resolve_left hw_22
        refine lv_aload_n hx hb dX3_readChange_52 rfl (lv_at hl 2 rfl) ?_
        refine lv_iconst (v := 0) hx hb dX3_readChange_53 (by decide) ?_
        refine lv_bipush (v := 24) hx hb dX3_readChange_54 (by decide) ?_
        refine rw_i (D := D) (wr := [(u0, .inr (3, (fX3 u1 u2 rf (nI rc) (nI rr)))), (aI k u1 24 rs), (aI k u2 24 rb)]) (va_runV (As := [.int 0, .int 24]) (rest := []) ⟨hx, hb, hml, hown, hts⟩ ((x_needNumber l D k st lo x0 x1 tz ta__23 na__1 fn__23 fb__23 fx 0 24 (by omega) (by omega) (by decide)) H.size) (cwV 2 hts (gV tw_681 tw_468 tw_469 tw_80 tw_470) rfl rfl rfl (by decide +kernel) ⟨Nat.le_of_ble_eq_true rfl, Nat.le_of_ble_eq_true rfl⟩) (pV hS hAlo hlo hP hK (va_Dlo hD hAlo) hZ [3, 4] (by decide) rfl (ci := 6) (q := (RX6, TX6, 6)) (q0 := 0) rfl rfl) rfl rfl hl.1 rfl (lv_room (Nat.le_of_ble_eq_true rfl)) dX3_readChange_56 ⟨Nat.le_of_ble_eq_true rfl, Nat.le_of_ble_eq_true rfl⟩) hS hA hP hD [3, 4] [0, 1, 2] rfl rfl (by decide) (by decide) (fun r_25 u H locs hw_25 hP hD hS => ?_)
        obtain ⟨ta__25, na__25, fn__25, fb__25⟩ := u
        replace hP : va_P D classes [(u0, .inr (3, (fX3 u1 u2 rf (nI rc) (nI rr)))), (aI k u1 24 rs), (aI k u2 24 rb), (x0, .inr (6, (fX6 x1 (nI tz) (nI ta__25) na__25 fn__25 fb__25))), (aB k x1 240 fx)] H := hP
        replace hD : va_D A [(u0, .inr (3, (fX3 u1 u2 rf (nI rc) (nI rr)))), (aI k u1 24 rs), (aI k u2 24 rb), (x0, .inr (6, (fX6 x1 (nI tz) (nI ta__25) na__25 fn__25 fb__25))), (aB k x1 240 fx)] := hD
        try dsimp only at hw_25
        have hnz_26 := hw_25.2.2.2.resolve_left hnz_24
        refine lv_istore_n (lv' := [(3, .int r_25), (2, .int r_1), (0, .ref u0), (1, .ref x0)]) hx hb dX3_readChange_59 rfl hl (by decide) rfl (fun ls hl => ?_)
        refine lv_aload_n hx hb dX3_readChange_60 rfl (lv_at hl 3 rfl) ?_
        refine ro_i (D := D) (va_runV (As := []) (rest := []) ⟨hx, hb, hml, hown, hts⟩ ((x_failed l D k st lo x0 x1 tz ta__25 na__25 fn__25 fb__25) H.size) (cwV 0 hts (gV tw_682 tw_368 tw_369 tw_80 tw_370) rfl rfl rfl (by decide +kernel) ⟨Nat.le_of_ble_eq_true rfl, Nat.le_of_ble_eq_true rfl⟩) (pV hS hAlo hlo hP hK (va_Dlo hD hAlo) hZ [3] (by decide) rfl (ci := 6) (q := (RX6, TX6, 6)) (q0 := 0) rfl rfl) rfl rfl hl.1 rfl (lv_room (Nat.le_of_ble_eq_true rfl)) dX3_readChange_61 ⟨Nat.le_of_ble_eq_true rfl, Nat.le_of_ble_eq_true rfl⟩) hS hA hP (fun r_27 H locs hw_27 hP hS => ?_)
        try dsimp only at hw_27
        obtain rfl : r_27 = 1 := by rcases hw_27 with ⟨h, h2⟩ | ⟨h, h2⟩ <;> first | exact h | exact absurd h2 hnz_26
        refine lv_if_ne (tgt := 106) hx hb dX3_readChange_64 (by decide) (fun _ => ?_) (fun h => absurd h (by decide))
        have hP9 := hP.sub (ws' := [(u0, .inr (3, (fX3 u1 u2 rf (nI rc) (nI rr)))), (aI k u1 24 rs), (aI k u2 24 rb), (x0, .inr (6, (fX6 x1 (nI tz) (nI ta__25) na__25 fn__25 fb__25))), (aB k x1 240 fx)]) [0, 1, 2, 3, 4] rfl
        have hD9 := hD.sub (ws' := [(u0, .inr (3, (fX3 u1 u2 rf (nI rc) (nI rr)))), (aI k u1 24 rs), (aI k u2 24 rb), (x0, .inr (6, (fX6 x1 (nI tz) (nI ta__25) na__25 fn__25 fb__25))), (aB k x1 240 fx)]) [0, 1, 2, 3, 4] (by decide) rfl
        exact W.vret hx hb hr (fun t ht hW => ⟨⟨(rc, rs, rb, ta__25, na__25, fn__25, fb__25), rfl, ⟨by omega, by omega, by omega⟩, by rw [ht]; exact hP9, hD9⟩, hS.F ht⟩) hS.2.2 dX3_readChange_106

theorem dX3_readFrom_0 : decode cX3_readFrom 0 = .ok (.aload_n 0, 1) := by decide +kernel
theorem dX3_readFrom_1 : decode cX3_readFrom 1 = .ok (.iconst 0, 1) := by decide +kernel
theorem dX3_readFrom_2 : decode cX3_readFrom 2 = .ok (.putfield 22, 3) := by decide +kernel
theorem dX3_readFrom_5 : decode cX3_readFrom 5 = .ok (.aload_n 0, 1) := by decide +kernel
theorem dX3_readFrom_6 : decode cX3_readFrom 6 = .ok (.iconst 0, 1) := by decide +kernel
theorem dX3_readFrom_7 : decode cX3_readFrom 7 = .ok (.putfield 25, 3) := by decide +kernel
theorem dX3_readFrom_10 : decode cX3_readFrom 10 = .ok (.aload_n 1, 1) := by decide +kernel
theorem dX3_readFrom_11 : decode cX3_readFrom 11 = .ok (.ldc 28, 2) := by decide +kernel
theorem dX3_readFrom_13 : decode cX3_readFrom 13 = .ok (.invokevirtual 29, 3) := by decide +kernel
theorem dX3_readFrom_16 : decode cX3_readFrom 16 = .ok (.aload_n 0, 1) := by decide +kernel
theorem dX3_readFrom_17 : decode cX3_readFrom 17 = .ok (.aload_n 1, 1) := by decide +kernel
theorem dX3_readFrom_18 : decode cX3_readFrom 18 = .ok (.iconst 0, 1) := by decide +kernel
theorem dX3_readFrom_19 : decode cX3_readFrom 19 = .ok (.bipush 24, 2) := by decide +kernel
theorem dX3_readFrom_21 : decode cX3_readFrom 21 = .ok (.invokevirtual 35, 3) := by decide +kernel
theorem dX3_readFrom_24 : decode cX3_readFrom 24 = .ok (.putfield 18, 3) := by decide +kernel
theorem dX3_readFrom_27 : decode cX3_readFrom 27 = .ok (.iconst 0, 1) := by decide +kernel
theorem dX3_readFrom_28 : decode cX3_readFrom 28 = .ok (.istore_n 2, 1) := by decide +kernel
theorem dX3_readFrom_29 : decode cX3_readFrom 29 = .ok (.iload_n 2, 1) := by decide +kernel
theorem dX3_readFrom_30 : decode cX3_readFrom 30 = .ok (.bipush 24, 2) := by decide +kernel
theorem dX3_readFrom_32 : decode cX3_readFrom 32 = .ok (.if_icmp .ge 30, 3) := by decide +kernel
theorem dX3_readFrom_35 : decode cX3_readFrom 35 = .ok (.aload_n 1, 1) := by decide +kernel
theorem dX3_readFrom_36 : decode cX3_readFrom 36 = .ok (.invokevirtual 39, 3) := by decide +kernel
theorem dX3_readFrom_39 : decode cX3_readFrom 39 = .ok (.ifCond .ne 23, 3) := by decide +kernel
theorem dX3_readFrom_42 : decode cX3_readFrom 42 = .ok (.aload_n 1, 1) := by decide +kernel
theorem dX3_readFrom_43 : decode cX3_readFrom 43 = .ok (.ldc 43, 2) := by decide +kernel
theorem dX3_readFrom_45 : decode cX3_readFrom 45 = .ok (.invokevirtual 44, 3) := by decide +kernel
theorem dX3_readFrom_48 : decode cX3_readFrom 48 = .ok (.ifCond .eq 14, 3) := by decide +kernel
theorem dX3_readFrom_51 : decode cX3_readFrom 51 = .ok (.aload_n 0, 1) := by decide +kernel
theorem dX3_readFrom_52 : decode cX3_readFrom 52 = .ok (.aload_n 1, 1) := by decide +kernel
theorem dX3_readFrom_53 : decode cX3_readFrom 53 = .ok (.invokevirtual 48, 3) := by decide +kernel
theorem dX3_readFrom_56 : decode cX3_readFrom 56 = .ok (.iinc 2 1, 3) := by decide +kernel
theorem dX3_readFrom_59 : decode cX3_readFrom 59 = .ok (.goto (-30), 3) := by decide +kernel
theorem dX3_readFrom_62 : decode cX3_readFrom 62 = .ok (.aload_n 1, 1) := by decide +kernel
theorem dX3_readFrom_63 : decode cX3_readFrom 63 = .ok (.invokevirtual 39, 3) := by decide +kernel
theorem dX3_readFrom_66 : decode cX3_readFrom 66 = .ok (.ifCond .ne 27, 3) := by decide +kernel
theorem dX3_readFrom_69 : decode cX3_readFrom 69 = .ok (.aload_n 1, 1) := by decide +kernel
theorem dX3_readFrom_70 : decode cX3_readFrom 70 = .ok (.ldc 52, 2) := by decide +kernel
theorem dX3_readFrom_72 : decode cX3_readFrom 72 = .ok (.invokevirtual 44, 3) := by decide +kernel
theorem dX3_readFrom_75 : decode cX3_readFrom 75 = .ok (.ifCond .eq 18, 3) := by decide +kernel
theorem dX3_readFrom_78 : decode cX3_readFrom 78 = .ok (.aload_n 0, 1) := by decide +kernel
theorem dX3_readFrom_79 : decode cX3_readFrom 79 = .ok (.aload_n 1, 1) := by decide +kernel
theorem dX3_readFrom_80 : decode cX3_readFrom 80 = .ok (.iconst 0, 1) := by decide +kernel
theorem dX3_readFrom_81 : decode cX3_readFrom 81 = .ok (.getstatic 54, 3) := by decide +kernel
theorem dX3_readFrom_84 : decode cX3_readFrom 84 = .ok (.bipush 8, 2) := by decide +kernel
theorem dX3_readFrom_86 : decode cX3_readFrom 86 = .ok (.iaload, 1) := by decide +kernel
theorem dX3_readFrom_87 : decode cX3_readFrom 87 = .ok (.invokevirtual 35, 3) := by decide +kernel
theorem dX3_readFrom_90 : decode cX3_readFrom 90 = .ok (.putfield 25, 3) := by decide +kernel
theorem dX3_readFrom_93 : decode cX3_readFrom 93 = .ok (.aload_n 1, 1) := by decide +kernel
theorem dX3_readFrom_94 : decode cX3_readFrom 94 = .ok (.invokevirtual 39, 3) := by decide +kernel
theorem dX3_readFrom_97 : decode cX3_readFrom 97 = .ok (.ifCond .ne 19, 3) := by decide +kernel
theorem dX3_readFrom_100 : decode cX3_readFrom 100 = .ok (.aload_n 1, 1) := by decide +kernel
theorem dX3_readFrom_101 : decode cX3_readFrom 101 = .ok (.invokevirtual 57, 3) := by decide +kernel
theorem dX3_readFrom_104 : decode cX3_readFrom 104 = .ok (.ifCond .ne 12, 3) := by decide +kernel
theorem dX3_readFrom_107 : decode cX3_readFrom 107 = .ok (.aload_n 1, 1) := by decide +kernel
theorem dX3_readFrom_108 : decode cX3_readFrom 108 = .ok (.iconst 1, 1) := by decide +kernel
theorem dX3_readFrom_109 : decode cX3_readFrom 109 = .ok (.aload_n 1, 1) := by decide +kernel
theorem dX3_readFrom_110 : decode cX3_readFrom 110 = .ok (.getfield 60, 3) := by decide +kernel
theorem dX3_readFrom_113 : decode cX3_readFrom 113 = .ok (.invokevirtual 63, 3) := by decide +kernel
theorem dX3_readFrom_116 : decode cX3_readFrom 116 = .ok (.return_, 1) := by decide +kernel
set_option maxHeartbeats 4000000 in
set_option maxRecDepth 100000 in
theorem x_Rule_readFrom (l : Launch) (D : va_G) (k : Nat → ClassId) (st : Nat → Nat) (lo : Nat) (u0 : Nat) (u1 : Nat) (u2 : Nat) (rf : Int32) (rc : Nat) (rr : Nat) (rs : Nat → Int32) (rb : Nat → Int32) (x0 : Nat) (x1 : Nat) (tz : Nat) (ta : Nat) (na : Int32) (fn : Int32) (fb : Int32) (fx : Nat → Int32) (ht : ta ≤ tz) (hz : tz ≤ 240) : CWv l D k st lo yX3_readFrom cX3_readFrom 3 none ({ frames := 7, cells := 0, slots := 0, locals := 152 }) 0 0 [.ref u0, .ref x0] [(u0, .inr (3, (fX3 u1 u2 rf (nI rc) (nI rr)))), (aI k u1 24 rs), (aI k u2 24 rb), (x0, .inr (6, (fX6 x1 (nI tz) (nI ta) na fn fb))), (aB k x1 240 fx)] (fun (u : Int32 × Nat × Nat × (Nat → Int32) × (Nat → Int32) × Nat × Int32 × Int32 × Int32) => match u with | (rf_, rc_, rr_, rs_, rb_, ta_, na_, fn_, fb_) => rc_ ≤ 24 ∧ rr_ ≤ 3 ∧ ta_ ≤ tz) (fun (u : Int32 × Nat × Nat × (Nat → Int32) × (Nat → Int32) × Nat × Int32 × Int32 × Int32) => match u with | (rf_, rc_, rr_, rs_, rb_, ta_, na_, fn_, fb_) => [(u0, .inr (3, (fX3 u1 u2 rf_ (nI rc_) (nI rr_)))), (aI k u1 24 rs_), (aI k u2 24 rb_), (x0, .inr (6, (fX6 x1 (nI tz) (nI ta_) na_ fn_ fb_))), (aB k x1 240 fx)]) := by
  intro sz
  refine Met.ofW (cc := cX3_readFrom) (maxL := 3) (ret := none) (by decide) rfl ?_
  intro p e s m args below meth c s₁ B hml hv
  obtain ⟨rfl, hsz, hlo, hP, hK, hDL, hZ⟩ := hv
  have hx := B.exec
  have hb := B.bytes
  have hr := B.returns
  have hts := WS_ts B.pre
  have hown : s.vm.findClass RX3 = some m.cls := findClass_of_methodNamed B.named
  have hlocks := B.notSynchronized
  subst hsz
  have hD := hDL.self (sz := s.heap.size)
  have hAlo := A_lo hDL hlo
  generalize hAe : va_A [(u0, .inr (3, (fX3 u1 u2 rf (nI rc) (nI rr)))), (aI k u1 24 rs), (aI k u2 24 rb), (x0, .inr (6, (fX6 x1 (nI tz) (nI ta) na fn fb))), (aB k x1 240 fx)] s.heap.size = A at hD hAlo ⊢
  have hA : ∀ q : Nat, s.heap.size ≤ q → A q := fun q h => by rw [← hAe]; exact Or.inr h
  have hS : va_S A s.heap s.heap [] := va_S.rf
  have hl := lv_entry ([.ref u0, .ref x0]) (n := 3) (Nat.le_of_ble_eq_true rfl)
  rw [lg_entry_eq]
  generalize (lg_sl ([.ref u0, .ref x0]) ++ List.replicate (3 - (lg_sl ([.ref u0, .ref x0])).length) Slot.unset).toArray = ls at hl ⊢
  have hl : lv_has ls 3 [(0, .ref u0), (1, .ref x0)] := hl
  refine lv_aload_n hx hb dX3_readFrom_0 rfl (lv_at hl 0 rfl) ?_
  refine lv_iconst (v := 0) hx hb dX3_readFrom_1 (by decide) ?_
  refine va_put (D := D) (ci := 3) (v := .int 0) (ty := .int) (C := RX3) (T := TX3) (N := 5) hx hb hts inX3 tyX3 tyX3_ok nmX3 hown hK hP hD hS 0 rfl rfl 3 (by decide) (hts _ tw_292) (fun _ h9 => h9) rfl (by decide +kernel) rfl rfl (Nat.le_of_ble_eq_true rfl) dX3_readFrom_2 (fun H locs hP hD hS => ?_)
  replace hP : va_P D classes [(u0, .inr (3, (fX3 u1 u2 rf 0 (nI rr)))), (aI k u1 24 rs), (aI k u2 24 rb), (x0, .inr (6, (fX6 x1 (nI tz) (nI ta) na fn fb))), (aB k x1 240 fx)] H := hP
  replace hD : va_D A [(u0, .inr (3, (fX3 u1 u2 rf 0 (nI rr)))), (aI k u1 24 rs), (aI k u2 24 rb), (x0, .inr (6, (fX6 x1 (nI tz) (nI ta) na fn fb))), (aB k x1 240 fx)] := hD
  refine lv_aload_n hx hb dX3_readFrom_5 rfl (lv_at hl 0 rfl) ?_
  refine lv_iconst (v := 0) hx hb dX3_readFrom_6 (by decide) ?_
  refine va_put (D := D) (ci := 3) (v := .int 0) (ty := .int) (C := RX3) (T := TX3) (N := 5) hx hb hts inX3 tyX3 tyX3_ok nmX3 hown hK hP hD hS 0 rfl rfl 4 (by decide) (hts _ tw_293) (fun _ h9 => h9) rfl (by decide +kernel) rfl rfl (Nat.le_of_ble_eq_true rfl) dX3_readFrom_7 (fun H locs hP hD hS => ?_)
  replace hP : va_P D classes [(u0, .inr (3, (fX3 u1 u2 rf 0 0))), (aI k u1 24 rs), (aI k u2 24 rb), (x0, .inr (6, (fX6 x1 (nI tz) (nI ta) na fn fb))), (aB k x1 240 fx)] H := hP
  replace hD : va_D A [(u0, .inr (3, (fX3 u1 u2 rf 0 0))), (aI k u1 24 rs), (aI k u2 24 rb), (x0, .inr (6, (fX6 x1 (nI tz) (nI ta) na fn fb))), (aB k x1 240 fx)] := hD
  refine lv_aload_n hx hb dX3_readFrom_10 rfl (lv_at hl 1 rfl) ?_
  refine va_ldcS hx hb hown (hZ.2.2.2.2.2.2.2.2.2.2 (RX3, 28, "from", 12) (List.mem_of_getElem? (i := 12) rfl)) dX3_readFrom_11 ?_
  refine rw_v (D := D) (wr := [(u0, .inr (3, (fX3 u1 u2 rf 0 0))), (aI k u1 24 rs), (aI k u2 24 rb)]) (va_runV (As := [.ref (st (100 + 12))]) (rest := []) ⟨hx, hb, hml, hown, hts⟩ ((x_needWord l D k st lo x0 x1 tz ta na fn fb fx 12 (by omega) (by omega) (by omega)) H.size) (cwV 1 hts (gV tw_680 tw_483 tw_484 tw_80 tw_485) rfl rfl rfl (by decide +kernel) ⟨Nat.le_of_ble_eq_true rfl, Nat.le_of_ble_eq_true rfl⟩) (pV hS hAlo hlo hP hK (va_Dlo hD hAlo) hZ [3, 4] (by decide) rfl (ci := 6) (q := (RX6, TX6, 6)) (q0 := 0) rfl rfl) rfl rfl hl.1 rfl (lv_room (Nat.le_of_ble_eq_true rfl)) dX3_readFrom_13 ⟨Nat.le_of_ble_eq_true rfl, Nat.le_of_ble_eq_true rfl⟩) hS hA hP hD [3, 4] [0, 1, 2] rfl rfl (by decide) (by decide) (fun u H locs hw_1 hP hD hS => ?_)
  obtain ⟨ta__1, fn__1, fb__1⟩ := u
  replace hP : va_P D classes [(u0, .inr (3, (fX3 u1 u2 rf 0 0))), (aI k u1 24 rs), (aI k u2 24 rb), (x0, .inr (6, (fX6 x1 (nI tz) (nI ta__1) na fn__1 fb__1))), (aB k x1 240 fx)] H := hP
  replace hD : va_D A [(u0, .inr (3, (fX3 u1 u2 rf 0 0))), (aI k u1 24 rs), (aI k u2 24 rb), (x0, .inr (6, (fX6 x1 (nI tz) (nI ta__1) na fn__1 fb__1))), (aB k x1 240 fx)] := hD
  try dsimp only at hw_1
  refine lv_aload_n hx hb dX3_readFrom_16 rfl (lv_at hl 0 rfl) ?_
  refine lv_aload_n hx hb dX3_readFrom_17 rfl (lv_at hl 1 rfl) ?_
  refine lv_iconst (v := 0) hx hb dX3_readFrom_18 (by decide) ?_
  refine lv_bipush (v := 24) hx hb dX3_readFrom_19 (by decide) ?_
  refine rw_i (D := D) (wr := [(u0, .inr (3, (fX3 u1 u2 rf 0 0))), (aI k u1 24 rs), (aI k u2 24 rb)]) (va_runV (As := [.int 0, .int 24]) (rest := [.ref u0]) ⟨hx, hb, hml, hown, hts⟩ ((x_needNumber l D k st lo x0 x1 tz ta__1 na fn__1 fb__1 fx 0 24 (by omega) (by omega) (by decide)) H.size) (cwV 2 hts (gV tw_681 tw_468 tw_469 tw_80 tw_470) rfl rfl rfl (by decide +kernel) ⟨Nat.le_of_ble_eq_true rfl, Nat.le_of_ble_eq_true rfl⟩) (pV hS hAlo hlo hP hK (va_Dlo hD hAlo) hZ [3, 4] (by decide) rfl (ci := 6) (q := (RX6, TX6, 6)) (q0 := 0) rfl rfl) rfl rfl hl.1 rfl (lv_room (Nat.le_of_ble_eq_true rfl)) dX3_readFrom_21 ⟨Nat.le_of_ble_eq_true rfl, Nat.le_of_ble_eq_true rfl⟩) hS hA hP hD [3, 4] [0, 1, 2] rfl rfl (by decide) (by decide) (fun r_2 u H locs hw_2 hP hD hS => ?_)
  obtain ⟨ta__2, na__2, fn__2, fb__2⟩ := u
  replace hP : va_P D classes [(u0, .inr (3, (fX3 u1 u2 rf 0 0))), (aI k u1 24 rs), (aI k u2 24 rb), (x0, .inr (6, (fX6 x1 (nI tz) (nI ta__2) na__2 fn__2 fb__2))), (aB k x1 240 fx)] H := hP
  replace hD : va_D A [(u0, .inr (3, (fX3 u1 u2 rf 0 0))), (aI k u1 24 rs), (aI k u2 24 rb), (x0, .inr (6, (fX6 x1 (nI tz) (nI ta__2) na__2 fn__2 fb__2))), (aB k x1 240 fx)] := hD
  try dsimp only at hw_2
  refine va_put (D := D) (ci := 3) (v := .int r_2) (ty := .int) (C := RX3) (T := TX3) (N := 5) hx hb hts inX3 tyX3 tyX3_ok nmX3 hown hK hP hD hS 0 rfl rfl 2 (by decide) (hts _ tw_291) (fun _ h9 => h9) rfl (by decide +kernel) rfl rfl (Nat.le_of_ble_eq_true rfl) dX3_readFrom_24 (fun H locs hP hD hS => ?_)
  replace hP : va_P D classes [(u0, .inr (3, (fX3 u1 u2 r_2 0 0))), (aI k u1 24 rs), (aI k u2 24 rb), (x0, .inr (6, (fX6 x1 (nI tz) (nI ta__2) na__2 fn__2 fb__2))), (aB k x1 240 fx)] H := hP
  replace hD : va_D A [(u0, .inr (3, (fX3 u1 u2 r_2 0 0))), (aI k u1 24 rs), (aI k u2 24 rb), (x0, .inr (6, (fX6 x1 (nI tz) (nI ta__2) na__2 fn__2 fb__2))), (aB k x1 240 fx)] := hD
  refine lv_iconst (v := 0) hx hb dX3_readFrom_27 (by decide) ?_
  refine lv_istore_n (lv' := [(2, .int 0), (0, .ref u0), (1, .ref x0)]) hx hb dX3_readFrom_28 rfl hl (by decide) rfl (fun ls hl => ?_)
  refine W_loop (σ := Nat × Nat × (Nat → Int32) × (Nat → Int32) × Nat × Int32 × Int32 × Int32) (fun (n_ : Nat) (x_ : Nat × Nat × (Nat → Int32) × (Nat → Int32) × Nat × Int32 × Int32 × Int32) (H : Heap) (locs : List Loc) (ls : Array Slot) => match x_ with | (kk_3, rc2_3, rs2_3, rb2_3, ta2_3, na2_3, fn2_3, fb2_3) => n_ = 24 - kk_3 ∧ (kk_3 ≤ 24 ∧ rc2_3 ≤ 24 ∧ ta2_3 ≤ tz) ∧ va_P D classes [(u0, .inr (3, (fX3 u1 u2 r_2 (nI rc2_3) 0))), (aI k u1 24 rs2_3), (aI k u2 24 rb2_3), (x0, .inr (6, (fX6 x1 (nI tz) (nI ta2_3) na2_3 fn2_3 fb2_3))), (aB k x1 240 fx)] H ∧ va_D A [(u0, .inr (3, (fX3 u1 u2 r_2 (nI rc2_3) 0))), (aI k u1 24 rs2_3), (aI k u2 24 rb2_3), (x0, .inr (6, (fX6 x1 (nI tz) (nI ta2_3) na2_3 fn2_3 fb2_3))), (aB k x1 240 fx)] ∧ va_S A s.heap H locs ∧ lv_has ls 3 [(2, .int (nI kk_3)), (0, .ref u0), (1, .ref x0)]) (fun n_3 x_3 H locs ls hI ih_3 => ?_) _ (0, 0, rs, rb, ta__2, na__2, fn__2, fb__2) ⟨rfl, ⟨by omega, by omega, by omega⟩, hP, hD, hS, (lv_sub hl [0, 1, 2] rfl)⟩
  obtain ⟨kk_3, rc2_3, rs2_3, rb2_3, ta2_3, na2_3, fn2_3, fb2_3⟩ := x_3
  obtain ⟨hm_3, hv_3, hP, hD, hS, hl⟩ := hI
  subst hm_3
  refine lv_iload_n hx hb dX3_readFrom_29 rfl (lv_at hl 0 rfl) ?_
  refine lv_bipush (v := 24) hx hb dX3_readFrom_30 (by decide) ?_
  refine lv_icmp_ge (tgt := 62) hx hb dX3_readFrom_32 (by decide) (fun c_4 => ?_) (fun c_4 => ?_)
  · have c_4 := (nI_leI (a := 24) (b := kk_3) (by omega) (by omega)).mp c_4
    refine lv_aload_n hx hb dX3_readFrom_62 rfl (lv_at hl 2 rfl) ?_
    refine ro_i (D := D) (va_runV (As := []) (rest := []) ⟨hx, hb, hml, hown, hts⟩ ((x_failed l D k st lo x0 x1 tz ta2_3 na2_3 fn2_3 fb2_3) H.size) (cwV 0 hts (gV tw_682 tw_368 tw_369 tw_80 tw_370) rfl rfl rfl (by decide +kernel) ⟨Nat.le_of_ble_eq_true rfl, Nat.le_of_ble_eq_true rfl⟩) (pV hS hAlo hlo hP hK (va_Dlo hD hAlo) hZ [3] (by decide) rfl (ci := 6) (q := (RX6, TX6, 6)) (q0 := 0) rfl rfl) rfl rfl hl.1 rfl (lv_room (Nat.le_of_ble_eq_true rfl)) dX3_readFrom_63 ⟨Nat.le_of_ble_eq_true rfl, Nat.le_of_ble_eq_true rfl⟩) hS hA hP (fun r_5 H locs hw_5 hP hS => ?_)
    try dsimp only at hw_5
    rcases hw_5 with ⟨rfl, hw_5⟩ | ⟨rfl, rfl⟩
    · refine lv_if_ne (tgt := 93) hx hb dX3_readFrom_66 (by decide) (fun _ => ?_) (fun h => absurd h (by decide))
      refine lv_aload_n hx hb dX3_readFrom_93 rfl (lv_at hl 2 rfl) ?_
      refine ro_i (D := D) (va_runV (As := []) (rest := []) ⟨hx, hb, hml, hown, hts⟩ ((x_failed l D k st lo x0 x1 tz ta2_3 na2_3 fn2_3 fb2_3) H.size) (cwV 0 hts (gV tw_682 tw_368 tw_369 tw_80 tw_370) rfl rfl rfl (by decide +kernel) ⟨Nat.le_of_ble_eq_true rfl, Nat.le_of_ble_eq_true rfl⟩) (pV hS hAlo hlo hP hK (va_Dlo hD hAlo) hZ [3] (by decide) rfl (ci := 6) (q := (RX6, TX6, 6)) (q0 := 0) rfl rfl) rfl rfl hl.1 rfl (lv_room (Nat.le_of_ble_eq_true rfl)) dX3_readFrom_94 ⟨Nat.le_of_ble_eq_true rfl, Nat.le_of_ble_eq_true rfl⟩) hS hA hP (fun r_6 H locs hw_6 hP hS => ?_)
      try dsimp only at hw_6
      obtain rfl : r_6 = 1 := by rcases hw_6 with ⟨h, h2⟩ | ⟨h, h2⟩ <;> first | exact h | exact absurd h2 hw_5
      refine lv_if_ne (tgt := 116) hx hb dX3_readFrom_97 (by decide) (fun _ => ?_) (fun h => absurd h (by decide))
      have hP9 := hP.sub (ws' := [(u0, .inr (3, (fX3 u1 u2 r_2 (nI rc2_3) 0))), (aI k u1 24 rs2_3), (aI k u2 24 rb2_3), (x0, .inr (6, (fX6 x1 (nI tz) (nI ta2_3) na2_3 fn2_3 fb2_3))), (aB k x1 240 fx)]) [0, 1, 2, 3, 4] rfl
      have hD9 := hD.sub (ws' := [(u0, .inr (3, (fX3 u1 u2 r_2 (nI rc2_3) 0))), (aI k u1 24 rs2_3), (aI k u2 24 rb2_3), (x0, .inr (6, (fX6 x1 (nI tz) (nI ta2_3) na2_3 fn2_3 fb2_3))), (aB k x1 240 fx)]) [0, 1, 2, 3, 4] (by decide) rfl
      exact W.vret hx hb hr (fun t ht hW => ⟨⟨(r_2, rc2_3, 0, rs2_3, rb2_3, ta2_3, na2_3, fn2_3, fb2_3), rfl, ⟨by omega, by omega, by omega⟩, by rw [ht]; exact hP9, hD9⟩, hS.F ht⟩) hS.2.2 dX3_readFrom_116
    · refine lv_if_ne (tgt := 93) hx hb dX3_readFrom_66 (by decide) (fun h => absurd (by decide) h) (fun _ => ?_)
      refine lv_aload_n hx hb dX3_readFrom_69 rfl (lv_at hl 2 rfl) ?_
      refine va_ldcS hx hb hown (hZ.2.2.2.2.2.2.2.2.2.2 (RX3, 52, "round", 7) (List.mem_of_getElem? (i := 14) rfl)) dX3_readFrom_70 ?_
      refine rw_i (D := D) (wr := [(u0, .inr (3, (fX3 u1 u2 r_2 (nI rc2_3) 0))), (aI k u1 24 rs2_3), (aI k u2 24 rb2_3)]) (va_runV (As := [.ref (st (100 + 7))]) (rest := []) ⟨hx, hb, hml, hown, hts⟩ ((x_takeWord l D k st lo x0 x1 tz ta2_3 na2_3 0 fb2_3 fx 7 (by omega) (by omega) (by omega)) H.size) (cwV 1 hts (gV tw_684 tw_400 tw_401 tw_80 tw_402) rfl rfl rfl (by decide +kernel) ⟨Nat.le_of_ble_eq_true rfl, Nat.le_of_ble_eq_true rfl⟩) (pV hS hAlo hlo hP hK (va_Dlo hD hAlo) hZ [3, 4] (by decide) rfl (ci := 6) (q := (RX6, TX6, 6)) (q0 := 0) rfl rfl) rfl rfl hl.1 rfl (lv_room (Nat.le_of_ble_eq_true rfl)) dX3_readFrom_72 ⟨Nat.le_of_ble_eq_true rfl, Nat.le_of_ble_eq_true rfl⟩) hS hA hP hD [3, 4] [0, 1, 2] rfl rfl (by decide) (by decide) (fun r_7 u H locs hw_7 hP hD hS => ?_)
      obtain ⟨ta__7, rfl⟩ : ∃ z, z = u := ⟨_, rfl⟩
      replace hP : va_P D classes [(u0, .inr (3, (fX3 u1 u2 r_2 (nI rc2_3) 0))), (aI k u1 24 rs2_3), (aI k u2 24 rb2_3), (x0, .inr (6, (fX6 x1 (nI tz) (nI ta__7) na2_3 0 fb2_3))), (aB k x1 240 fx)] H := hP
      replace hD : va_D A [(u0, .inr (3, (fX3 u1 u2 r_2 (nI rc2_3) 0))), (aI k u1 24 rs2_3), (aI k u2 24 rb2_3), (x0, .inr (6, (fX6 x1 (nI tz) (nI ta__7) na2_3 0 fb2_3))), (aB k x1 240 fx)] := hD
      try dsimp only at hw_7
      rcases hw_7 with ⟨rfl | rfl, hw_7⟩
      · refine lv_if_eq (tgt := 93) hx hb dX3_readFrom_75 (by decide) (fun h => absurd h (by decide)) (fun _ => ?_)
        refine lv_aload_n hx hb dX3_readFrom_78 rfl (lv_at hl 1 rfl) ?_
        refine lv_aload_n hx hb dX3_readFrom_79 rfl (lv_at hl 2 rfl) ?_
        refine lv_iconst (v := 0) hx hb dX3_readFrom_80 (by decide) ?_
        refine va_getsN (A := A) hx hb (hZ.2.2.1.narrow hAlo) hS hown ((hZ.2.2.2.2.2.2.2.2.1.2.1 (RX3, 54, "LastPlace", "MOST", "[I", RX7) (List.mem_of_getElem? (i := 3) rfl)).use rfl) (fun _ h9 => h9) dX3_readFrom_81 ?_
        refine lv_bipush (v := 8) hx hb dX3_readFrom_84 (by decide) ?_
        refine va_ti (A := A) hx hb (hZ.2.2.2.1.narrow hAlo) hS (i := 8) (by unfold vp_in; decide) (v := .int 3) rfl dX3_readFrom_86 ?_
        refine rw_i (D := D) (wr := [(u0, .inr (3, (fX3 u1 u2 r_2 (nI rc2_3) 0))), (aI k u1 24 rs2_3), (aI k u2 24 rb2_3)]) (va_runV (As := [.int 0, .int 3]) (rest := [.ref u0]) ⟨hx, hb, hml, hown, hts⟩ ((x_needNumber l D k st lo x0 x1 tz ta__7 na2_3 0 fb2_3 fx 0 3 (by omega) (by omega) (by decide)) H.size) (cwV 2 hts (gV tw_681 tw_468 tw_469 tw_80 tw_470) rfl rfl rfl (by decide +kernel) ⟨Nat.le_of_ble_eq_true rfl, Nat.le_of_ble_eq_true rfl⟩) (pV hS hAlo hlo hP hK (va_Dlo hD hAlo) hZ [3, 4] (by decide) rfl (ci := 6) (q := (RX6, TX6, 6)) (q0 := 0) rfl rfl) rfl rfl hl.1 rfl (lv_room (Nat.le_of_ble_eq_true rfl)) dX3_readFrom_87 ⟨Nat.le_of_ble_eq_true rfl, Nat.le_of_ble_eq_true rfl⟩) hS hA hP hD [3, 4] [0, 1, 2] rfl rfl (by decide) (by decide) (fun r_8 u H locs hw_8 hP hD hS => ?_)
        obtain ⟨ta__8, na__8, fn__8, fb__8⟩ := u
        replace hP : va_P D classes [(u0, .inr (3, (fX3 u1 u2 r_2 (nI rc2_3) 0))), (aI k u1 24 rs2_3), (aI k u2 24 rb2_3), (x0, .inr (6, (fX6 x1 (nI tz) (nI ta__8) na__8 fn__8 fb__8))), (aB k x1 240 fx)] H := hP
        replace hD : va_D A [(u0, .inr (3, (fX3 u1 u2 r_2 (nI rc2_3) 0))), (aI k u1 24 rs2_3), (aI k u2 24 rb2_3), (x0, .inr (6, (fX6 x1 (nI tz) (nI ta__8) na__8 fn__8 fb__8))), (aB k x1 240 fx)] := hD
        try dsimp only at hw_8
        obtain ⟨nb_9, hnl_9, hnh_9, rfl⟩ := inB_ofc (a := 0) (b := 3) (by omega) (by omega) hw_8.2.2.1
        refine va_put (D := D) (ci := 3) (v := .int (nI nb_9)) (ty := .int) (C := RX3) (T := TX3) (N := 5) hx hb hts inX3 tyX3 tyX3_ok nmX3 hown hK hP hD hS 0 rfl rfl 4 (by decide) (hts _ tw_293) (fun _ h9 => h9) rfl (by decide +kernel) rfl rfl (Nat.le_of_ble_eq_true rfl) dX3_readFrom_90 (fun H locs hP hD hS => ?_)
        replace hP : va_P D classes [(u0, .inr (3, (fX3 u1 u2 r_2 (nI rc2_3) (nI nb_9)))), (aI k u1 24 rs2_3), (aI k u2 24 rb2_3), (x0, .inr (6, (fX6 x1 (nI tz) (nI ta__8) na__8 fn__8 fb__8))), (aB k x1 240 fx)] H := hP
        replace hD : va_D A [(u0, .inr (3, (fX3 u1 u2 r_2 (nI rc2_3) (nI nb_9)))), (aI k u1 24 rs2_3), (aI k u2 24 rb2_3), (x0, .inr (6, (fX6 x1 (nI tz) (nI ta__8) na__8 fn__8 fb__8))), (aB k x1 240 fx)] := hD
        refine lv_aload_n hx hb dX3_readFrom_93 rfl (lv_at hl 2 rfl) ?_
        refine ro_i (D := D) (va_runV (As := []) (rest := []) ⟨hx, hb, hml, hown, hts⟩ ((x_failed l D k st lo x0 x1 tz ta__8 na__8 fn__8 fb__8) H.size) (cwV 0 hts (gV tw_682 tw_368 tw_369 tw_80 tw_370) rfl rfl rfl (by decide +kernel) ⟨Nat.le_of_ble_eq_true rfl, Nat.le_of_ble_eq_true rfl⟩) (pV hS hAlo hlo hP hK (va_Dlo hD hAlo) hZ [3] (by decide) rfl (ci := 6) (q := (RX6, TX6, 6)) (q0 := 0) rfl rfl) rfl rfl hl.1 rfl (lv_room (Nat.le_of_ble_eq_true rfl)) dX3_readFrom_94 ⟨Nat.le_of_ble_eq_true rfl, Nat.le_of_ble_eq_true rfl⟩) hS hA hP (fun r_10 H locs hw_10 hP hS => ?_)
        try dsimp only at hw_10
        rcases hw_10 with ⟨rfl, hw_10⟩ | ⟨rfl, rfl⟩
        · refine lv_if_ne (tgt := 116) hx hb dX3_readFrom_97 (by decide) (fun _ => ?_) (fun h => absurd h (by decide))
          have hP9 := hP.sub (ws' := [(u0, .inr (3, (fX3 u1 u2 r_2 (nI rc2_3) (nI nb_9)))), (aI k u1 24 rs2_3), (aI k u2 24 rb2_3), (x0, .inr (6, (fX6 x1 (nI tz) (nI ta__8) na__8 fn__8 fb__8))), (aB k x1 240 fx)]) [0, 1, 2, 3, 4] rfl
          have hD9 := hD.sub (ws' := [(u0, .inr (3, (fX3 u1 u2 r_2 (nI rc2_3) (nI nb_9)))), (aI k u1 24 rs2_3), (aI k u2 24 rb2_3), (x0, .inr (6, (fX6 x1 (nI tz) (nI ta__8) na__8 fn__8 fb__8))), (aB k x1 240 fx)]) [0, 1, 2, 3, 4] (by decide) rfl
          exact W.vret hx hb hr (fun t ht hW => ⟨⟨(r_2, rc2_3, nb_9, rs2_3, rb2_3, ta__8, na__8, fn__8, fb__8), rfl, ⟨by omega, by omega, by omega⟩, by rw [ht]; exact hP9, hD9⟩, hS.F ht⟩) hS.2.2 dX3_readFrom_116
        · refine lv_if_ne (tgt := 116) hx hb dX3_readFrom_97 (by decide) (fun h => absurd (by decide) h) (fun _ => ?_)
          refine lv_aload_n hx hb dX3_readFrom_100 rfl (lv_at hl 2 rfl) ?_
          refine rw_i (D := D) (wr := [(u0, .inr (3, (fX3 u1 u2 r_2 (nI rc2_3) (nI nb_9)))), (aI k u1 24 rs2_3), (aI k u2 24 rb2_3)]) (va_runV (As := []) (rest := []) ⟨hx, hb, hml, hown, hts⟩ ((x_isAtEnd l D k st lo x0 x1 tz ta__8 na__8 0 fb__8 fx (by omega) (by omega)) H.size) (cwV 0 hts (gV tw_692 tw_372 tw_373 tw_80 tw_374) rfl rfl rfl (by decide +kernel) ⟨Nat.le_of_ble_eq_true rfl, Nat.le_of_ble_eq_true rfl⟩) (pV hS hAlo hlo hP hK (va_Dlo hD hAlo) hZ [3, 4] (by decide) rfl (ci := 6) (q := (RX6, TX6, 6)) (q0 := 0) rfl rfl) rfl rfl hl.1 rfl (lv_room (Nat.le_of_ble_eq_true rfl)) dX3_readFrom_101 ⟨Nat.le_of_ble_eq_true rfl, Nat.le_of_ble_eq_true rfl⟩) hS hA hP hD [3, 4] [0, 1, 2] rfl rfl (by decide) (by decide) (fun r_11 u H locs hw_11 hP hD hS => ?_)
          obtain ⟨ta__11, rfl⟩ : ∃ z, z = u := ⟨_, rfl⟩
          replace hP : va_P D classes [(u0, .inr (3, (fX3 u1 u2 r_2 (nI rc2_3) (nI nb_9)))), (aI k u1 24 rs2_3), (aI k u2 24 rb2_3), (x0, .inr (6, (fX6 x1 (nI tz) (nI ta__11) na__8 0 fb__8))), (aB k x1 240 fx)] H := hP
          replace hD : va_D A [(u0, .inr (3, (fX3 u1 u2 r_2 (nI rc2_3) (nI nb_9)))), (aI k u1 24 rs2_3), (aI k u2 24 rb2_3), (x0, .inr (6, (fX6 x1 (nI tz) (nI ta__11) na__8 0 fb__8))), (aB k x1 240 fx)] := hD
          try dsimp only at hw_11
          rcases hw_11 with ⟨rfl | rfl, hw_11⟩
          · refine lv_if_ne (tgt := 116) hx hb dX3_readFrom_104 (by decide) (fun _ => ?_) (fun h => absurd h (by decide))
            have hP9 := hP.sub (ws' := [(u0, .inr (3, (fX3 u1 u2 r_2 (nI rc2_3) (nI nb_9)))), (aI k u1 24 rs2_3), (aI k u2 24 rb2_3), (x0, .inr (6, (fX6 x1 (nI tz) (nI ta__11) na__8 0 fb__8))), (aB k x1 240 fx)]) [0, 1, 2, 3, 4] rfl
            have hD9 := hD.sub (ws' := [(u0, .inr (3, (fX3 u1 u2 r_2 (nI rc2_3) (nI nb_9)))), (aI k u1 24 rs2_3), (aI k u2 24 rb2_3), (x0, .inr (6, (fX6 x1 (nI tz) (nI ta__11) na__8 0 fb__8))), (aB k x1 240 fx)]) [0, 1, 2, 3, 4] (by decide) rfl
            exact W.vret hx hb hr (fun t ht hW => ⟨⟨(r_2, rc2_3, nb_9, rs2_3, rb2_3, ta__11, na__8, 0, fb__8), rfl, ⟨by omega, by omega, by omega⟩, by rw [ht]; exact hP9, hD9⟩, hS.F ht⟩) hS.2.2 dX3_readFrom_116
          · refine lv_if_ne (tgt := 116) hx hb dX3_readFrom_104 (by decide) (fun h => absurd (by decide) h) (fun _ => ?_)
            refine lv_aload_n hx hb dX3_readFrom_107 rfl (lv_at hl 2 rfl) ?_
            refine lv_iconst (v := 1) hx hb dX3_readFrom_108 (by decide) ?_
            refine lv_aload_n hx hb dX3_readFrom_109 rfl (lv_at hl 2 rfl) ?_
            refine va_get (D := D) (ci := 6) (v := .int (nI ta__11)) (C := RX6) (T := TX6) (N := 6) hx hb hts inX6 hown hK hP 3 rfl rfl 2 (by decide) (hts _ tw_114) (fun _ h9 => h9) rfl dX3_readFrom_110 ?_
            refine rw_v (D := D) (wr := [(u0, .inr (3, (fX3 u1 u2 r_2 (nI rc2_3) (nI nb_9)))), (aI k u1 24 rs2_3), (aI k u2 24 rb2_3), (aB k x1 240 fx)]) (va_runV (As := [.int 1, .int (nI ta__11)]) (rest := []) ⟨hx, hb, hml, hown, hts⟩ ((x_fail l D k st lo x0 x1 tz ta__11 na__8 0 fb__8 1 (nI ta__11) (by decide)) H.size) (cwV 2 hts (gV tw_689 tw_456 tw_457 tw_80 tw_458) rfl rfl rfl (by decide +kernel) ⟨Nat.le_of_ble_eq_true rfl, Nat.le_of_ble_eq_true rfl⟩) (pV hS hAlo hlo hP hK (va_Dlo hD hAlo) hZ [3] (by decide) rfl (ci := 6) (q := (RX6, TX6, 6)) (q0 := 0) rfl rfl) rfl rfl hl.1 rfl (lv_room (Nat.le_of_ble_eq_true rfl)) dX3_readFrom_113 ⟨Nat.le_of_ble_eq_true rfl, Nat.le_of_ble_eq_true rfl⟩) hS hA hP hD [3] [0, 1, 2, 4] rfl rfl (by decide) (by decide) (fun u H locs hw_12 hP hD hS => ?_)
            obtain ⟨fn__12, fb__12⟩ := u
            replace hP : va_P D classes [(u0, .inr (3, (fX3 u1 u2 r_2 (nI rc2_3) (nI nb_9)))), (aI k u1 24 rs2_3), (aI k u2 24 rb2_3), (aB k x1 240 fx), (x0, .inr (6, (fX6 x1 (nI tz) (nI ta__11) na__8 fn__12 fb__12)))] H := hP
            replace hD : va_D A [(u0, .inr (3, (fX3 u1 u2 r_2 (nI rc2_3) (nI nb_9)))), (aI k u1 24 rs2_3), (aI k u2 24 rb2_3), (aB k x1 240 fx), (x0, .inr (6, (fX6 x1 (nI tz) (nI ta__11) na__8 fn__12 fb__12)))] := hD
            try dsimp only at hw_12
            have hP9 := hP.sub (ws' := [(u0, .inr (3, (fX3 u1 u2 r_2 (nI rc2_3) (nI nb_9)))), (aI k u1 24 rs2_3), (aI k u2 24 rb2_3), (x0, .inr (6, (fX6 x1 (nI tz) (nI ta__11) na__8 fn__12 fb__12))), (aB k x1 240 fx)]) [0, 1, 2, 4, 3] rfl
            have hD9 := hD.sub (ws' := [(u0, .inr (3, (fX3 u1 u2 r_2 (nI rc2_3) (nI nb_9)))), (aI k u1 24 rs2_3), (aI k u2 24 rb2_3), (x0, .inr (6, (fX6 x1 (nI tz) (nI ta__11) na__8 fn__12 fb__12))), (aB k x1 240 fx)]) [0, 1, 2, 4, 3] (by decide) rfl
            exact W.vret hx hb hr (fun t ht hW => ⟨⟨(r_2, rc2_3, nb_9, rs2_3, rb2_3, ta__11, na__8, fn__12, fb__12), rfl, ⟨by omega, by omega, by omega⟩, by rw [ht]; exact hP9, hD9⟩, hS.F ht⟩) hS.2.2 dX3_readFrom_116
      · refine lv_if_eq (tgt := 93) hx hb dX3_readFrom_75 (by decide) (fun _ => ?_) (fun h => absurd (by decide) h)
        refine lv_aload_n hx hb dX3_readFrom_93 rfl (lv_at hl 2 rfl) ?_
        refine ro_i (D := D) (va_runV (As := []) (rest := []) ⟨hx, hb, hml, hown, hts⟩ ((x_failed l D k st lo x0 x1 tz ta__7 na2_3 0 fb2_3) H.size) (cwV 0 hts (gV tw_682 tw_368 tw_369 tw_80 tw_370) rfl rfl rfl (by decide +kernel) ⟨Nat.le_of_ble_eq_true rfl, Nat.le_of_ble_eq_true rfl⟩) (pV hS hAlo hlo hP hK (va_Dlo hD hAlo) hZ [3] (by decide) rfl (ci := 6) (q := (RX6, TX6, 6)) (q0 := 0) rfl rfl) rfl rfl hl.1 rfl (lv_room (Nat.le_of_ble_eq_true rfl)) dX3_readFrom_94 ⟨Nat.le_of_ble_eq_true rfl, Nat.le_of_ble_eq_true rfl⟩) hS hA hP (fun r_13 H locs hw_13 hP hS => ?_)
        try dsimp only at hw_13
        obtain rfl : r_13 = 0 := by rcases hw_13 with ⟨h, h2⟩ | ⟨h, h2⟩ <;> first | exact h | exact absurd rfl h2 | exact absurd h2 (by decide)
        refine lv_if_ne (tgt := 116) hx hb dX3_readFrom_97 (by decide) (fun h => absurd (by decide) h) (fun _ => ?_)
        refine lv_aload_n hx hb dX3_readFrom_100 rfl (lv_at hl 2 rfl) ?_
        refine rw_i (D := D) (wr := [(u0, .inr (3, (fX3 u1 u2 r_2 (nI rc2_3) 0))), (aI k u1 24 rs2_3), (aI k u2 24 rb2_3)]) (va_runV (As := []) (rest := []) ⟨hx, hb, hml, hown, hts⟩ ((x_isAtEnd l D k st lo x0 x1 tz ta__7 na2_3 0 fb2_3 fx (by omega) (by omega)) H.size) (cwV 0 hts (gV tw_692 tw_372 tw_373 tw_80 tw_374) rfl rfl rfl (by decide +kernel) ⟨Nat.le_of_ble_eq_true rfl, Nat.le_of_ble_eq_true rfl⟩) (pV hS hAlo hlo hP hK (va_Dlo hD hAlo) hZ [3, 4] (by decide) rfl (ci := 6) (q := (RX6, TX6, 6)) (q0 := 0) rfl rfl) rfl rfl hl.1 rfl (lv_room (Nat.le_of_ble_eq_true rfl)) dX3_readFrom_101 ⟨Nat.le_of_ble_eq_true rfl, Nat.le_of_ble_eq_true rfl⟩) hS hA hP hD [3, 4] [0, 1, 2] rfl rfl (by decide) (by decide) (fun r_14 u H locs hw_14 hP hD hS => ?_)
        obtain ⟨ta__14, rfl⟩ : ∃ z, z = u := ⟨_, rfl⟩
        replace hP : va_P D classes [(u0, .inr (3, (fX3 u1 u2 r_2 (nI rc2_3) 0))), (aI k u1 24 rs2_3), (aI k u2 24 rb2_3), (x0, .inr (6, (fX6 x1 (nI tz) (nI ta__14) na2_3 0 fb2_3))), (aB k x1 240 fx)] H := hP
        replace hD : va_D A [(u0, .inr (3, (fX3 u1 u2 r_2 (nI rc2_3) 0))), (aI k u1 24 rs2_3), (aI k u2 24 rb2_3), (x0, .inr (6, (fX6 x1 (nI tz) (nI ta__14) na2_3 0 fb2_3))), (aB k x1 240 fx)] := hD
        try dsimp only at hw_14
        rcases hw_14 with ⟨rfl | rfl, hw_14⟩
        · refine lv_if_ne (tgt := 116) hx hb dX3_readFrom_104 (by decide) (fun _ => ?_) (fun h => absurd h (by decide))
          have hP9 := hP.sub (ws' := [(u0, .inr (3, (fX3 u1 u2 r_2 (nI rc2_3) 0))), (aI k u1 24 rs2_3), (aI k u2 24 rb2_3), (x0, .inr (6, (fX6 x1 (nI tz) (nI ta__14) na2_3 0 fb2_3))), (aB k x1 240 fx)]) [0, 1, 2, 3, 4] rfl
          have hD9 := hD.sub (ws' := [(u0, .inr (3, (fX3 u1 u2 r_2 (nI rc2_3) 0))), (aI k u1 24 rs2_3), (aI k u2 24 rb2_3), (x0, .inr (6, (fX6 x1 (nI tz) (nI ta__14) na2_3 0 fb2_3))), (aB k x1 240 fx)]) [0, 1, 2, 3, 4] (by decide) rfl
          exact W.vret hx hb hr (fun t ht hW => ⟨⟨(r_2, rc2_3, 0, rs2_3, rb2_3, ta__14, na2_3, 0, fb2_3), rfl, ⟨by omega, by omega, by omega⟩, by rw [ht]; exact hP9, hD9⟩, hS.F ht⟩) hS.2.2 dX3_readFrom_116
        · refine lv_if_ne (tgt := 116) hx hb dX3_readFrom_104 (by decide) (fun h => absurd (by decide) h) (fun _ => ?_)
          refine lv_aload_n hx hb dX3_readFrom_107 rfl (lv_at hl 2 rfl) ?_
          refine lv_iconst (v := 1) hx hb dX3_readFrom_108 (by decide) ?_
          refine lv_aload_n hx hb dX3_readFrom_109 rfl (lv_at hl 2 rfl) ?_
          refine va_get (D := D) (ci := 6) (v := .int (nI ta__14)) (C := RX6) (T := TX6) (N := 6) hx hb hts inX6 hown hK hP 3 rfl rfl 2 (by decide) (hts _ tw_114) (fun _ h9 => h9) rfl dX3_readFrom_110 ?_
          refine rw_v (D := D) (wr := [(u0, .inr (3, (fX3 u1 u2 r_2 (nI rc2_3) 0))), (aI k u1 24 rs2_3), (aI k u2 24 rb2_3), (aB k x1 240 fx)]) (va_runV (As := [.int 1, .int (nI ta__14)]) (rest := []) ⟨hx, hb, hml, hown, hts⟩ ((x_fail l D k st lo x0 x1 tz ta__14 na2_3 0 fb2_3 1 (nI ta__14) (by decide)) H.size) (cwV 2 hts (gV tw_689 tw_456 tw_457 tw_80 tw_458) rfl rfl rfl (by decide +kernel) ⟨Nat.le_of_ble_eq_true rfl, Nat.le_of_ble_eq_true rfl⟩) (pV hS hAlo hlo hP hK (va_Dlo hD hAlo) hZ [3] (by decide) rfl (ci := 6) (q := (RX6, TX6, 6)) (q0 := 0) rfl rfl) rfl rfl hl.1 rfl (lv_room (Nat.le_of_ble_eq_true rfl)) dX3_readFrom_113 ⟨Nat.le_of_ble_eq_true rfl, Nat.le_of_ble_eq_true rfl⟩) hS hA hP hD [3] [0, 1, 2, 4] rfl rfl (by decide) (by decide) (fun u H locs hw_15 hP hD hS => ?_)
          obtain ⟨fn__15, fb__15⟩ := u
          replace hP : va_P D classes [(u0, .inr (3, (fX3 u1 u2 r_2 (nI rc2_3) 0))), (aI k u1 24 rs2_3), (aI k u2 24 rb2_3), (aB k x1 240 fx), (x0, .inr (6, (fX6 x1 (nI tz) (nI ta__14) na2_3 fn__15 fb__15)))] H := hP
          replace hD : va_D A [(u0, .inr (3, (fX3 u1 u2 r_2 (nI rc2_3) 0))), (aI k u1 24 rs2_3), (aI k u2 24 rb2_3), (aB k x1 240 fx), (x0, .inr (6, (fX6 x1 (nI tz) (nI ta__14) na2_3 fn__15 fb__15)))] := hD
          try dsimp only at hw_15
          have hP9 := hP.sub (ws' := [(u0, .inr (3, (fX3 u1 u2 r_2 (nI rc2_3) 0))), (aI k u1 24 rs2_3), (aI k u2 24 rb2_3), (x0, .inr (6, (fX6 x1 (nI tz) (nI ta__14) na2_3 fn__15 fb__15))), (aB k x1 240 fx)]) [0, 1, 2, 4, 3] rfl
          have hD9 := hD.sub (ws' := [(u0, .inr (3, (fX3 u1 u2 r_2 (nI rc2_3) 0))), (aI k u1 24 rs2_3), (aI k u2 24 rb2_3), (x0, .inr (6, (fX6 x1 (nI tz) (nI ta__14) na2_3 fn__15 fb__15))), (aB k x1 240 fx)]) [0, 1, 2, 4, 3] (by decide) rfl
          exact W.vret hx hb hr (fun t ht hW => ⟨⟨(r_2, rc2_3, 0, rs2_3, rb2_3, ta__14, na2_3, fn__15, fb__15), rfl, ⟨by omega, by omega, by omega⟩, by rw [ht]; exact hP9, hD9⟩, hS.F ht⟩) hS.2.2 dX3_readFrom_116
  · have c_4 : ¬ (24 ≤ kk_3) := fun h => c_4 ((nI_leI (a := 24) (b := kk_3) (by omega) (by omega)).mpr h)
    refine lv_aload_n hx hb dX3_readFrom_35 rfl (lv_at hl 2 rfl) ?_
    refine ro_i (D := D) (va_runV (As := []) (rest := []) ⟨hx, hb, hml, hown, hts⟩ ((x_failed l D k st lo x0 x1 tz ta2_3 na2_3 fn2_3 fb2_3) H.size) (cwV 0 hts (gV tw_682 tw_368 tw_369 tw_80 tw_370) rfl rfl rfl (by decide +kernel) ⟨Nat.le_of_ble_eq_true rfl, Nat.le_of_ble_eq_true rfl⟩) (pV hS hAlo hlo hP hK (va_Dlo hD hAlo) hZ [3] (by decide) rfl (ci := 6) (q := (RX6, TX6, 6)) (q0 := 0) rfl rfl) rfl rfl hl.1 rfl (lv_room (Nat.le_of_ble_eq_true rfl)) dX3_readFrom_36 ⟨Nat.le_of_ble_eq_true rfl, Nat.le_of_ble_eq_true rfl⟩) hS hA hP (fun r_16 H locs hw_16 hP hS => ?_)
    try dsimp only at hw_16
    rcases hw_16 with ⟨rfl, hw_16⟩ | ⟨rfl, rfl⟩
    · refine lv_if_ne (tgt := 62) hx hb dX3_readFrom_39 (by decide) (fun _ => ?_) (fun h => absurd h (by decide))
      refine lv_aload_n hx hb dX3_readFrom_62 rfl (lv_at hl 2 rfl) ?_
      refine ro_i (D := D) (va_runV (As := []) (rest := []) ⟨hx, hb, hml, hown, hts⟩ ((x_failed l D k st lo x0 x1 tz ta2_3 na2_3 fn2_3 fb2_3) H.size) (cwV 0 hts (gV tw_682 tw_368 tw_369 tw_80 tw_370) rfl rfl rfl (by decide +kernel) ⟨Nat.le_of_ble_eq_true rfl, Nat.le_of_ble_eq_true rfl⟩) (pV hS hAlo hlo hP hK (va_Dlo hD hAlo) hZ [3] (by decide) rfl (ci := 6) (q := (RX6, TX6, 6)) (q0 := 0) rfl rfl) rfl rfl hl.1 rfl (lv_room (Nat.le_of_ble_eq_true rfl)) dX3_readFrom_63 ⟨Nat.le_of_ble_eq_true rfl, Nat.le_of_ble_eq_true rfl⟩) hS hA hP (fun r_17 H locs hw_17 hP hS => ?_)
      try dsimp only at hw_17
      obtain rfl : r_17 = 1 := by rcases hw_17 with ⟨h, h2⟩ | ⟨h, h2⟩ <;> first | exact h | exact absurd h2 hw_16
      refine lv_if_ne (tgt := 93) hx hb dX3_readFrom_66 (by decide) (fun _ => ?_) (fun h => absurd h (by decide))
      refine lv_aload_n hx hb dX3_readFrom_93 rfl (lv_at hl 2 rfl) ?_
      refine ro_i (D := D) (va_runV (As := []) (rest := []) ⟨hx, hb, hml, hown, hts⟩ ((x_failed l D k st lo x0 x1 tz ta2_3 na2_3 fn2_3 fb2_3) H.size) (cwV 0 hts (gV tw_682 tw_368 tw_369 tw_80 tw_370) rfl rfl rfl (by decide +kernel) ⟨Nat.le_of_ble_eq_true rfl, Nat.le_of_ble_eq_true rfl⟩) (pV hS hAlo hlo hP hK (va_Dlo hD hAlo) hZ [3] (by decide) rfl (ci := 6) (q := (RX6, TX6, 6)) (q0 := 0) rfl rfl) rfl rfl hl.1 rfl (lv_room (Nat.le_of_ble_eq_true rfl)) dX3_readFrom_94 ⟨Nat.le_of_ble_eq_true rfl, Nat.le_of_ble_eq_true rfl⟩) hS hA hP (fun r_18 H locs hw_18 hP hS => ?_)
      try dsimp only at hw_18
      obtain rfl : r_18 = 1 := by rcases hw_18 with ⟨h, h2⟩ | ⟨h, h2⟩ <;> first | exact h | exact absurd h2 hw_16
      refine lv_if_ne (tgt := 116) hx hb dX3_readFrom_97 (by decide) (fun _ => ?_) (fun h => absurd h (by decide))
      have hP9 := hP.sub (ws' := [(u0, .inr (3, (fX3 u1 u2 r_2 (nI rc2_3) 0))), (aI k u1 24 rs2_3), (aI k u2 24 rb2_3), (x0, .inr (6, (fX6 x1 (nI tz) (nI ta2_3) na2_3 fn2_3 fb2_3))), (aB k x1 240 fx)]) [0, 1, 2, 3, 4] rfl
      have hD9 := hD.sub (ws' := [(u0, .inr (3, (fX3 u1 u2 r_2 (nI rc2_3) 0))), (aI k u1 24 rs2_3), (aI k u2 24 rb2_3), (x0, .inr (6, (fX6 x1 (nI tz) (nI ta2_3) na2_3 fn2_3 fb2_3))), (aB k x1 240 fx)]) [0, 1, 2, 3, 4] (by decide) rfl
      exact W.vret hx hb hr (fun t ht hW => ⟨⟨(r_2, rc2_3, 0, rs2_3, rb2_3, ta2_3, na2_3, fn2_3, fb2_3), rfl, ⟨by omega, by omega, by omega⟩, by rw [ht]; exact hP9, hD9⟩, hS.F ht⟩) hS.2.2 dX3_readFrom_116
    · refine lv_if_ne (tgt := 62) hx hb dX3_readFrom_39 (by decide) (fun h => absurd (by decide) h) (fun _ => ?_)
      refine lv_aload_n hx hb dX3_readFrom_42 rfl (lv_at hl 2 rfl) ?_
      refine va_ldcS hx hb hown (hZ.2.2.2.2.2.2.2.2.2.2 (RX3, 43, "seen", 13) (List.mem_of_getElem? (i := 13) rfl)) dX3_readFrom_43 ?_
      refine rw_i (D := D) (wr := [(u0, .inr (3, (fX3 u1 u2 r_2 (nI rc2_3) 0))), (aI k u1 24 rs2_3), (aI k u2 24 rb2_3)]) (va_runV (As := [.ref (st (100 + 13))]) (rest := []) ⟨hx, hb, hml, hown, hts⟩ ((x_takeWord l D k st lo x0 x1 tz ta2_3 na2_3 0 fb2_3 fx 13 (by omega) (by omega) (by omega)) H.size) (cwV 1 hts (gV tw_684 tw_400 tw_401 tw_80 tw_402) rfl rfl rfl (by decide +kernel) ⟨Nat.le_of_ble_eq_true rfl, Nat.le_of_ble_eq_true rfl⟩) (pV hS hAlo hlo hP hK (va_Dlo hD hAlo) hZ [3, 4] (by decide) rfl (ci := 6) (q := (RX6, TX6, 6)) (q0 := 0) rfl rfl) rfl rfl hl.1 rfl (lv_room (Nat.le_of_ble_eq_true rfl)) dX3_readFrom_45 ⟨Nat.le_of_ble_eq_true rfl, Nat.le_of_ble_eq_true rfl⟩) hS hA hP hD [3, 4] [0, 1, 2] rfl rfl (by decide) (by decide) (fun r_19 u H locs hw_19 hP hD hS => ?_)
      obtain ⟨ta__19, rfl⟩ : ∃ z, z = u := ⟨_, rfl⟩
      replace hP : va_P D classes [(u0, .inr (3, (fX3 u1 u2 r_2 (nI rc2_3) 0))), (aI k u1 24 rs2_3), (aI k u2 24 rb2_3), (x0, .inr (6, (fX6 x1 (nI tz) (nI ta__19) na2_3 0 fb2_3))), (aB k x1 240 fx)] H := hP
      replace hD : va_D A [(u0, .inr (3, (fX3 u1 u2 r_2 (nI rc2_3) 0))), (aI k u1 24 rs2_3), (aI k u2 24 rb2_3), (x0, .inr (6, (fX6 x1 (nI tz) (nI ta__19) na2_3 0 fb2_3))), (aB k x1 240 fx)] := hD
      try dsimp only at hw_19
      rcases hw_19 with ⟨rfl | rfl, hw_19⟩
      · refine lv_if_eq (tgt := 62) hx hb dX3_readFrom_48 (by decide) (fun h => absurd h (by decide)) (fun _ => ?_)
        refine lv_aload_n hx hb dX3_readFrom_51 rfl (lv_at hl 1 rfl) ?_
        refine lv_aload_n hx hb dX3_readFrom_52 rfl (lv_at hl 2 rfl) ?_
        refine rw_v (D := D) (wr := []) (va_runV (As := [.ref x0]) (rest := []) ⟨hx, hb, hml, hown, hts⟩ ((x_readChange l D k st lo u0 u1 u2 r_2 rc2_3 0 rs2_3 rb2_3 x0 x1 tz ta__19 na2_3 0 fb2_3 fx (by omega) (by omega) (by omega)) H.size) (cwV 1 hts (gV tw_685 tw_687 tw_14 tw_86 tw_688) rfl rfl rfl (by decide +kernel) ⟨Nat.le_of_ble_eq_true rfl, Nat.le_of_ble_eq_true rfl⟩) (pV hS hAlo hlo hP hK (va_Dlo hD hAlo) hZ [0, 1, 2, 3, 4] (by decide) rfl (ci := 3) (q := (RX3, TX3, 5)) (q0 := 0) rfl rfl) rfl rfl hl.1 rfl (lv_room (Nat.le_of_ble_eq_true rfl)) dX3_readFrom_53 ⟨Nat.le_of_ble_eq_true rfl, Nat.le_of_ble_eq_true rfl⟩) hS hA hP hD [0, 1, 2, 3, 4] [] rfl rfl (by decide) (by decide) (fun u H locs hw_20 hP hD hS => ?_)
        obtain ⟨rc__20, rs__20, rb__20, ta__20, na__20, fn__20, fb__20⟩ := u
        replace hP : va_P D classes [(u0, .inr (3, (fX3 u1 u2 r_2 (nI rc__20) 0))), (aI k u1 24 rs__20), (aI k u2 24 rb__20), (x0, .inr (6, (fX6 x1 (nI tz) (nI ta__20) na__20 fn__20 fb__20))), (aB k x1 240 fx)] H := hP
        replace hD : va_D A [(u0, .inr (3, (fX3 u1 u2 r_2 (nI rc__20) 0))), (aI k u1 24 rs__20), (aI k u2 24 rb__20), (x0, .inr (6, (fX6 x1 (nI tz) (nI ta__20) na__20 fn__20 fb__20))), (aB k x1 240 fx)] := hD
        try dsimp only at hw_20
        refine lv_iinc (v := (nI (kk_3 + 1))) (lv' := [(2, .int (nI (kk_3 + 1))), (0, .ref u0), (1, .ref x0)]) hx hb dX3_readFrom_56 hl (k := 0) rfl (nI_add kk_3 1) (by decide) rfl (fun ls hl => ?_)
        refine lv_goto (tgt := 29) hx hb dX3_readFrom_59 (by decide) ?_
        exact ih_3 _ (kk_3 + 1, rc__20, rs__20, rb__20, ta__20, na__20, fn__20, fb__20) _ _ _ (by omega) ⟨rfl, ⟨by omega, by omega, by omega⟩, hP, hD, hS, (lv_sub hl [0, 1, 2] rfl)⟩
      · refine lv_if_eq (tgt := 62) hx hb dX3_readFrom_48 (by decide) (fun _ => ?_) (fun h => absurd (by decide) h)
        refine lv_aload_n hx hb dX3_readFrom_62 rfl (lv_at hl 2 rfl) ?_
        refine ro_i (D := D) (va_runV (As := []) (rest := []) ⟨hx, hb, hml, hown, hts⟩ ((x_failed l D k st lo x0 x1 tz ta__19 na2_3 0 fb2_3) H.size) (cwV 0 hts (gV tw_682 tw_368 tw_369 tw_80 tw_370) rfl rfl rfl (by decide +kernel) ⟨Nat.le_of_ble_eq_true rfl, Nat.le_of_ble_eq_true rfl⟩) (pV hS hAlo hlo hP hK (va_Dlo hD hAlo) hZ [3] (by decide) rfl (ci := 6) (q := (RX6, TX6, 6)) (q0 := 0) rfl rfl) rfl rfl hl.1 rfl (lv_room (Nat.le_of_ble_eq_true rfl)) dX3_readFrom_63 ⟨Nat.le_of_ble_eq_true rfl, Nat.le_of_ble_eq_true rfl⟩) hS hA hP (fun r_21 H locs hw_21 hP hS => ?_)
        try dsimp only at hw_21
        obtain rfl : r_21 = 0 := by rcases hw_21 with ⟨h, h2⟩ | ⟨h, h2⟩ <;> first | exact h | exact absurd rfl h2 | exact absurd h2 (by decide)
        refine lv_if_ne (tgt := 93) hx hb dX3_readFrom_66 (by decide) (fun h => absurd (by decide) h) (fun _ => ?_)
        refine lv_aload_n hx hb dX3_readFrom_69 rfl (lv_at hl 2 rfl) ?_
        refine va_ldcS hx hb hown (hZ.2.2.2.2.2.2.2.2.2.2 (RX3, 52, "round", 7) (List.mem_of_getElem? (i := 14) rfl)) dX3_readFrom_70 ?_
        refine rw_i (D := D) (wr := [(u0, .inr (3, (fX3 u1 u2 r_2 (nI rc2_3) 0))), (aI k u1 24 rs2_3), (aI k u2 24 rb2_3)]) (va_runV (As := [.ref (st (100 + 7))]) (rest := []) ⟨hx, hb, hml, hown, hts⟩ ((x_takeWord l D k st lo x0 x1 tz ta__19 na2_3 0 fb2_3 fx 7 (by omega) (by omega) (by omega)) H.size) (cwV 1 hts (gV tw_684 tw_400 tw_401 tw_80 tw_402) rfl rfl rfl (by decide +kernel) ⟨Nat.le_of_ble_eq_true rfl, Nat.le_of_ble_eq_true rfl⟩) (pV hS hAlo hlo hP hK (va_Dlo hD hAlo) hZ [3, 4] (by decide) rfl (ci := 6) (q := (RX6, TX6, 6)) (q0 := 0) rfl rfl) rfl rfl hl.1 rfl (lv_room (Nat.le_of_ble_eq_true rfl)) dX3_readFrom_72 ⟨Nat.le_of_ble_eq_true rfl, Nat.le_of_ble_eq_true rfl⟩) hS hA hP hD [3, 4] [0, 1, 2] rfl rfl (by decide) (by decide) (fun r_22 u H locs hw_22 hP hD hS => ?_)
        obtain ⟨ta__22, rfl⟩ : ∃ z, z = u := ⟨_, rfl⟩
        replace hP : va_P D classes [(u0, .inr (3, (fX3 u1 u2 r_2 (nI rc2_3) 0))), (aI k u1 24 rs2_3), (aI k u2 24 rb2_3), (x0, .inr (6, (fX6 x1 (nI tz) (nI ta__22) na2_3 0 fb2_3))), (aB k x1 240 fx)] H := hP
        replace hD : va_D A [(u0, .inr (3, (fX3 u1 u2 r_2 (nI rc2_3) 0))), (aI k u1 24 rs2_3), (aI k u2 24 rb2_3), (x0, .inr (6, (fX6 x1 (nI tz) (nI ta__22) na2_3 0 fb2_3))), (aB k x1 240 fx)] := hD
        try dsimp only at hw_22
        rcases hw_22 with ⟨rfl | rfl, hw_22⟩
        · refine lv_if_eq (tgt := 93) hx hb dX3_readFrom_75 (by decide) (fun h => absurd h (by decide)) (fun _ => ?_)
          refine lv_aload_n hx hb dX3_readFrom_78 rfl (lv_at hl 1 rfl) ?_
          refine lv_aload_n hx hb dX3_readFrom_79 rfl (lv_at hl 2 rfl) ?_
          refine lv_iconst (v := 0) hx hb dX3_readFrom_80 (by decide) ?_
          refine va_getsN (A := A) hx hb (hZ.2.2.1.narrow hAlo) hS hown ((hZ.2.2.2.2.2.2.2.2.1.2.1 (RX3, 54, "LastPlace", "MOST", "[I", RX7) (List.mem_of_getElem? (i := 3) rfl)).use rfl) (fun _ h9 => h9) dX3_readFrom_81 ?_
          refine lv_bipush (v := 8) hx hb dX3_readFrom_84 (by decide) ?_
          refine va_ti (A := A) hx hb (hZ.2.2.2.1.narrow hAlo) hS (i := 8) (by unfold vp_in; decide) (v := .int 3) rfl dX3_readFrom_86 ?_
          refine rw_i (D := D) (wr := [(u0, .inr (3, (fX3 u1 u2 r_2 (nI rc2_3) 0))), (aI k u1 24 rs2_3), (aI k u2 24 rb2_3)]) (va_runV (As := [.int 0, .int 3]) (rest := [.ref u0]) ⟨hx, hb, hml, hown, hts⟩ ((x_needNumber l D k st lo x0 x1 tz ta__22 na2_3 0 fb2_3 fx 0 3 (by omega) (by omega) (by decide)) H.size) (cwV 2 hts (gV tw_681 tw_468 tw_469 tw_80 tw_470) rfl rfl rfl (by decide +kernel) ⟨Nat.le_of_ble_eq_true rfl, Nat.le_of_ble_eq_true rfl⟩) (pV hS hAlo hlo hP hK (va_Dlo hD hAlo) hZ [3, 4] (by decide) rfl (ci := 6) (q := (RX6, TX6, 6)) (q0 := 0) rfl rfl) rfl rfl hl.1 rfl (lv_room (Nat.le_of_ble_eq_true rfl)) dX3_readFrom_87 ⟨Nat.le_of_ble_eq_true rfl, Nat.le_of_ble_eq_true rfl⟩) hS hA hP hD [3, 4] [0, 1, 2] rfl rfl (by decide) (by decide) (fun r_23 u H locs hw_23 hP hD hS => ?_)
          obtain ⟨ta__23, na__23, fn__23, fb__23⟩ := u
          replace hP : va_P D classes [(u0, .inr (3, (fX3 u1 u2 r_2 (nI rc2_3) 0))), (aI k u1 24 rs2_3), (aI k u2 24 rb2_3), (x0, .inr (6, (fX6 x1 (nI tz) (nI ta__23) na__23 fn__23 fb__23))), (aB k x1 240 fx)] H := hP
          replace hD : va_D A [(u0, .inr (3, (fX3 u1 u2 r_2 (nI rc2_3) 0))), (aI k u1 24 rs2_3), (aI k u2 24 rb2_3), (x0, .inr (6, (fX6 x1 (nI tz) (nI ta__23) na__23 fn__23 fb__23))), (aB k x1 240 fx)] := hD
          try dsimp only at hw_23
          obtain ⟨nb_24, hnl_24, hnh_24, rfl⟩ := inB_ofc (a := 0) (b := 3) (by omega) (by omega) hw_23.2.2.1
          refine va_put (D := D) (ci := 3) (v := .int (nI nb_24)) (ty := .int) (C := RX3) (T := TX3) (N := 5) hx hb hts inX3 tyX3 tyX3_ok nmX3 hown hK hP hD hS 0 rfl rfl 4 (by decide) (hts _ tw_293) (fun _ h9 => h9) rfl (by decide +kernel) rfl rfl (Nat.le_of_ble_eq_true rfl) dX3_readFrom_90 (fun H locs hP hD hS => ?_)
          replace hP : va_P D classes [(u0, .inr (3, (fX3 u1 u2 r_2 (nI rc2_3) (nI nb_24)))), (aI k u1 24 rs2_3), (aI k u2 24 rb2_3), (x0, .inr (6, (fX6 x1 (nI tz) (nI ta__23) na__23 fn__23 fb__23))), (aB k x1 240 fx)] H := hP
          replace hD : va_D A [(u0, .inr (3, (fX3 u1 u2 r_2 (nI rc2_3) (nI nb_24)))), (aI k u1 24 rs2_3), (aI k u2 24 rb2_3), (x0, .inr (6, (fX6 x1 (nI tz) (nI ta__23) na__23 fn__23 fb__23))), (aB k x1 240 fx)] := hD
          refine lv_aload_n hx hb dX3_readFrom_93 rfl (lv_at hl 2 rfl) ?_
          refine ro_i (D := D) (va_runV (As := []) (rest := []) ⟨hx, hb, hml, hown, hts⟩ ((x_failed l D k st lo x0 x1 tz ta__23 na__23 fn__23 fb__23) H.size) (cwV 0 hts (gV tw_682 tw_368 tw_369 tw_80 tw_370) rfl rfl rfl (by decide +kernel) ⟨Nat.le_of_ble_eq_true rfl, Nat.le_of_ble_eq_true rfl⟩) (pV hS hAlo hlo hP hK (va_Dlo hD hAlo) hZ [3] (by decide) rfl (ci := 6) (q := (RX6, TX6, 6)) (q0 := 0) rfl rfl) rfl rfl hl.1 rfl (lv_room (Nat.le_of_ble_eq_true rfl)) dX3_readFrom_94 ⟨Nat.le_of_ble_eq_true rfl, Nat.le_of_ble_eq_true rfl⟩) hS hA hP (fun r_25 H locs hw_25 hP hS => ?_)
          try dsimp only at hw_25
          rcases hw_25 with ⟨rfl, hw_25⟩ | ⟨rfl, rfl⟩
          · refine lv_if_ne (tgt := 116) hx hb dX3_readFrom_97 (by decide) (fun _ => ?_) (fun h => absurd h (by decide))
            have hP9 := hP.sub (ws' := [(u0, .inr (3, (fX3 u1 u2 r_2 (nI rc2_3) (nI nb_24)))), (aI k u1 24 rs2_3), (aI k u2 24 rb2_3), (x0, .inr (6, (fX6 x1 (nI tz) (nI ta__23) na__23 fn__23 fb__23))), (aB k x1 240 fx)]) [0, 1, 2, 3, 4] rfl
            have hD9 := hD.sub (ws' := [(u0, .inr (3, (fX3 u1 u2 r_2 (nI rc2_3) (nI nb_24)))), (aI k u1 24 rs2_3), (aI k u2 24 rb2_3), (x0, .inr (6, (fX6 x1 (nI tz) (nI ta__23) na__23 fn__23 fb__23))), (aB k x1 240 fx)]) [0, 1, 2, 3, 4] (by decide) rfl
            exact W.vret hx hb hr (fun t ht hW => ⟨⟨(r_2, rc2_3, nb_24, rs2_3, rb2_3, ta__23, na__23, fn__23, fb__23), rfl, ⟨by omega, by omega, by omega⟩, by rw [ht]; exact hP9, hD9⟩, hS.F ht⟩) hS.2.2 dX3_readFrom_116
          · refine lv_if_ne (tgt := 116) hx hb dX3_readFrom_97 (by decide) (fun h => absurd (by decide) h) (fun _ => ?_)
            refine lv_aload_n hx hb dX3_readFrom_100 rfl (lv_at hl 2 rfl) ?_
            refine rw_i (D := D) (wr := [(u0, .inr (3, (fX3 u1 u2 r_2 (nI rc2_3) (nI nb_24)))), (aI k u1 24 rs2_3), (aI k u2 24 rb2_3)]) (va_runV (As := []) (rest := []) ⟨hx, hb, hml, hown, hts⟩ ((x_isAtEnd l D k st lo x0 x1 tz ta__23 na__23 0 fb__23 fx (by omega) (by omega)) H.size) (cwV 0 hts (gV tw_692 tw_372 tw_373 tw_80 tw_374) rfl rfl rfl (by decide +kernel) ⟨Nat.le_of_ble_eq_true rfl, Nat.le_of_ble_eq_true rfl⟩) (pV hS hAlo hlo hP hK (va_Dlo hD hAlo) hZ [3, 4] (by decide) rfl (ci := 6) (q := (RX6, TX6, 6)) (q0 := 0) rfl rfl) rfl rfl hl.1 rfl (lv_room (Nat.le_of_ble_eq_true rfl)) dX3_readFrom_101 ⟨Nat.le_of_ble_eq_true rfl, Nat.le_of_ble_eq_true rfl⟩) hS hA hP hD [3, 4] [0, 1, 2] rfl rfl (by decide) (by decide) (fun r_26 u H locs hw_26 hP hD hS => ?_)
            obtain ⟨ta__26, rfl⟩ : ∃ z, z = u := ⟨_, rfl⟩
            replace hP : va_P D classes [(u0, .inr (3, (fX3 u1 u2 r_2 (nI rc2_3) (nI nb_24)))), (aI k u1 24 rs2_3), (aI k u2 24 rb2_3), (x0, .inr (6, (fX6 x1 (nI tz) (nI ta__26) na__23 0 fb__23))), (aB k x1 240 fx)] H := hP
            replace hD : va_D A [(u0, .inr (3, (fX3 u1 u2 r_2 (nI rc2_3) (nI nb_24)))), (aI k u1 24 rs2_3), (aI k u2 24 rb2_3), (x0, .inr (6, (fX6 x1 (nI tz) (nI ta__26) na__23 0 fb__23))), (aB k x1 240 fx)] := hD
            try dsimp only at hw_26
            rcases hw_26 with ⟨rfl | rfl, hw_26⟩
            · refine lv_if_ne (tgt := 116) hx hb dX3_readFrom_104 (by decide) (fun _ => ?_) (fun h => absurd h (by decide))
              have hP9 := hP.sub (ws' := [(u0, .inr (3, (fX3 u1 u2 r_2 (nI rc2_3) (nI nb_24)))), (aI k u1 24 rs2_3), (aI k u2 24 rb2_3), (x0, .inr (6, (fX6 x1 (nI tz) (nI ta__26) na__23 0 fb__23))), (aB k x1 240 fx)]) [0, 1, 2, 3, 4] rfl
              have hD9 := hD.sub (ws' := [(u0, .inr (3, (fX3 u1 u2 r_2 (nI rc2_3) (nI nb_24)))), (aI k u1 24 rs2_3), (aI k u2 24 rb2_3), (x0, .inr (6, (fX6 x1 (nI tz) (nI ta__26) na__23 0 fb__23))), (aB k x1 240 fx)]) [0, 1, 2, 3, 4] (by decide) rfl
              exact W.vret hx hb hr (fun t ht hW => ⟨⟨(r_2, rc2_3, nb_24, rs2_3, rb2_3, ta__26, na__23, 0, fb__23), rfl, ⟨by omega, by omega, by omega⟩, by rw [ht]; exact hP9, hD9⟩, hS.F ht⟩) hS.2.2 dX3_readFrom_116
            · refine lv_if_ne (tgt := 116) hx hb dX3_readFrom_104 (by decide) (fun h => absurd (by decide) h) (fun _ => ?_)
              refine lv_aload_n hx hb dX3_readFrom_107 rfl (lv_at hl 2 rfl) ?_
              refine lv_iconst (v := 1) hx hb dX3_readFrom_108 (by decide) ?_
              refine lv_aload_n hx hb dX3_readFrom_109 rfl (lv_at hl 2 rfl) ?_
              refine va_get (D := D) (ci := 6) (v := .int (nI ta__26)) (C := RX6) (T := TX6) (N := 6) hx hb hts inX6 hown hK hP 3 rfl rfl 2 (by decide) (hts _ tw_114) (fun _ h9 => h9) rfl dX3_readFrom_110 ?_
              refine rw_v (D := D) (wr := [(u0, .inr (3, (fX3 u1 u2 r_2 (nI rc2_3) (nI nb_24)))), (aI k u1 24 rs2_3), (aI k u2 24 rb2_3), (aB k x1 240 fx)]) (va_runV (As := [.int 1, .int (nI ta__26)]) (rest := []) ⟨hx, hb, hml, hown, hts⟩ ((x_fail l D k st lo x0 x1 tz ta__26 na__23 0 fb__23 1 (nI ta__26) (by decide)) H.size) (cwV 2 hts (gV tw_689 tw_456 tw_457 tw_80 tw_458) rfl rfl rfl (by decide +kernel) ⟨Nat.le_of_ble_eq_true rfl, Nat.le_of_ble_eq_true rfl⟩) (pV hS hAlo hlo hP hK (va_Dlo hD hAlo) hZ [3] (by decide) rfl (ci := 6) (q := (RX6, TX6, 6)) (q0 := 0) rfl rfl) rfl rfl hl.1 rfl (lv_room (Nat.le_of_ble_eq_true rfl)) dX3_readFrom_113 ⟨Nat.le_of_ble_eq_true rfl, Nat.le_of_ble_eq_true rfl⟩) hS hA hP hD [3] [0, 1, 2, 4] rfl rfl (by decide) (by decide) (fun u H locs hw_27 hP hD hS => ?_)
              obtain ⟨fn__27, fb__27⟩ := u
              replace hP : va_P D classes [(u0, .inr (3, (fX3 u1 u2 r_2 (nI rc2_3) (nI nb_24)))), (aI k u1 24 rs2_3), (aI k u2 24 rb2_3), (aB k x1 240 fx), (x0, .inr (6, (fX6 x1 (nI tz) (nI ta__26) na__23 fn__27 fb__27)))] H := hP
              replace hD : va_D A [(u0, .inr (3, (fX3 u1 u2 r_2 (nI rc2_3) (nI nb_24)))), (aI k u1 24 rs2_3), (aI k u2 24 rb2_3), (aB k x1 240 fx), (x0, .inr (6, (fX6 x1 (nI tz) (nI ta__26) na__23 fn__27 fb__27)))] := hD
              try dsimp only at hw_27
              have hP9 := hP.sub (ws' := [(u0, .inr (3, (fX3 u1 u2 r_2 (nI rc2_3) (nI nb_24)))), (aI k u1 24 rs2_3), (aI k u2 24 rb2_3), (x0, .inr (6, (fX6 x1 (nI tz) (nI ta__26) na__23 fn__27 fb__27))), (aB k x1 240 fx)]) [0, 1, 2, 4, 3] rfl
              have hD9 := hD.sub (ws' := [(u0, .inr (3, (fX3 u1 u2 r_2 (nI rc2_3) (nI nb_24)))), (aI k u1 24 rs2_3), (aI k u2 24 rb2_3), (x0, .inr (6, (fX6 x1 (nI tz) (nI ta__26) na__23 fn__27 fb__27))), (aB k x1 240 fx)]) [0, 1, 2, 4, 3] (by decide) rfl
              exact W.vret hx hb hr (fun t ht hW => ⟨⟨(r_2, rc2_3, nb_24, rs2_3, rb2_3, ta__26, na__23, fn__27, fb__27), rfl, ⟨by omega, by omega, by omega⟩, by rw [ht]; exact hP9, hD9⟩, hS.F ht⟩) hS.2.2 dX3_readFrom_116
        · refine lv_if_eq (tgt := 93) hx hb dX3_readFrom_75 (by decide) (fun _ => ?_) (fun h => absurd (by decide) h)
          refine lv_aload_n hx hb dX3_readFrom_93 rfl (lv_at hl 2 rfl) ?_
          refine ro_i (D := D) (va_runV (As := []) (rest := []) ⟨hx, hb, hml, hown, hts⟩ ((x_failed l D k st lo x0 x1 tz ta__22 na2_3 0 fb2_3) H.size) (cwV 0 hts (gV tw_682 tw_368 tw_369 tw_80 tw_370) rfl rfl rfl (by decide +kernel) ⟨Nat.le_of_ble_eq_true rfl, Nat.le_of_ble_eq_true rfl⟩) (pV hS hAlo hlo hP hK (va_Dlo hD hAlo) hZ [3] (by decide) rfl (ci := 6) (q := (RX6, TX6, 6)) (q0 := 0) rfl rfl) rfl rfl hl.1 rfl (lv_room (Nat.le_of_ble_eq_true rfl)) dX3_readFrom_94 ⟨Nat.le_of_ble_eq_true rfl, Nat.le_of_ble_eq_true rfl⟩) hS hA hP (fun r_28 H locs hw_28 hP hS => ?_)
          try dsimp only at hw_28
          obtain rfl : r_28 = 0 := by rcases hw_28 with ⟨h, h2⟩ | ⟨h, h2⟩ <;> first | exact h | exact absurd rfl h2 | exact absurd h2 (by decide)
          refine lv_if_ne (tgt := 116) hx hb dX3_readFrom_97 (by decide) (fun h => absurd (by decide) h) (fun _ => ?_)
          refine lv_aload_n hx hb dX3_readFrom_100 rfl (lv_at hl 2 rfl) ?_
          refine rw_i (D := D) (wr := [(u0, .inr (3, (fX3 u1 u2 r_2 (nI rc2_3) 0))), (aI k u1 24 rs2_3), (aI k u2 24 rb2_3)]) (va_runV (As := []) (rest := []) ⟨hx, hb, hml, hown, hts⟩ ((x_isAtEnd l D k st lo x0 x1 tz ta__22 na2_3 0 fb2_3 fx (by omega) (by omega)) H.size) (cwV 0 hts (gV tw_692 tw_372 tw_373 tw_80 tw_374) rfl rfl rfl (by decide +kernel) ⟨Nat.le_of_ble_eq_true rfl, Nat.le_of_ble_eq_true rfl⟩) (pV hS hAlo hlo hP hK (va_Dlo hD hAlo) hZ [3, 4] (by decide) rfl (ci := 6) (q := (RX6, TX6, 6)) (q0 := 0) rfl rfl) rfl rfl hl.1 rfl (lv_room (Nat.le_of_ble_eq_true rfl)) dX3_readFrom_101 ⟨Nat.le_of_ble_eq_true rfl, Nat.le_of_ble_eq_true rfl⟩) hS hA hP hD [3, 4] [0, 1, 2] rfl rfl (by decide) (by decide) (fun r_29 u H locs hw_29 hP hD hS => ?_)
          obtain ⟨ta__29, rfl⟩ : ∃ z, z = u := ⟨_, rfl⟩
          replace hP : va_P D classes [(u0, .inr (3, (fX3 u1 u2 r_2 (nI rc2_3) 0))), (aI k u1 24 rs2_3), (aI k u2 24 rb2_3), (x0, .inr (6, (fX6 x1 (nI tz) (nI ta__29) na2_3 0 fb2_3))), (aB k x1 240 fx)] H := hP
          replace hD : va_D A [(u0, .inr (3, (fX3 u1 u2 r_2 (nI rc2_3) 0))), (aI k u1 24 rs2_3), (aI k u2 24 rb2_3), (x0, .inr (6, (fX6 x1 (nI tz) (nI ta__29) na2_3 0 fb2_3))), (aB k x1 240 fx)] := hD
          try dsimp only at hw_29
          rcases hw_29 with ⟨rfl | rfl, hw_29⟩
          · refine lv_if_ne (tgt := 116) hx hb dX3_readFrom_104 (by decide) (fun _ => ?_) (fun h => absurd h (by decide))
            have hP9 := hP.sub (ws' := [(u0, .inr (3, (fX3 u1 u2 r_2 (nI rc2_3) 0))), (aI k u1 24 rs2_3), (aI k u2 24 rb2_3), (x0, .inr (6, (fX6 x1 (nI tz) (nI ta__29) na2_3 0 fb2_3))), (aB k x1 240 fx)]) [0, 1, 2, 3, 4] rfl
            have hD9 := hD.sub (ws' := [(u0, .inr (3, (fX3 u1 u2 r_2 (nI rc2_3) 0))), (aI k u1 24 rs2_3), (aI k u2 24 rb2_3), (x0, .inr (6, (fX6 x1 (nI tz) (nI ta__29) na2_3 0 fb2_3))), (aB k x1 240 fx)]) [0, 1, 2, 3, 4] (by decide) rfl
            exact W.vret hx hb hr (fun t ht hW => ⟨⟨(r_2, rc2_3, 0, rs2_3, rb2_3, ta__29, na2_3, 0, fb2_3), rfl, ⟨by omega, by omega, by omega⟩, by rw [ht]; exact hP9, hD9⟩, hS.F ht⟩) hS.2.2 dX3_readFrom_116
          · refine lv_if_ne (tgt := 116) hx hb dX3_readFrom_104 (by decide) (fun h => absurd (by decide) h) (fun _ => ?_)
            refine lv_aload_n hx hb dX3_readFrom_107 rfl (lv_at hl 2 rfl) ?_
            refine lv_iconst (v := 1) hx hb dX3_readFrom_108 (by decide) ?_
            refine lv_aload_n hx hb dX3_readFrom_109 rfl (lv_at hl 2 rfl) ?_
            refine va_get (D := D) (ci := 6) (v := .int (nI ta__29)) (C := RX6) (T := TX6) (N := 6) hx hb hts inX6 hown hK hP 3 rfl rfl 2 (by decide) (hts _ tw_114) (fun _ h9 => h9) rfl dX3_readFrom_110 ?_
            refine rw_v (D := D) (wr := [(u0, .inr (3, (fX3 u1 u2 r_2 (nI rc2_3) 0))), (aI k u1 24 rs2_3), (aI k u2 24 rb2_3), (aB k x1 240 fx)]) (va_runV (As := [.int 1, .int (nI ta__29)]) (rest := []) ⟨hx, hb, hml, hown, hts⟩ ((x_fail l D k st lo x0 x1 tz ta__29 na2_3 0 fb2_3 1 (nI ta__29) (by decide)) H.size) (cwV 2 hts (gV tw_689 tw_456 tw_457 tw_80 tw_458) rfl rfl rfl (by decide +kernel) ⟨Nat.le_of_ble_eq_true rfl, Nat.le_of_ble_eq_true rfl⟩) (pV hS hAlo hlo hP hK (va_Dlo hD hAlo) hZ [3] (by decide) rfl (ci := 6) (q := (RX6, TX6, 6)) (q0 := 0) rfl rfl) rfl rfl hl.1 rfl (lv_room (Nat.le_of_ble_eq_true rfl)) dX3_readFrom_113 ⟨Nat.le_of_ble_eq_true rfl, Nat.le_of_ble_eq_true rfl⟩) hS hA hP hD [3] [0, 1, 2, 4] rfl rfl (by decide) (by decide) (fun u H locs hw_30 hP hD hS => ?_)
            obtain ⟨fn__30, fb__30⟩ := u
            replace hP : va_P D classes [(u0, .inr (3, (fX3 u1 u2 r_2 (nI rc2_3) 0))), (aI k u1 24 rs2_3), (aI k u2 24 rb2_3), (aB k x1 240 fx), (x0, .inr (6, (fX6 x1 (nI tz) (nI ta__29) na2_3 fn__30 fb__30)))] H := hP
            replace hD : va_D A [(u0, .inr (3, (fX3 u1 u2 r_2 (nI rc2_3) 0))), (aI k u1 24 rs2_3), (aI k u2 24 rb2_3), (aB k x1 240 fx), (x0, .inr (6, (fX6 x1 (nI tz) (nI ta__29) na2_3 fn__30 fb__30)))] := hD
            try dsimp only at hw_30
            have hP9 := hP.sub (ws' := [(u0, .inr (3, (fX3 u1 u2 r_2 (nI rc2_3) 0))), (aI k u1 24 rs2_3), (aI k u2 24 rb2_3), (x0, .inr (6, (fX6 x1 (nI tz) (nI ta__29) na2_3 fn__30 fb__30))), (aB k x1 240 fx)]) [0, 1, 2, 4, 3] rfl
            have hD9 := hD.sub (ws' := [(u0, .inr (3, (fX3 u1 u2 r_2 (nI rc2_3) 0))), (aI k u1 24 rs2_3), (aI k u2 24 rb2_3), (x0, .inr (6, (fX6 x1 (nI tz) (nI ta__29) na2_3 fn__30 fb__30))), (aB k x1 240 fx)]) [0, 1, 2, 4, 3] (by decide) rfl
            exact W.vret hx hb hr (fun t ht hW => ⟨⟨(r_2, rc2_3, 0, rs2_3, rb2_3, ta__29, na2_3, fn__30, fb__30), rfl, ⟨by omega, by omega, by omega⟩, by rw [ht]; exact hP9, hD9⟩, hS.F ht⟩) hS.2.2 dX3_readFrom_116

theorem dX3_barAfter_0 : decode cX3_barAfter 0 = .ok (.aload_n 0, 1) := by decide +kernel
theorem dX3_barAfter_1 : decode cX3_barAfter 1 = .ok (.getfield 22, 3) := by decide +kernel
theorem dX3_barAfter_4 : decode cX3_barAfter 4 = .ok (.iconst 1, 1) := by decide +kernel
theorem dX3_barAfter_5 : decode cX3_barAfter 5 = .ok (.isub, 1) := by decide +kernel
theorem dX3_barAfter_6 : decode cX3_barAfter 6 = .ok (.istore_n 2, 1) := by decide +kernel
theorem dX3_barAfter_7 : decode cX3_barAfter 7 = .ok (.iload_n 2, 1) := by decide +kernel
theorem dX3_barAfter_8 : decode cX3_barAfter 8 = .ok (.ifCond .lt 26, 3) := by decide +kernel
theorem dX3_barAfter_11 : decode cX3_barAfter 11 = .ok (.aload_n 0, 1) := by decide +kernel
theorem dX3_barAfter_12 : decode cX3_barAfter 12 = .ok (.getfield 9, 3) := by decide +kernel
theorem dX3_barAfter_15 : decode cX3_barAfter 15 = .ok (.iload_n 2, 1) := by decide +kernel
theorem dX3_barAfter_16 : decode cX3_barAfter 16 = .ok (.iaload, 1) := by decide +kernel
theorem dX3_barAfter_17 : decode cX3_barAfter 17 = .ok (.iload_n 1, 1) := by decide +kernel
theorem dX3_barAfter_18 : decode cX3_barAfter 18 = .ok (.if_icmp .gt 10, 3) := by decide +kernel
theorem dX3_barAfter_21 : decode cX3_barAfter 21 = .ok (.aload_n 0, 1) := by decide +kernel
theorem dX3_barAfter_22 : decode cX3_barAfter 22 = .ok (.getfield 15, 3) := by decide +kernel
theorem dX3_barAfter_25 : decode cX3_barAfter 25 = .ok (.iload_n 2, 1) := by decide +kernel
theorem dX3_barAfter_26 : decode cX3_barAfter 26 = .ok (.iaload, 1) := by decide +kernel
theorem dX3_barAfter_27 : decode cX3_barAfter 27 = .ok (.ireturn, 1) := by decide +kernel
theorem dX3_barAfter_28 : decode cX3_barAfter 28 = .ok (.iinc 2 (-1), 3) := by decide +kernel
theorem dX3_barAfter_31 : decode cX3_barAfter 31 = .ok (.goto (-24), 3) := by decide +kernel
theorem dX3_barAfter_34 : decode cX3_barAfter 34 = .ok (.aload_n 0, 1) := by decide +kernel
theorem dX3_barAfter_35 : decode cX3_barAfter 35 = .ok (.getfield 18, 3) := by decide +kernel
theorem dX3_barAfter_38 : decode cX3_barAfter 38 = .ok (.ireturn, 1) := by decide +kernel
set_option maxHeartbeats 4000000 in
set_option maxRecDepth 100000 in
theorem x_barAfter (l : Launch) (D : va_G) (k : Nat → ClassId) (st : Nat → Nat) (lo : Nat) (u0 : Nat) (u1 : Nat) (u2 : Nat) (rf : Int32) (rc : Nat) (rr : Nat) (rs : Nat → Int32) (rb : Nat → Int32) (p0 : Int32) (hrc : rc ≤ 24) : CRi l D k st lo yX3_barAfter cX3_barAfter 3 (some .int) ({ frames := 0, cells := 0, slots := 0, locals := 0 }) [.ref u0, .int p0] [(u0, .inr (3, (fX3 u1 u2 rf (nI rc) (nI rr)))), (aI k u1 24 rs), (aI k u2 24 rb)] (fun _ => True) := by
  intro sz
  refine Met.ofW (cc := cX3_barAfter) (maxL := 3) (ret := (some .int)) (by decide) rfl ?_
  intro p e s m args below meth c s₁ B hml hv
  obtain ⟨rfl, hsz, hlo, hP, hK, hDL, hZ⟩ := hv
  have hx := B.exec
  have hb := B.bytes
  have hr := B.returns
  have hts := WS_ts B.pre
  have hown : s.vm.findClass RX3 = some m.cls := findClass_of_methodNamed B.named
  have hlocks := B.notSynchronized
  subst hsz
  have hA : ∀ q : Nat, s.heap.size ≤ q → (fun q : Nat => s.heap.size ≤ q) q := fun _ h => h
  have hAlo : ∀ q : Nat, (fun q : Nat => s.heap.size ≤ q) q → lo ≤ q := fun q h => Nat.le_trans hlo h
  have hS : va_S (fun q : Nat => s.heap.size ≤ q) s.heap s.heap [] := va_S.rf
  have hl := lv_entry ([.ref u0, .int p0]) (n := 3) (Nat.le_of_ble_eq_true rfl)
  rw [lg_entry_eq]
  generalize (lg_sl ([.ref u0, .int p0]) ++ List.replicate (3 - (lg_sl ([.ref u0, .int p0])).length) Slot.unset).toArray = ls at hl ⊢
  have hl : lv_has ls 3 [(0, .ref u0), (1, .int p0)] := hl
  refine lv_aload_n hx hb dX3_barAfter_0 rfl (lv_at hl 0 rfl) ?_
  refine va_get (D := D) (ci := 3) (v := .int (nI rc)) (C := RX3) (T := TX3) (N := 5) hx hb hts inX3 hown hK hP 0 rfl rfl 3 (by decide) (hts _ tw_292) (fun _ h9 => h9) rfl dX3_barAfter_1 ?_
  refine lv_iconst (v := 1) hx hb dX3_barAfter_4 (by decide) ?_
  refine lv_isub hx hb dX3_barAfter_5 ?_
  refine lv_ti (y := (nI rc - 1)) rfl ?_
  refine lv_istore_n (lv' := [(2, .int (nI rc - 1)), (0, .ref u0), (1, .int p0)]) hx hb dX3_barAfter_6 rfl hl (by decide) rfl (fun ls hl => ?_)
  refine W_loop (σ := Nat) (fun (n_ : Nat) (q_1 : Nat) (H : Heap) (locs : List Loc) (ls : Array Slot) => n_ = 2 * q_1 ∧ (q_1 ≤ 24) ∧ va_P D classes [(u0, .inr (3, (fX3 u1 u2 rf (nI rc) (nI rr)))), (aI k u1 24 rs), (aI k u2 24 rb)] H ∧ va_S (fun q : Nat => s.heap.size ≤ q) s.heap H locs ∧ lv_has ls 3 [(2, .int (nI q_1 - 1)), (0, .ref u0), (1, .int p0)]) (fun n_1 x_1 H locs ls hI ih_1 => ?_) _ rc ⟨rfl, (by omega), hP, hS, (lv_sub hl [0, 1, 2] rfl)⟩
  obtain ⟨q_1, rfl⟩ : ∃ z, z = x_1 := ⟨_, rfl⟩
  obtain ⟨hm_1, hv_1, hP, hS, hl⟩ := hI
  subst hm_1
  rcases q_1 with _ | q_1
  · rw [dn0] at hl
    refine lv_iload_n hx hb dX3_barAfter_7 rfl (lv_at hl 0 rfl) ?_
    refine lv_if_lt (tgt := 34) hx hb dX3_barAfter_8 (by decide) (fun _ => ?_) (fun h => absurd (by decide) h)
    refine lv_aload_n hx hb dX3_barAfter_34 rfl (lv_at hl 1 rfl) ?_
    refine va_get (D := D) (ci := 3) (v := .int rf) (C := RX3) (T := TX3) (N := 5) hx hb hts inX3 hown hK hP 0 rfl rfl 2 (by decide) (hts _ tw_291) (fun _ h9 => h9) rfl dX3_barAfter_35 ?_
    exact W.iret (v := rf) hx hb hr (fun t ht hW => ⟨⟨rf, (), rfl, trivial, trivial⟩, hS.F ht⟩) hS.2.2 dX3_barAfter_38
  · rw [nI_pred] at hl
    refine lv_iload_n hx hb dX3_barAfter_7 rfl (lv_at hl 0 rfl) ?_
    refine lv_if_lt (tgt := 34) hx hb dX3_barAfter_8 (by decide) (fun h => absurd h (nI_pos0 (by omega))) (fun _ => ?_)
    refine lv_aload_n hx hb dX3_barAfter_11 rfl (lv_at hl 1 rfl) ?_
    refine va_get (D := D) (ci := 3) (v := .ref u1) (C := RX3) (T := TX3) (N := 5) hx hb hts inX3 hown hK hP 0 rfl rfl 0 (by decide) (hts _ tw_289) (fun _ h9 => h9) rfl dX3_barAfter_12 ?_
    refine lv_iload_n hx hb dX3_barAfter_15 rfl (lv_at hl 0 rfl) ?_
    refine va_iald hx hb hK hP 1 1 rfl rfl (vp_in_nI (by omega) (by decide)) dX3_barAfter_16 ?_
    refine lv_ti (y := (rs q_1)) (by rw [nI_clamp (by omega)]) ?_
    refine lv_iload_n hx hb dX3_barAfter_17 rfl (lv_at hl 2 rfl) ?_
    refine lv_icmp_gt (tgt := 28) hx hb dX3_barAfter_18 (by decide) (fun c_2 => ?_) (fun c_2 => ?_)
    · refine lv_iinc (v := (nI q_1 - 1)) (lv' := [(2, .int (nI q_1 - 1)), (0, .ref u0), (1, .int p0)]) hx hb dX3_barAfter_28 hl (k := 0) rfl (dn1 _) (by decide) rfl (fun ls hl => ?_)
      refine lv_goto (tgt := 7) hx hb dX3_barAfter_31 (by decide) ?_
      exact ih_1 _ (q_1) _ _ _ (by omega) ⟨rfl, (by omega), hP, hS, (lv_sub hl [0, 1, 2] rfl)⟩
    · refine lv_aload_n hx hb dX3_barAfter_21 rfl (lv_at hl 1 rfl) ?_
      refine va_get (D := D) (ci := 3) (v := .ref u2) (C := RX3) (T := TX3) (N := 5) hx hb hts inX3 hown hK hP 0 rfl rfl 1 (by decide) (hts _ tw_290) (fun _ h9 => h9) rfl dX3_barAfter_22 ?_
      refine lv_iload_n hx hb dX3_barAfter_25 rfl (lv_at hl 0 rfl) ?_
      refine va_iald hx hb hK hP 2 1 rfl rfl (vp_in_nI (by omega) (by decide)) dX3_barAfter_26 ?_
      refine lv_ti (y := (rb q_1)) (by rw [nI_clamp (by omega)]) ?_
      exact W.iret (v := (rb q_1)) hx hb hr (fun t ht hW => ⟨⟨(rb q_1), (), rfl, trivial, trivial⟩, hS.F ht⟩) hS.2.2 dX3_barAfter_27

theorem dX3_roundsIn_0 : decode cX3_roundsIn 0 = .ok (.aload_n 0, 1) := by decide +kernel
theorem dX3_roundsIn_1 : decode cX3_roundsIn 1 = .ok (.getfield 25, 3) := by decide +kernel
theorem dX3_roundsIn_4 : decode cX3_roundsIn 4 = .ok (.aload_n 1, 1) := by decide +kernel
theorem dX3_roundsIn_5 : decode cX3_roundsIn 5 = .ok (.getfield 70, 3) := by decide +kernel
theorem dX3_roundsIn_8 : decode cX3_roundsIn 8 = .ok (.bipush 8, 2) := by decide +kernel
theorem dX3_roundsIn_10 : decode cX3_roundsIn 10 = .ok (.iaload, 1) := by decide +kernel
theorem dX3_roundsIn_11 : decode cX3_roundsIn 11 = .ok (.invokestatic 75, 3) := by decide +kernel
theorem dX3_roundsIn_14 : decode cX3_roundsIn 14 = .ok (.ireturn, 1) := by decide +kernel
set_option maxHeartbeats 4000000 in
set_option maxRecDepth 100000 in
theorem x_roundsIn (l : Launch) (D : va_G) (k : Nat → ClassId) (st : Nat → Nat) (lo : Nat) (u0 : Nat) (u1 : Nat) (u2 : Nat) (rf : Int32) (rc : Nat) (rr : Nat) (h0 : Nat) (h1 : Nat) (h2 : Nat) (h3 : Nat) (h4 : Nat) (n : Nat) (see : Nat) (tm : Nat) (g : Nat → Int32) (hrr : rr ≤ 3) (htm9 : tm ≤ 3) : CRi l D k st lo yX3_roundsIn cX3_roundsIn 2 (some .int) ({ frames := 1, cells := 0, slots := 0, locals := 60 }) [.ref u0, .ref h0] [(u0, .inr (3, (fX3 u1 u2 rf (nI rc) (nI rr)))), (h0, .inr (5, (fX5 h1 h2 h3 h4))), (aI k h1 10 (vv n see tm g))] (fun r => r = nI (min rr tm)) := by
  intro sz
  refine Met.ofW (cc := cX3_roundsIn) (maxL := 2) (ret := (some .int)) (by decide) rfl ?_
  intro p e s m args below meth c s₁ B hml hv
  obtain ⟨rfl, hsz, hlo, hP, hK, hDL, hZ⟩ := hv
  have hx := B.exec
  have hb := B.bytes
  have hr := B.returns
  have hts := WS_ts B.pre
  have hown : s.vm.findClass RX3 = some m.cls := findClass_of_methodNamed B.named
  have hlocks := B.notSynchronized
  subst hsz
  have hA : ∀ q : Nat, s.heap.size ≤ q → (fun q : Nat => s.heap.size ≤ q) q := fun _ h => h
  have hAlo : ∀ q : Nat, (fun q : Nat => s.heap.size ≤ q) q → lo ≤ q := fun q h => Nat.le_trans hlo h
  have hS : va_S (fun q : Nat => s.heap.size ≤ q) s.heap s.heap [] := va_S.rf
  have hl := lv_entry ([.ref u0, .ref h0]) (n := 2) (Nat.le_of_ble_eq_true rfl)
  rw [lg_entry_eq]
  generalize (lg_sl ([.ref u0, .ref h0]) ++ List.replicate (2 - (lg_sl ([.ref u0, .ref h0])).length) Slot.unset).toArray = ls at hl ⊢
  have hl : lv_has ls 2 [(0, .ref u0), (1, .ref h0)] := hl
  refine lv_aload_n hx hb dX3_roundsIn_0 rfl (lv_at hl 0 rfl) ?_
  refine va_get (D := D) (ci := 3) (v := .int (nI rr)) (C := RX3) (T := TX3) (N := 5) hx hb hts inX3 hown hK hP 0 rfl rfl 4 (by decide) (hts _ tw_293) (fun _ h9 => h9) rfl dX3_roundsIn_1 ?_
  refine lv_aload_n hx hb dX3_roundsIn_4 rfl (lv_at hl 1 rfl) ?_
  refine va_get (D := D) (ci := 5) (v := .ref h1) (C := RX5) (T := TX5) (N := 4) hx hb hts inX5 hown hK hP 1 rfl rfl 0 (by decide) (hts _ tw_148) (fun _ h9 => h9) rfl dX3_roundsIn_5 ?_
  refine lv_bipush (v := 8) hx hb dX3_roundsIn_8 (by decide) ?_
  refine va_iald hx hb hK hP 2 1 rfl rfl (by unfold vp_in; decide) dX3_roundsIn_10 ?_
  refine lv_ti (y := (nI tm)) (by rfl) ?_
  refine va_mmin hx hb (by rw [hml]; exact hl.1.symm) hown (hts _ tw_709) (hts _ tw_529) (hts _ tw_93) (hts _ tw_530) (Nat.le_of_ble_eq_true rfl) (Nat.le_of_ble_eq_true rfl) (Nat.le_of_ble_eq_true rfl) (Nat.le_of_ble_eq_true rfl) dX3_roundsIn_11 ?_
  refine lv_ti (y := (nI (min rr tm))) (mminN (by omega) (by omega)) ?_
  exact W.iret (v := (nI (min rr tm))) hx hb hr (fun t ht hW => ⟨⟨(nI (min rr tm)), (), rfl, rfl, trivial⟩, hS.F ht⟩) hS.2.2 dX3_roundsIn_14

theorem f_x_copyFrom_rows : True := trivial
theorem dX4_copyFrom_0 : decode cX4_copyFrom 0 = .ok (.aload_n 1, 1) := by decide +kernel
theorem dX4_copyFrom_1 : decode cX4_copyFrom 1 = .ok (.getfield 9, 3) := by decide +kernel
theorem dX4_copyFrom_4 : decode cX4_copyFrom 4 = .ok (.iconst 0, 1) := by decide +kernel
theorem dX4_copyFrom_5 : decode cX4_copyFrom 5 = .ok (.aload_n 0, 1) := by decide +kernel
theorem dX4_copyFrom_6 : decode cX4_copyFrom 6 = .ok (.getfield 9, 3) := by decide +kernel
theorem dX4_copyFrom_9 : decode cX4_copyFrom 9 = .ok (.iconst 0, 1) := by decide +kernel
theorem dX4_copyFrom_10 : decode cX4_copyFrom 10 = .ok (.iconst 4, 1) := by decide +kernel
theorem dX4_copyFrom_11 : decode cX4_copyFrom 11 = .ok (.invokestatic 31, 3) := by decide +kernel
theorem dX4_copyFrom_14 : decode cX4_copyFrom 14 = .ok (.aload_n 1, 1) := by decide +kernel
theorem dX4_copyFrom_15 : decode cX4_copyFrom 15 = .ok (.getfield 15, 3) := by decide +kernel
theorem dX4_copyFrom_18 : decode cX4_copyFrom 18 = .ok (.iconst 0, 1) := by decide +kernel
theorem dX4_copyFrom_19 : decode cX4_copyFrom 19 = .ok (.aload_n 0, 1) := by decide +kernel
theorem dX4_copyFrom_20 : decode cX4_copyFrom 20 = .ok (.getfield 15, 3) := by decide +kernel
theorem dX4_copyFrom_23 : decode cX4_copyFrom 23 = .ok (.iconst 0, 1) := by decide +kernel
theorem dX4_copyFrom_24 : decode cX4_copyFrom 24 = .ok (.iconst 4, 1) := by decide +kernel
theorem dX4_copyFrom_25 : decode cX4_copyFrom 25 = .ok (.invokestatic 31, 3) := by decide +kernel
theorem dX4_copyFrom_28 : decode cX4_copyFrom 28 = .ok (.aload_n 0, 1) := by decide +kernel
theorem dX4_copyFrom_29 : decode cX4_copyFrom 29 = .ok (.aload_n 1, 1) := by decide +kernel
theorem dX4_copyFrom_30 : decode cX4_copyFrom 30 = .ok (.getfield 18, 3) := by decide +kernel
theorem dX4_copyFrom_33 : decode cX4_copyFrom 33 = .ok (.putfield 18, 3) := by decide +kernel
theorem dX4_copyFrom_36 : decode cX4_copyFrom 36 = .ok (.aload_n 0, 1) := by decide +kernel
theorem dX4_copyFrom_37 : decode cX4_copyFrom 37 = .ok (.aload_n 1, 1) := by decide +kernel
theorem dX4_copyFrom_38 : decode cX4_copyFrom 38 = .ok (.getfield 22, 3) := by decide +kernel
theorem dX4_copyFrom_41 : decode cX4_copyFrom 41 = .ok (.putfield 22, 3) := by decide +kernel
theorem dX4_copyFrom_44 : decode cX4_copyFrom 44 = .ok (.aload_n 0, 1) := by decide +kernel
theorem dX4_copyFrom_45 : decode cX4_copyFrom 45 = .ok (.aload_n 1, 1) := by decide +kernel
theorem dX4_copyFrom_46 : decode cX4_copyFrom 46 = .ok (.getfield 25, 3) := by decide +kernel
theorem dX4_copyFrom_49 : decode cX4_copyFrom 49 = .ok (.putfield 25, 3) := by decide +kernel
theorem dX4_copyFrom_52 : decode cX4_copyFrom 52 = .ok (.aload_n 0, 1) := by decide +kernel
theorem dX4_copyFrom_53 : decode cX4_copyFrom 53 = .ok (.aload_n 1, 1) := by decide +kernel
theorem dX4_copyFrom_54 : decode cX4_copyFrom 54 = .ok (.getfield 28, 3) := by decide +kernel
theorem dX4_copyFrom_57 : decode cX4_copyFrom 57 = .ok (.putfield 28, 3) := by decide +kernel
theorem dX4_copyFrom_60 : decode cX4_copyFrom 60 = .ok (.return_, 1) := by decide +kernel
theorem f_x_see_rows : True := trivial
theorem dX4_see_0 : decode cX4_see 0 = .ok (.iload_n 1, 1) := by decide +kernel
theorem dX4_see_1 : decode cX4_see 1 = .ok (.ifCond .eq 18, 3) := by decide +kernel
theorem dX4_see_4 : decode cX4_see 4 = .ok (.aload_n 0, 1) := by decide +kernel
theorem dX4_see_5 : decode cX4_see 5 = .ok (.dup, 1) := by decide +kernel
theorem dX4_see_6 : decode cX4_see 6 = .ok (.getfield 25, 3) := by decide +kernel
theorem dX4_see_9 : decode cX4_see 9 = .ok (.iconst 1, 1) := by decide +kernel
theorem dX4_see_10 : decode cX4_see 10 = .ok (.aload_n 0, 1) := by decide +kernel
theorem dX4_see_11 : decode cX4_see 11 = .ok (.getfield 22, 3) := by decide +kernel
theorem dX4_see_14 : decode cX4_see 14 = .ok (.ishl, 1) := by decide +kernel
theorem dX4_see_15 : decode cX4_see 15 = .ok (.ior, 1) := by decide +kernel
theorem dX4_see_16 : decode cX4_see 16 = .ok (.putfield 25, 3) := by decide +kernel
theorem dX4_see_19 : decode cX4_see 19 = .ok (.aload_n 0, 1) := by decide +kernel
theorem dX4_see_20 : decode cX4_see 20 = .ok (.dup, 1) := by decide +kernel
theorem dX4_see_21 : decode cX4_see 21 = .ok (.getfield 22, 3) := by decide +kernel
theorem dX4_see_24 : decode cX4_see 24 = .ok (.iconst 1, 1) := by decide +kernel
theorem dX4_see_25 : decode cX4_see 25 = .ok (.iadd, 1) := by decide +kernel
theorem dX4_see_26 : decode cX4_see 26 = .ok (.putfield 22, 3) := by decide +kernel
theorem dX4_see_29 : decode cX4_see 29 = .ok (.aload_n 0, 1) := by decide +kernel
theorem dX4_see_30 : decode cX4_see 30 = .ok (.getfield 22, 3) := by decide +kernel
theorem dX4_see_33 : decode cX4_see 33 = .ok (.ireturn, 1) := by decide +kernel
theorem dX4_sawFree_0 : decode cX4_sawFree 0 = .ok (.aload_n 0, 1) := by decide +kernel
theorem dX4_sawFree_1 : decode cX4_sawFree 1 = .ok (.getfield 25, 3) := by decide +kernel
theorem dX4_sawFree_4 : decode cX4_sawFree 4 = .ok (.iload_n 1, 1) := by decide +kernel
theorem dX4_sawFree_5 : decode cX4_sawFree 5 = .ok (.ishr, 1) := by decide +kernel
theorem dX4_sawFree_6 : decode cX4_sawFree 6 = .ok (.iconst 1, 1) := by decide +kernel
theorem dX4_sawFree_7 : decode cX4_sawFree 7 = .ok (.iand, 1) := by decide +kernel
theorem dX4_sawFree_8 : decode cX4_sawFree 8 = .ok (.ifCond .eq 7, 3) := by decide +kernel
theorem dX4_sawFree_11 : decode cX4_sawFree 11 = .ok (.iconst 1, 1) := by decide +kernel
theorem dX4_sawFree_12 : decode cX4_sawFree 12 = .ok (.goto 4, 3) := by decide +kernel
theorem dX4_sawFree_15 : decode cX4_sawFree 15 = .ok (.iconst 0, 1) := by decide +kernel
theorem dX4_sawFree_16 : decode cX4_sawFree 16 = .ok (.ireturn, 1) := by decide +kernel
set_option maxHeartbeats 4000000 in
set_option maxRecDepth 100000 in
theorem x_sawFree (l : Launch) (D : va_G) (k : Nat → ClassId) (st : Nat → Nat) (lo : Nat) (c0 : Nat) (c1 : Nat) (c2 : Nat) (cc : Nat) (rz : Nat) (ro : Int32) (sd : Int32) (p0 : Int32)  : CRi l D k st lo yX4_sawFree cX4_sawFree 2 (some .boolean) ({ frames := 0, cells := 0, slots := 0, locals := 0 }) [.ref c0, .int p0] [(c0, .inr (4, (fX4 c1 c2 (nI cc) (nI rz) ro sd)))] (fun r => r = 1 ∨ r = 0) := by
  intro sz
  refine Met.ofW (cc := cX4_sawFree) (maxL := 2) (ret := (some .boolean)) (by decide) rfl ?_
  intro p e s m args below meth c s₁ B hml hv
  obtain ⟨rfl, hsz, hlo, hP, hK, hDL, hZ⟩ := hv
  have hx := B.exec
  have hb := B.bytes
  have hr := B.returns
  have hts := WS_ts B.pre
  have hown : s.vm.findClass RX4 = some m.cls := findClass_of_methodNamed B.named
  have hlocks := B.notSynchronized
  subst hsz
  have hA : ∀ q : Nat, s.heap.size ≤ q → (fun q : Nat => s.heap.size ≤ q) q := fun _ h => h
  have hAlo : ∀ q : Nat, (fun q : Nat => s.heap.size ≤ q) q → lo ≤ q := fun q h => Nat.le_trans hlo h
  have hS : va_S (fun q : Nat => s.heap.size ≤ q) s.heap s.heap [] := va_S.rf
  have hl := lv_entry ([.ref c0, .int p0]) (n := 2) (Nat.le_of_ble_eq_true rfl)
  rw [lg_entry_eq]
  generalize (lg_sl ([.ref c0, .int p0]) ++ List.replicate (2 - (lg_sl ([.ref c0, .int p0])).length) Slot.unset).toArray = ls at hl ⊢
  have hl : lv_has ls 2 [(0, .ref c0), (1, .int p0)] := hl
  refine lv_aload_n hx hb dX4_sawFree_0 rfl (lv_at hl 0 rfl) ?_
  refine va_get (D := D) (ci := 4) (v := .int ro) (C := RX4) (T := TX4) (N := 6) hx hb hts inX4 hown hK hP 0 rfl rfl 4 (by decide) (hts _ tw_185) (fun _ h9 => h9) rfl dX4_sawFree_1 ?_
  refine lv_iload_n hx hb dX4_sawFree_4 rfl (lv_at hl 1 rfl) ?_
  refine lv_ishr hx hb dX4_sawFree_5 ?_
  refine lv_topi (fun x_1 ex_1 => ?_)
  refine lv_iconst (v := 1) hx hb dX4_sawFree_6 (by decide) ?_
  refine lv_iand hx hb dX4_sawFree_7 ?_
  refine lv_topi (fun x_2 ex_2 => ?_)
  refine lv_if_eq (tgt := 15) hx hb dX4_sawFree_8 (by decide) (fun c_3 => ?_) (fun c_3 => ?_)
  · refine lv_iconst (v := 0) hx hb dX4_sawFree_15 (by decide) ?_
    exact W.zret (v := 0) (ty := .boolean) hx hb hr rfl (fun t ht hW => ⟨⟨0, (), rfl, .inr rfl, trivial⟩, hS.F ht⟩) hS.2.2 dX4_sawFree_16
  · refine lv_iconst (v := 1) hx hb dX4_sawFree_11 (by decide) ?_
    refine lv_goto (tgt := 16) hx hb dX4_sawFree_12 (by decide) ?_
    exact W.zret (v := 1) (ty := .boolean) hx hb hr rfl (fun t ht hW => ⟨⟨1, (), rfl, .inl rfl, trivial⟩, hS.F ht⟩) hS.2.2 dX4_sawFree_16

theorem f_x_addCar_rows : True := trivial
theorem dX4_addCar_0 : decode cX4_addCar 0 = .ok (.aload_n 0, 1) := by decide +kernel
theorem dX4_addCar_1 : decode cX4_addCar 1 = .ok (.getfield 18, 3) := by decide +kernel
theorem dX4_addCar_4 : decode cX4_addCar 4 = .ok (.istore_n 3, 1) := by decide +kernel
theorem dX4_addCar_5 : decode cX4_addCar 5 = .ok (.iload_n 3, 1) := by decide +kernel
theorem dX4_addCar_6 : decode cX4_addCar 6 = .ok (.iconst 4, 1) := by decide +kernel
theorem dX4_addCar_7 : decode cX4_addCar 7 = .ok (.if_icmp .ge 27, 3) := by decide +kernel
theorem dX4_addCar_10 : decode cX4_addCar 10 = .ok (.aload_n 0, 1) := by decide +kernel
theorem dX4_addCar_11 : decode cX4_addCar 11 = .ok (.getfield 9, 3) := by decide +kernel
theorem dX4_addCar_14 : decode cX4_addCar 14 = .ok (.iload_n 3, 1) := by decide +kernel
theorem dX4_addCar_15 : decode cX4_addCar 15 = .ok (.iload_n 1, 1) := by decide +kernel
theorem dX4_addCar_16 : decode cX4_addCar 16 = .ok (.iastore, 1) := by decide +kernel
theorem dX4_addCar_17 : decode cX4_addCar 17 = .ok (.aload_n 0, 1) := by decide +kernel
theorem dX4_addCar_18 : decode cX4_addCar 18 = .ok (.getfield 15, 3) := by decide +kernel
theorem dX4_addCar_21 : decode cX4_addCar 21 = .ok (.iload_n 3, 1) := by decide +kernel
theorem dX4_addCar_22 : decode cX4_addCar 22 = .ok (.iload_n 2, 1) := by decide +kernel
theorem dX4_addCar_23 : decode cX4_addCar 23 = .ok (.iastore, 1) := by decide +kernel
theorem dX4_addCar_24 : decode cX4_addCar 24 = .ok (.aload_n 0, 1) := by decide +kernel
theorem dX4_addCar_25 : decode cX4_addCar 25 = .ok (.dup, 1) := by decide +kernel
theorem dX4_addCar_26 : decode cX4_addCar 26 = .ok (.getfield 18, 3) := by decide +kernel
theorem dX4_addCar_29 : decode cX4_addCar 29 = .ok (.iconst 1, 1) := by decide +kernel
theorem dX4_addCar_30 : decode cX4_addCar 30 = .ok (.iadd, 1) := by decide +kernel
theorem dX4_addCar_31 : decode cX4_addCar 31 = .ok (.putfield 18, 3) := by decide +kernel
theorem dX4_addCar_34 : decode cX4_addCar 34 = .ok (.iload_n 3, 1) := by decide +kernel
theorem dX4_addCar_35 : decode cX4_addCar 35 = .ok (.ireturn, 1) := by decide +kernel
theorem dX4_takeBars_0 : decode cX4_takeBars 0 = .ok (.aload_n 1, 1) := by decide +kernel
theorem dX4_takeBars_1 : decode cX4_takeBars 1 = .ok (.iconst 0, 1) := by decide +kernel
theorem dX4_takeBars_2 : decode cX4_takeBars 2 = .ok (.aload_n 0, 1) := by decide +kernel
theorem dX4_takeBars_3 : decode cX4_takeBars 3 = .ok (.getfield 15, 3) := by decide +kernel
theorem dX4_takeBars_6 : decode cX4_takeBars 6 = .ok (.iconst 0, 1) := by decide +kernel
theorem dX4_takeBars_7 : decode cX4_takeBars 7 = .ok (.iconst 4, 1) := by decide +kernel
theorem dX4_takeBars_8 : decode cX4_takeBars 8 = .ok (.invokestatic 31, 3) := by decide +kernel
theorem dX4_takeBars_11 : decode cX4_takeBars 11 = .ok (.return_, 1) := by decide +kernel
set_option maxHeartbeats 4000000 in
set_option maxRecDepth 100000 in
theorem x_takeBars (l : Launch) (D : va_G) (k : Nat → ClassId) (st : Nat → Nat) (lo : Nat) (c0 : Nat) (c1 : Nat) (c2 : Nat) (cc : Nat) (rz : Nat) (ro : Int32) (sd : Int32) (wk : Nat → Int32) (br : Nat → Nat) (z1 : Nat) (pb : Nat → Nat) (hbr : ∀ j, br j ≤ 24) (hpb : ∀ j, pb j ≤ 24) : CWv l D k st lo yX4_takeBars cX4_takeBars 2 none ({ frames := 1, cells := 0, slots := 0, locals := 60 }) 0 0 [.ref c0, .ref z1] [(c0, .inr (4, (fX4 c1 c2 (nI cc) (nI rz) ro sd))), (aI k c1 4 wk), (aI k c2 4 (nF br)), (aI k z1 4 (nF pb))] (fun (br_ : (Nat → Nat)) => ∀ j, br_ j ≤ 24) (fun (br_ : (Nat → Nat)) => [(c0, .inr (4, (fX4 c1 c2 (nI cc) (nI rz) ro sd))), (aI k c1 4 wk), (aI k c2 4 (nF br_)), (aI k z1 4 (nF pb))]) := by
  intro sz
  refine Met.ofW (cc := cX4_takeBars) (maxL := 2) (ret := none) (by decide) rfl ?_
  intro p e s m args below meth c s₁ B hml hv
  obtain ⟨rfl, hsz, hlo, hP, hK, hDL, hZ⟩ := hv
  have hx := B.exec
  have hb := B.bytes
  have hr := B.returns
  have hts := WS_ts B.pre
  have hown : s.vm.findClass RX4 = some m.cls := findClass_of_methodNamed B.named
  have hlocks := B.notSynchronized
  subst hsz
  have hD := hDL.self (sz := s.heap.size)
  have hAlo := A_lo hDL hlo
  generalize hAe : va_A [(c0, .inr (4, (fX4 c1 c2 (nI cc) (nI rz) ro sd))), (aI k c1 4 wk), (aI k c2 4 (nF br)), (aI k z1 4 (nF pb))] s.heap.size = A at hD hAlo ⊢
  have hA : ∀ q : Nat, s.heap.size ≤ q → A q := fun q h => by rw [← hAe]; exact Or.inr h
  have hS : va_S A s.heap s.heap [] := va_S.rf
  have hl := lv_entry ([.ref c0, .ref z1]) (n := 2) (Nat.le_of_ble_eq_true rfl)
  rw [lg_entry_eq]
  generalize (lg_sl ([.ref c0, .ref z1]) ++ List.replicate (2 - (lg_sl ([.ref c0, .ref z1])).length) Slot.unset).toArray = ls at hl ⊢
  have hl : lv_has ls 2 [(0, .ref c0), (1, .ref z1)] := hl
  refine lv_aload_n hx hb dX4_takeBars_0 rfl (lv_at hl 1 rfl) ?_
  refine lv_iconst (v := 0) hx hb dX4_takeBars_1 (by decide) ?_
  refine lv_aload_n hx hb dX4_takeBars_2 rfl (lv_at hl 0 rfl) ?_
  refine va_get (D := D) (ci := 4) (v := .ref c2) (C := RX4) (T := TX4) (N := 6) hx hb hts inX4 hown hK hP 0 rfl rfl 1 (by decide) (hts _ tw_175) (fun _ h9 => h9) rfl dX4_takeBars_3 ?_
  refine lv_iconst (v := 0) hx hb dX4_takeBars_6 (by decide) ?_
  refine lv_iconst (v := 4) hx hb dX4_takeBars_7 (by decide) ?_
  refine va_copyi hx hb (by rw [hml]; exact hl.1.symm) hown (hts _ tw_883) (hts _ tw_366) (hts _ tw_365) (hts _ tw_88) hK hP hD hS 3 2 1 1 rfl rfl rfl rfl rfl (by decide) (by decide) (by decide) (by decide) (by decide) (fun _ _ => rfl) (Nat.le_of_ble_eq_true rfl) (Nat.le_of_ble_eq_true rfl) dX4_takeBars_8 (fun H locs hP hD hS => ?_)
  replace hP : va_P D classes [(c0, .inr (4, (fX4 c1 c2 (nI cc) (nI rz) ro sd))), (aI k c1 4 wk), (aI k c2 4 (va_cpy (nF pb) (nF br) 0 0 4)), (aI k z1 4 (nF pb))] H := hP
  replace hD : va_D A [(c0, .inr (4, (fX4 c1 c2 (nI cc) (nI rz) ro sd))), (aI k c1 4 wk), (aI k c2 4 (va_cpy (nF pb) (nF br) 0 0 4)), (aI k z1 4 (nF pb))] := hD
  obtain ⟨d_1, hd_1, hbb_1⟩ := nF_cpy hpb hbr
  rw [show va_cpy (nF pb) (nF br) 0 0 4 = nF d_1 from hd_1] at hP hD
  replace hP : va_P D classes [(c0, .inr (4, (fX4 c1 c2 (nI cc) (nI rz) ro sd))), (aI k c1 4 wk), (aI k c2 4 (nF d_1)), (aI k z1 4 (nF pb))] H := hP
  replace hD : va_D A [(c0, .inr (4, (fX4 c1 c2 (nI cc) (nI rz) ro sd))), (aI k c1 4 wk), (aI k c2 4 (nF d_1)), (aI k z1 4 (nF pb))] := hD
  have hP9 := hP.sub (ws' := [(c0, .inr (4, (fX4 c1 c2 (nI cc) (nI rz) ro sd))), (aI k c1 4 wk), (aI k c2 4 (nF d_1)), (aI k z1 4 (nF pb))]) [0, 1, 2, 3] rfl
  have hD9 := hD.sub (ws' := [(c0, .inr (4, (fX4 c1 c2 (nI cc) (nI rz) ro sd))), (aI k c1 4 wk), (aI k c2 4 (nF d_1)), (aI k z1 4 (nF pb))]) [0, 1, 2, 3] (by decide) rfl
  exact W.vret hx hb hr (fun t ht hW => ⟨⟨d_1, rfl, hbb_1, by rw [ht]; exact hP9, hD9⟩, hS.F ht⟩) hS.2.2 dX4_takeBars_11

theorem dX4_draw_0 : decode cX4_draw 0 = .ok (.aload_n 0, 1) := by decide +kernel
theorem dX4_draw_1 : decode cX4_draw 1 = .ok (.aload_n 0, 1) := by decide +kernel
theorem dX4_draw_2 : decode cX4_draw 2 = .ok (.getfield 28, 3) := by decide +kernel
theorem dX4_draw_5 : decode cX4_draw 5 = .ok (.i2l, 1) := by decide +kernel
theorem dX4_draw_6 : decode cX4_draw 6 = .ok (.ldc2_w 37, 3) := by decide +kernel
theorem dX4_draw_9 : decode cX4_draw 9 = .ok (.lmul, 1) := by decide +kernel
theorem dX4_draw_10 : decode cX4_draw 10 = .ok (.ldc2_w 39, 3) := by decide +kernel
theorem dX4_draw_13 : decode cX4_draw 13 = .ok (.ladd, 1) := by decide +kernel
theorem dX4_draw_14 : decode cX4_draw 14 = .ok (.ldc2_w 41, 3) := by decide +kernel
theorem dX4_draw_17 : decode cX4_draw 17 = .ok (.land, 1) := by decide +kernel
theorem dX4_draw_18 : decode cX4_draw 18 = .ok (.l2i, 1) := by decide +kernel
theorem dX4_draw_19 : decode cX4_draw 19 = .ok (.putfield 28, 3) := by decide +kernel
theorem dX4_draw_22 : decode cX4_draw 22 = .ok (.aload_n 0, 1) := by decide +kernel
theorem dX4_draw_23 : decode cX4_draw 23 = .ok (.getfield 28, 3) := by decide +kernel
theorem dX4_draw_26 : decode cX4_draw 26 = .ok (.ldc 43, 2) := by decide +kernel
theorem dX4_draw_28 : decode cX4_draw 28 = .ok (.idiv, 1) := by decide +kernel
theorem dX4_draw_29 : decode cX4_draw 29 = .ok (.bipush 100, 2) := by decide +kernel
theorem dX4_draw_31 : decode cX4_draw 31 = .ok (.irem, 1) := by decide +kernel
theorem dX4_draw_32 : decode cX4_draw 32 = .ok (.ireturn, 1) := by decide +kernel
set_option maxHeartbeats 4000000 in
set_option maxRecDepth 100000 in
theorem x_draw (l : Launch) (D : va_G) (k : Nat → ClassId) (st : Nat → Nat) (lo : Nat) (c0 : Nat) (c1 : Nat) (c2 : Nat) (cc : Nat) (rz : Nat) (ro : Int32) (sd : Int32)  : CWi l D k st lo yX4_draw cX4_draw 1 (some .int) ({ frames := 0, cells := 0, slots := 0, locals := 0 }) 0 0 [.ref c0] [(c0, .inr (4, (fX4 c1 c2 (nI cc) (nI rz) ro sd)))] (fun (r : Int32) (sd_ : Int32) => True) (fun (sd_ : Int32) => [(c0, .inr (4, (fX4 c1 c2 (nI cc) (nI rz) ro sd_)))]) := by
  intro sz
  refine Met.ofW (cc := cX4_draw) (maxL := 1) (ret := (some .int)) (by decide) rfl ?_
  intro p e s m args below meth c s₁ B hml hv
  obtain ⟨rfl, hsz, hlo, hP, hK, hDL, hZ⟩ := hv
  have hx := B.exec
  have hb := B.bytes
  have hr := B.returns
  have hts := WS_ts B.pre
  have hown : s.vm.findClass RX4 = some m.cls := findClass_of_methodNamed B.named
  have hlocks := B.notSynchronized
  subst hsz
  have hD := hDL.self (sz := s.heap.size)
  have hAlo := A_lo hDL hlo
  generalize hAe : va_A [(c0, .inr (4, (fX4 c1 c2 (nI cc) (nI rz) ro sd)))] s.heap.size = A at hD hAlo ⊢
  have hA : ∀ q : Nat, s.heap.size ≤ q → A q := fun q h => by rw [← hAe]; exact Or.inr h
  have hS : va_S A s.heap s.heap [] := va_S.rf
  have hl := lv_entry ([.ref c0]) (n := 1) (Nat.le_of_ble_eq_true rfl)
  rw [lg_entry_eq]
  generalize (lg_sl ([.ref c0]) ++ List.replicate (1 - (lg_sl ([.ref c0])).length) Slot.unset).toArray = ls at hl ⊢
  have hl : lv_has ls 1 [(0, .ref c0)] := hl
  refine lv_aload_n hx hb dX4_draw_0 rfl (lv_at hl 0 rfl) ?_
  refine lv_aload_n hx hb dX4_draw_1 rfl (lv_at hl 0 rfl) ?_
  refine va_get (D := D) (ci := 4) (v := .int sd) (C := RX4) (T := TX4) (N := 6) hx hb hts inX4 hown hK hP 0 rfl rfl 5 (by decide) (hts _ tw_188) (fun _ h9 => h9) rfl dX4_draw_2 ?_
  refine lv_i2l (v := sd.toInt64) hx hb dX4_draw_5 rfl ?_
  refine lv_ldc2 hx hb hown (hts _ tw_936) dX4_draw_6 ?_
  refine lv_lmul hx hb dX4_draw_9 ?_
  refine lv_topl (fun x_1 ex_1 => ?_)
  refine lv_ldc2 hx hb hown (hts _ tw_937) dX4_draw_10 ?_
  refine lv_ladd hx hb dX4_draw_13 ?_
  refine lv_topl (fun x_2 ex_2 => ?_)
  refine lv_ldc2 hx hb hown (hts _ tw_938) dX4_draw_14 ?_
  refine lv_land hx hb dX4_draw_17 ?_
  refine lv_topl (fun x_3 ex_3 => ?_)
  refine lv_l2i hx hb dX4_draw_18 rfl ?_
  refine lv_topi (fun x_4 ex_4 => ?_)
  refine va_put (D := D) (ci := 4) (v := .int x_4) (ty := .int) (C := RX4) (T := TX4) (N := 6) hx hb hts inX4 tyX4 tyX4_ok nmX4 hown hK hP hD hS 0 rfl rfl 5 (by decide) (hts _ tw_188) (fun _ h9 => h9) rfl (by decide +kernel) rfl rfl (Nat.le_of_ble_eq_true rfl) dX4_draw_19 (fun H locs hP hD hS => ?_)
  replace hP : va_P D classes [(c0, .inr (4, (fX4 c1 c2 (nI cc) (nI rz) ro x_4)))] H := hP
  replace hD : va_D A [(c0, .inr (4, (fX4 c1 c2 (nI cc) (nI rz) ro x_4)))] := hD
  refine lv_aload_n hx hb dX4_draw_22 rfl (lv_at hl 0 rfl) ?_
  refine va_get (D := D) (ci := 4) (v := .int x_4) (C := RX4) (T := TX4) (N := 6) hx hb hts inX4 hown hK hP 0 rfl rfl 5 (by decide) (hts _ tw_188) (fun _ h9 => h9) rfl dX4_draw_23 ?_
  refine lv_ldc hx hb hown (hts _ tw_939) dX4_draw_26 ?_
  refine lv_idiv hx hb dX4_draw_28 (by decide) ?_
  refine lv_topi (fun x_5 ex_5 => ?_)
  refine lv_bipush (v := 100) hx hb dX4_draw_29 (by decide) ?_
  refine lv_irem hx hb dX4_draw_31 (by decide) ?_
  refine lv_topi (fun x_6 ex_6 => ?_)
  have hP9 := hP.sub (ws' := [(c0, .inr (4, (fX4 c1 c2 (nI cc) (nI rz) ro x_4)))]) [0] rfl
  have hD9 := hD.sub (ws' := [(c0, .inr (4, (fX4 c1 c2 (nI cc) (nI rz) ro x_4)))]) [0] (by decide) rfl
  exact W.iret (v := x_6) hx hb hr (fun t ht hW => ⟨⟨x_6, x_4, rfl, trivial, by rw [ht]; exact hP9, hD9⟩, hS.F ht⟩) hS.2.2 dX4_draw_32

theorem dX0_slot_0 : decode cX0_slot 0 = .ok (.iload_n 0, 1) := by decide +kernel
theorem dX0_slot_1 : decode cX0_slot 1 = .ok (.bipush 24, 2) := by decide +kernel
theorem dX0_slot_3 : decode cX0_slot 3 = .ok (.imul, 1) := by decide +kernel
theorem dX0_slot_4 : decode cX0_slot 4 = .ok (.iload_n 1, 1) := by decide +kernel
theorem dX0_slot_5 : decode cX0_slot 5 = .ok (.iadd, 1) := by decide +kernel
theorem dX0_slot_6 : decode cX0_slot 6 = .ok (.bipush 8, 2) := by decide +kernel
theorem dX0_slot_8 : decode cX0_slot 8 = .ok (.imul, 1) := by decide +kernel
theorem dX0_slot_9 : decode cX0_slot 9 = .ok (.iload_n 2, 1) := by decide +kernel
theorem dX0_slot_10 : decode cX0_slot 10 = .ok (.iadd, 1) := by decide +kernel
theorem dX0_slot_11 : decode cX0_slot 11 = .ok (.ireturn, 1) := by decide +kernel
set_option maxHeartbeats 4000000 in
set_option maxRecDepth 100000 in
theorem x_slot (l : Launch) (D : va_G) (k : Nat → ClassId) (st : Nat → Nat) (lo : Nat) (rn : Nat) (i : Nat) (gg : Nat)  : CRi l D k st lo yX0_slot cX0_slot 3 (some .int) ({ frames := 0, cells := 0, slots := 0, locals := 0 }) [.int (nI rn), .int (nI i), .int (nI gg)] [] (fun r => r = nI ((rn * 24 + i) * 8 + gg)) := by
  intro sz
  refine Met.ofW (cc := cX0_slot) (maxL := 3) (ret := (some .int)) (by decide) rfl ?_
  intro p e s m args below meth c s₁ B hml hv
  obtain ⟨rfl, hsz, hlo, hP, hK, hDL, hZ⟩ := hv
  have hx := B.exec
  have hb := B.bytes
  have hr := B.returns
  have hts := WS_ts B.pre
  have hown : s.vm.findClass RX0 = some m.cls := findClass_of_methodNamed B.named
  have hlocks := B.notSynchronized
  subst hsz
  have hA : ∀ q : Nat, s.heap.size ≤ q → (fun q : Nat => s.heap.size ≤ q) q := fun _ h => h
  have hAlo : ∀ q : Nat, (fun q : Nat => s.heap.size ≤ q) q → lo ≤ q := fun q h => Nat.le_trans hlo h
  have hS : va_S (fun q : Nat => s.heap.size ≤ q) s.heap s.heap [] := va_S.rf
  have hl := lv_entry ([.int (nI rn), .int (nI i), .int (nI gg)]) (n := 3) (Nat.le_of_ble_eq_true rfl)
  rw [lg_entry_eq]
  generalize (lg_sl ([.int (nI rn), .int (nI i), .int (nI gg)]) ++ List.replicate (3 - (lg_sl ([.int (nI rn), .int (nI i), .int (nI gg)])).length) Slot.unset).toArray = ls at hl ⊢
  have hl : lv_has ls 3 [(0, .int (nI rn)), (1, .int (nI i)), (2, .int (nI gg))] := hl
  refine lv_iload_n hx hb dX0_slot_0 rfl (lv_at hl 0 rfl) ?_
  refine lv_bipush (v := 24) hx hb dX0_slot_1 (by decide) ?_
  refine lv_imul hx hb dX0_slot_3 ?_
  refine lv_ti (y := (nI (rn * 24))) (pk_mul rn 24) ?_
  refine lv_iload_n hx hb dX0_slot_4 rfl (lv_at hl 1 rfl) ?_
  refine lv_iadd hx hb dX0_slot_5 ?_
  refine lv_ti (y := (nI (rn * 24 + i))) (nI_add (rn * 24) i) ?_
  refine lv_bipush (v := 8) hx hb dX0_slot_6 (by decide) ?_
  refine lv_imul hx hb dX0_slot_8 ?_
  refine lv_ti (y := (nI ((rn * 24 + i) * 8))) (pk_mul (rn * 24 + i) 8) ?_
  refine lv_iload_n hx hb dX0_slot_9 rfl (lv_at hl 2 rfl) ?_
  refine lv_iadd hx hb dX0_slot_10 ?_
  refine lv_ti (y := (nI ((rn * 24 + i) * 8 + gg))) (nI_add ((rn * 24 + i) * 8) gg) ?_
  exact W.iret (v := (nI ((rn * 24 + i) * 8 + gg))) hx hb hr (fun t ht hW => ⟨⟨(nI ((rn * 24 + i) * 8 + gg)), (), rfl, rfl, trivial⟩, hS.F ht⟩) hS.2.2 dX0_slot_11

theorem dX0_onwardOf_0 : decode cX0_onwardOf 0 = .ok (.aload_n 0, 1) := by decide +kernel
theorem dX0_onwardOf_1 : decode cX0_onwardOf 1 = .ok (.getfield 9, 3) := by decide +kernel
theorem dX0_onwardOf_4 : decode cX0_onwardOf 4 = .ok (.iload_n 1, 1) := by decide +kernel
theorem dX0_onwardOf_5 : decode cX0_onwardOf 5 = .ok (.iload_n 2, 1) := by decide +kernel
theorem dX0_onwardOf_6 : decode cX0_onwardOf 6 = .ok (.iload_n 3, 1) := by decide +kernel
theorem dX0_onwardOf_7 : decode cX0_onwardOf 7 = .ok (.invokestatic 67, 3) := by decide +kernel
theorem dX0_onwardOf_10 : decode cX0_onwardOf 10 = .ok (.iaload, 1) := by decide +kernel
theorem dX0_onwardOf_11 : decode cX0_onwardOf 11 = .ok (.ireturn, 1) := by decide +kernel
set_option maxHeartbeats 4000000 in
set_option maxRecDepth 100000 in
theorem x_onwardOf (l : Launch) (D : va_G) (k : Nat → ClassId) (st : Nat → Nat) (lo : Nat) (h0 : Nat) (w0 : Nat) (w1 : Nat) (w2 : Nat) (w3 : Nat) (w4 : Nat) (on : Nat → Int32) (rn : Nat) (i : Nat) (gg : Nat) (hrn : rn ≤ 3) (hi : i < 24) (hg : gg < 8) : CRi l D k st lo yX0_onwardOf cX0_onwardOf 4 (some .int) ({ frames := 1, cells := 0, slots := 0, locals := 22 }) [.ref w0, .int (nI rn), .int (nI i), .int (nI gg)] [(w0, .inr (0, (fX0 h0 w1 w2 w3 w4))), (aI k w1 768 on)] (fun _ => True) := by
  intro sz
  refine Met.ofW (cc := cX0_onwardOf) (maxL := 4) (ret := (some .int)) (by decide) rfl ?_
  intro p e s m args below meth c s₁ B hml hv
  obtain ⟨rfl, hsz, hlo, hP, hK, hDL, hZ⟩ := hv
  have hx := B.exec
  have hb := B.bytes
  have hr := B.returns
  have hts := WS_ts B.pre
  have hown : s.vm.findClass RX0 = some m.cls := findClass_of_methodNamed B.named
  have hlocks := B.notSynchronized
  subst hsz
  have hA : ∀ q : Nat, s.heap.size ≤ q → (fun q : Nat => s.heap.size ≤ q) q := fun _ h => h
  have hAlo : ∀ q : Nat, (fun q : Nat => s.heap.size ≤ q) q → lo ≤ q := fun q h => Nat.le_trans hlo h
  have hS : va_S (fun q : Nat => s.heap.size ≤ q) s.heap s.heap [] := va_S.rf
  have hl := lv_entry ([.ref w0, .int (nI rn), .int (nI i), .int (nI gg)]) (n := 4) (Nat.le_of_ble_eq_true rfl)
  rw [lg_entry_eq]
  generalize (lg_sl ([.ref w0, .int (nI rn), .int (nI i), .int (nI gg)]) ++ List.replicate (4 - (lg_sl ([.ref w0, .int (nI rn), .int (nI i), .int (nI gg)])).length) Slot.unset).toArray = ls at hl ⊢
  have hl : lv_has ls 4 [(0, .ref w0), (1, .int (nI rn)), (2, .int (nI i)), (3, .int (nI gg))] := hl
  refine lv_aload_n hx hb dX0_onwardOf_0 rfl (lv_at hl 0 rfl) ?_
  refine va_get (D := D) (ci := 0) (v := .ref w1) (C := RX0) (T := TX0) (N := 5) hx hb hts inX0 hown hK hP 0 rfl rfl 1 (by decide) (hts _ tw_267) (fun _ h9 => h9) rfl dX0_onwardOf_1 ?_
  refine lv_iload_n hx hb dX0_onwardOf_4 rfl (lv_at hl 1 rfl) ?_
  refine lv_iload_n hx hb dX0_onwardOf_5 rfl (lv_at hl 2 rfl) ?_
  refine lv_iload_n hx hb dX0_onwardOf_6 rfl (lv_at hl 3 rfl) ?_
  refine ro_i (D := D) (va_runS (As := [.int (nI rn), .int (nI i), .int (nI gg)]) (rest := [.ref w1]) ⟨hx, hb, hml, hown, hts⟩ ((x_slot l D k st lo rn i gg) s.heap.size) (va_cwS 3 hts (gS tw_553 tw_554 tw_85 tw_555) rfl rfl rfl (by decide +kernel) ⟨Nat.le_of_ble_eq_true rfl, Nat.le_of_ble_eq_true rfl⟩) (pS hS hAlo hlo hP hK hDL hZ [] (by decide) rfl) rfl rfl hl.1 rfl (lv_room (Nat.le_of_ble_eq_true rfl)) dX0_onwardOf_7 ⟨Nat.le_of_ble_eq_true rfl, Nat.le_of_ble_eq_true rfl⟩) hS hA hP (fun r_1 H locs hw_1 hP hS => ?_)
  try dsimp only at hw_1
  subst hw_1
  refine va_iald hx hb hK hP 1 1 rfl rfl (vp_in_nI (by omega) (by decide)) dX0_onwardOf_10 ?_
  refine lv_ti (y := (on ((rn * 24 + i) * 8 + gg))) (by rw [nI_clamp (by omega)]) ?_
  exact W.iret (v := (on ((rn * 24 + i) * 8 + gg))) hx hb hr (fun t ht hW => ⟨⟨(on ((rn * 24 + i) * 8 + gg)), (), rfl, trivial, trivial⟩, hS.F ht⟩) hS.2.2 dX0_onwardOf_11

theorem dX0_isTaken_0 : decode cX0_isTaken 0 = .ok (.iload_n 3, 1) := by decide +kernel
theorem dX0_isTaken_1 : decode cX0_isTaken 1 = .ok (.iconst 1, 1) := by decide +kernel
theorem dX0_isTaken_2 : decode cX0_isTaken 2 = .ok (.iand, 1) := by decide +kernel
theorem dX0_isTaken_3 : decode cX0_isTaken 3 = .ok (.ifCond .eq 26, 3) := by decide +kernel
theorem dX0_isTaken_6 : decode cX0_isTaken 6 = .ok (.aload_n 0, 1) := by decide +kernel
theorem dX0_isTaken_7 : decode cX0_isTaken 7 = .ok (.getfield 24, 3) := by decide +kernel
theorem dX0_isTaken_10 : decode cX0_isTaken 10 = .ok (.iload_n 1, 1) := by decide +kernel
theorem dX0_isTaken_11 : decode cX0_isTaken 11 = .ok (.iload_n 2, 1) := by decide +kernel
theorem dX0_isTaken_12 : decode cX0_isTaken 12 = .ok (.invokevirtual 83, 3) := by decide +kernel
theorem dX0_isTaken_15 : decode cX0_isTaken 15 = .ok (.aload_n 0, 1) := by decide +kernel
theorem dX0_isTaken_16 : decode cX0_isTaken 16 = .ok (.iload_n 1, 1) := by decide +kernel
theorem dX0_isTaken_17 : decode cX0_isTaken 17 = .ok (.iload_n 2, 1) := by decide +kernel
theorem dX0_isTaken_18 : decode cX0_isTaken 18 = .ok (.iload_n 3, 1) := by decide +kernel
theorem dX0_isTaken_19 : decode cX0_isTaken 19 = .ok (.invokevirtual 86, 3) := by decide +kernel
theorem dX0_isTaken_22 : decode cX0_isTaken 22 = .ok (.if_icmp .gt 7, 3) := by decide +kernel
theorem dX0_isTaken_25 : decode cX0_isTaken 25 = .ok (.iconst 1, 1) := by decide +kernel
theorem dX0_isTaken_26 : decode cX0_isTaken 26 = .ok (.goto 4, 3) := by decide +kernel
theorem dX0_isTaken_29 : decode cX0_isTaken 29 = .ok (.iconst 0, 1) := by decide +kernel
theorem dX0_isTaken_30 : decode cX0_isTaken 30 = .ok (.ireturn, 1) := by decide +kernel
set_option maxHeartbeats 4000000 in
set_option maxRecDepth 100000 in
theorem x_isTaken (l : Launch) (D : va_G) (k : Nat → ClassId) (st : Nat → Nat) (lo : Nat) (h0 : Nat) (h1 : Nat) (h2 : Nat) (h3 : Nat) (h4 : Nat) (n : Nat) (see : Nat) (tm : Nat) (g : Nat → Int32) (fp : Nat → Int32) (fl : Nat → Int32) (w0 : Nat) (w1 : Nat) (w2 : Nat) (w3 : Nat) (w4 : Nat) (on : Nat → Int32) (rn : Nat) (i : Nat) (gg : Nat) (hrn : rn ≤ 3) (hi : i < 24) (hg : gg < 8) : CRi l D k st lo yX0_isTaken cX0_isTaken 4 (some .boolean) ({ frames := 2, cells := 0, slots := 0, locals := 45 }) [.ref w0, .int (nI rn), .int (nI i), .int (nI gg)] [(h0, .inr (5, (fX5 h1 h2 h3 h4))), (aI k h1 10 (vv n see tm g)), (aI k h3 24 fp), (aI k h4 4 fl), (w0, .inr (0, (fX0 h0 w1 w2 w3 w4))), (aI k w1 768 on)] (fun r => r = 1 ∨ r = 0) := by
  intro sz
  refine Met.ofW (cc := cX0_isTaken) (maxL := 4) (ret := (some .boolean)) (by decide) rfl ?_
  intro p e s m args below meth c s₁ B hml hv
  obtain ⟨rfl, hsz, hlo, hP, hK, hDL, hZ⟩ := hv
  have hx := B.exec
  have hb := B.bytes
  have hr := B.returns
  have hts := WS_ts B.pre
  have hown : s.vm.findClass RX0 = some m.cls := findClass_of_methodNamed B.named
  have hlocks := B.notSynchronized
  subst hsz
  have hA : ∀ q : Nat, s.heap.size ≤ q → (fun q : Nat => s.heap.size ≤ q) q := fun _ h => h
  have hAlo : ∀ q : Nat, (fun q : Nat => s.heap.size ≤ q) q → lo ≤ q := fun q h => Nat.le_trans hlo h
  have hS : va_S (fun q : Nat => s.heap.size ≤ q) s.heap s.heap [] := va_S.rf
  have hl := lv_entry ([.ref w0, .int (nI rn), .int (nI i), .int (nI gg)]) (n := 4) (Nat.le_of_ble_eq_true rfl)
  rw [lg_entry_eq]
  generalize (lg_sl ([.ref w0, .int (nI rn), .int (nI i), .int (nI gg)]) ++ List.replicate (4 - (lg_sl ([.ref w0, .int (nI rn), .int (nI i), .int (nI gg)])).length) Slot.unset).toArray = ls at hl ⊢
  have hl : lv_has ls 4 [(0, .ref w0), (1, .int (nI rn)), (2, .int (nI i)), (3, .int (nI gg))] := hl
  refine lv_iload_n hx hb dX0_isTaken_0 rfl (lv_at hl 3 rfl) ?_
  refine lv_iconst (v := 1) hx hb dX0_isTaken_1 (by decide) ?_
  refine lv_iand hx hb dX0_isTaken_2 ?_
  refine lv_topi (fun x_1 ex_1 => ?_)
  refine lv_if_eq (tgt := 29) hx hb dX0_isTaken_3 (by decide) (fun c_2 => ?_) (fun c_2 => ?_)
  · refine lv_iconst (v := 0) hx hb dX0_isTaken_29 (by decide) ?_
    exact W.zret (v := 0) (ty := .boolean) hx hb hr rfl (fun t ht hW => ⟨⟨0, (), rfl, .inr rfl, trivial⟩, hS.F ht⟩) hS.2.2 dX0_isTaken_30
  · refine lv_aload_n hx hb dX0_isTaken_6 rfl (lv_at hl 0 rfl) ?_
    refine va_get (D := D) (ci := 0) (v := .ref h0) (C := RX0) (T := TX0) (N := 5) hx hb hts inX0 hown hK hP 4 rfl rfl 0 (by decide) (hts _ tw_266) (fun _ h9 => h9) rfl dX0_isTaken_7 ?_
    refine lv_iload_n hx hb dX0_isTaken_10 rfl (lv_at hl 1 rfl) ?_
    refine lv_iload_n hx hb dX0_isTaken_11 rfl (lv_at hl 2 rfl) ?_
    refine ro_i (D := D) (va_runV (As := [.int (nI rn), .int (nI i)]) (rest := []) ⟨hx, hb, hml, hown, hts⟩ ((x_takingOf l D k st lo h0 h1 h2 h3 h4 n see tm g fp fl rn i (by omega) (by omega)) s.heap.size) (cwV 2 hts (gV tw_556 tw_557 tw_558 tw_81 tw_559) rfl rfl rfl (by decide +kernel) ⟨Nat.le_of_ble_eq_true rfl, Nat.le_of_ble_eq_true rfl⟩) (pV hS hAlo hlo hP hK hDL hZ [0, 1, 2, 3] (by decide) rfl (ci := 5) (q := (RX5, TX5, 4)) (q0 := 0) rfl rfl) rfl rfl hl.1 rfl (lv_room (Nat.le_of_ble_eq_true rfl)) dX0_isTaken_12 ⟨Nat.le_of_ble_eq_true rfl, Nat.le_of_ble_eq_true rfl⟩) hS hA hP (fun r_3 H locs hw_3 hP hS => ?_)
    try dsimp only at hw_3
    refine lv_aload_n hx hb dX0_isTaken_15 rfl (lv_at hl 0 rfl) ?_
    refine lv_iload_n hx hb dX0_isTaken_16 rfl (lv_at hl 1 rfl) ?_
    refine lv_iload_n hx hb dX0_isTaken_17 rfl (lv_at hl 2 rfl) ?_
    refine lv_iload_n hx hb dX0_isTaken_18 rfl (lv_at hl 3 rfl) ?_
    refine ro_i (D := D) (va_runV (As := [.int (nI rn), .int (nI i), .int (nI gg)]) (rest := [.int r_3]) ⟨hx, hb, hml, hown, hts⟩ ((x_onwardOf l D k st lo h0 w0 w1 w2 w3 w4 on rn i gg (by omega) (by omega) (by omega)) H.size) (cwV 3 hts (gV tw_549 tw_550 tw_551 tw_85 tw_552) rfl rfl rfl (by decide +kernel) ⟨Nat.le_of_ble_eq_true rfl, Nat.le_of_ble_eq_true rfl⟩) (pV hS hAlo hlo hP hK hDL hZ [4, 5] (by decide) rfl (ci := 0) (q := (RX0, TX0, 5)) (q0 := 0) rfl rfl) rfl rfl hl.1 rfl (lv_room (Nat.le_of_ble_eq_true rfl)) dX0_isTaken_19 ⟨Nat.le_of_ble_eq_true rfl, Nat.le_of_ble_eq_true rfl⟩) hS hA hP (fun r_4 H locs hw_4 hP hS => ?_)
    try dsimp only at hw_4
    refine lv_icmp_gt (tgt := 29) hx hb dX0_isTaken_22 (by decide) (fun c_5 => ?_) (fun c_5 => ?_)
    · refine lv_iconst (v := 0) hx hb dX0_isTaken_29 (by decide) ?_
      exact W.zret (v := 0) (ty := .boolean) hx hb hr rfl (fun t ht hW => ⟨⟨0, (), rfl, .inr rfl, trivial⟩, hS.F ht⟩) hS.2.2 dX0_isTaken_30
    · refine lv_iconst (v := 1) hx hb dX0_isTaken_25 (by decide) ?_
      refine lv_goto (tgt := 30) hx hb dX0_isTaken_26 (by decide) ?_
      exact W.zret (v := 1) (ty := .boolean) hx hb hr rfl (fun t ht hW => ⟨⟨1, (), rfl, .inl rfl, trivial⟩, hS.F ht⟩) hS.2.2 dX0_isTaken_30


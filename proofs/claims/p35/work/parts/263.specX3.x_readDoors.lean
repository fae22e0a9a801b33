theorem dX5_readDoors_0 : decode cX5_readDoors 0 = .ok (.aload_n 1, 1) := by decide +kernel
theorem dX5_readDoors_1 : decode cX5_readDoors 1 = .ok (.getstatic 106, 3) := by decide +kernel
theorem dX5_readDoors_4 : decode cX5_readDoors 4 = .ok (.iconst 0, 1) := by decide +kernel
theorem dX5_readDoors_5 : decode cX5_readDoors 5 = .ok (.iaload, 1) := by decide +kernel
theorem dX5_readDoors_6 : decode cX5_readDoors 6 = .ok (.getstatic 109, 3) := by decide +kernel
theorem dX5_readDoors_9 : decode cX5_readDoors 9 = .ok (.iconst 0, 1) := by decide +kernel
theorem dX5_readDoors_10 : decode cX5_readDoors 10 = .ok (.iaload, 1) := by decide +kernel
theorem dX5_readDoors_11 : decode cX5_readDoors 11 = .ok (.invokevirtual 112, 3) := by decide +kernel
theorem dX5_readDoors_14 : decode cX5_readDoors 14 = .ok (.istore_n 2, 1) := by decide +kernel
theorem dX5_readDoors_15 : decode cX5_readDoors 15 = .ok (.aload_n 0, 1) := by decide +kernel
theorem dX5_readDoors_16 : decode cX5_readDoors 16 = .ok (.invokevirtual 72, 3) := by decide +kernel
theorem dX5_readDoors_19 : decode cX5_readDoors 19 = .ok (.istore_n 3, 1) := by decide +kernel
theorem dX5_readDoors_20 : decode cX5_readDoors 20 = .ok (.aload_n 1, 1) := by decide +kernel
theorem dX5_readDoors_21 : decode cX5_readDoors 21 = .ok (.invokevirtual 43, 3) := by decide +kernel
theorem dX5_readDoors_24 : decode cX5_readDoors 24 = .ok (.ifCond .ne 20, 3) := by decide +kernel
theorem dX5_readDoors_27 : decode cX5_readDoors 27 = .ok (.iload_n 3, 1) := by decide +kernel
theorem dX5_readDoors_28 : decode cX5_readDoors 28 = .ok (.iload_n 2, 1) := by decide +kernel
theorem dX5_readDoors_29 : decode cX5_readDoors 29 = .ok (.iadd, 1) := by decide +kernel
theorem dX5_readDoors_30 : decode cX5_readDoors 30 = .ok (.bipush 24, 2) := by decide +kernel
theorem dX5_readDoors_32 : decode cX5_readDoors 32 = .ok (.if_icmp .le 12, 3) := by decide +kernel
theorem dX5_readDoors_35 : decode cX5_readDoors 35 = .ok (.aload_n 1, 1) := by decide +kernel
theorem dX5_readDoors_36 : decode cX5_readDoors 36 = .ok (.iconst 4, 1) := by decide +kernel
theorem dX5_readDoors_37 : decode cX5_readDoors 37 = .ok (.aload_n 1, 1) := by decide +kernel
theorem dX5_readDoors_38 : decode cX5_readDoors 38 = .ok (.getfield 115, 3) := by decide +kernel
theorem dX5_readDoors_41 : decode cX5_readDoors 41 = .ok (.invokevirtual 60, 3) := by decide +kernel
theorem dX5_readDoors_44 : decode cX5_readDoors 44 = .ok (.aload_n 1, 1) := by decide +kernel
theorem dX5_readDoors_45 : decode cX5_readDoors 45 = .ok (.ldc 118, 2) := by decide +kernel
theorem dX5_readDoors_47 : decode cX5_readDoors 47 = .ok (.invokevirtual 120, 3) := by decide +kernel
theorem dX5_readDoors_50 : decode cX5_readDoors 50 = .ok (.aload_n 1, 1) := by decide +kernel
theorem dX5_readDoors_51 : decode cX5_readDoors 51 = .ok (.iconst 0, 1) := by decide +kernel
theorem dX5_readDoors_52 : decode cX5_readDoors 52 = .ok (.bipush 100, 2) := by decide +kernel
theorem dX5_readDoors_54 : decode cX5_readDoors 54 = .ok (.invokevirtual 112, 3) := by decide +kernel
theorem dX5_readDoors_57 : decode cX5_readDoors 57 = .ok (.istore 4, 2) := by decide +kernel
theorem dX5_readDoors_59 : decode cX5_readDoors 59 = .ok (.aload_n 1, 1) := by decide +kernel
theorem dX5_readDoors_60 : decode cX5_readDoors 60 = .ok (.ldc 124, 2) := by decide +kernel
theorem dX5_readDoors_62 : decode cX5_readDoors 62 = .ok (.invokevirtual 120, 3) := by decide +kernel
theorem dX5_readDoors_65 : decode cX5_readDoors 65 = .ok (.aload_n 1, 1) := by decide +kernel
theorem dX5_readDoors_66 : decode cX5_readDoors 66 = .ok (.iconst 0, 1) := by decide +kernel
theorem dX5_readDoors_67 : decode cX5_readDoors 67 = .ok (.sipush 999, 3) := by decide +kernel
theorem dX5_readDoors_70 : decode cX5_readDoors 70 = .ok (.invokevirtual 112, 3) := by decide +kernel
theorem dX5_readDoors_73 : decode cX5_readDoors 73 = .ok (.istore 5, 2) := by decide +kernel
theorem dX5_readDoors_75 : decode cX5_readDoors 75 = .ok (.aload_n 1, 1) := by decide +kernel
theorem dX5_readDoors_76 : decode cX5_readDoors 76 = .ok (.invokevirtual 126, 3) := by decide +kernel
theorem dX5_readDoors_79 : decode cX5_readDoors 79 = .ok (.aload_n 1, 1) := by decide +kernel
theorem dX5_readDoors_80 : decode cX5_readDoors 80 = .ok (.invokevirtual 43, 3) := by decide +kernel
theorem dX5_readDoors_83 : decode cX5_readDoors 83 = .ok (.ifCond .eq 4, 3) := by decide +kernel
theorem dX5_readDoors_86 : decode cX5_readDoors 86 = .ok (.return_, 1) := by decide +kernel
theorem dX5_readDoors_87 : decode cX5_readDoors 87 = .ok (.iload_n 3, 1) := by decide +kernel
theorem dX5_readDoors_88 : decode cX5_readDoors 88 = .ok (.istore 6, 2) := by decide +kernel
theorem dX5_readDoors_90 : decode cX5_readDoors 90 = .ok (.iload 6, 2) := by decide +kernel
theorem dX5_readDoors_92 : decode cX5_readDoors 92 = .ok (.iload_n 3, 1) := by decide +kernel
theorem dX5_readDoors_93 : decode cX5_readDoors 93 = .ok (.iload_n 2, 1) := by decide +kernel
theorem dX5_readDoors_94 : decode cX5_readDoors 94 = .ok (.iadd, 1) := by decide +kernel
theorem dX5_readDoors_95 : decode cX5_readDoors 95 = .ok (.if_icmp .ge 34, 3) := by decide +kernel
theorem dX5_readDoors_98 : decode cX5_readDoors 98 = .ok (.iload 6, 2) := by decide +kernel
theorem dX5_readDoors_100 : decode cX5_readDoors 100 = .ok (.bipush 24, 2) := by decide +kernel
theorem dX5_readDoors_102 : decode cX5_readDoors 102 = .ok (.if_icmp .ge 27, 3) := by decide +kernel
theorem dX5_readDoors_105 : decode cX5_readDoors 105 = .ok (.aload_n 0, 1) := by decide +kernel
theorem dX5_readDoors_106 : decode cX5_readDoors 106 = .ok (.getfield 15, 3) := by decide +kernel
theorem dX5_readDoors_109 : decode cX5_readDoors 109 = .ok (.iload 6, 2) := by decide +kernel
theorem dX5_readDoors_111 : decode cX5_readDoors 111 = .ok (.iload 4, 2) := by decide +kernel
theorem dX5_readDoors_113 : decode cX5_readDoors 113 = .ok (.iastore, 1) := by decide +kernel
theorem dX5_readDoors_114 : decode cX5_readDoors 114 = .ok (.aload_n 0, 1) := by decide +kernel
theorem dX5_readDoors_115 : decode cX5_readDoors 115 = .ok (.getfield 18, 3) := by decide +kernel
theorem dX5_readDoors_118 : decode cX5_readDoors 118 = .ok (.iload 6, 2) := by decide +kernel
theorem dX5_readDoors_120 : decode cX5_readDoors 120 = .ok (.iload 5, 2) := by decide +kernel
theorem dX5_readDoors_122 : decode cX5_readDoors 122 = .ok (.iastore, 1) := by decide +kernel
theorem dX5_readDoors_123 : decode cX5_readDoors 123 = .ok (.iinc 6 1, 3) := by decide +kernel
theorem dX5_readDoors_126 : decode cX5_readDoors 126 = .ok (.goto (-36), 3) := by decide +kernel
theorem dX5_readDoors_129 : decode cX5_readDoors 129 = .ok (.aload_n 0, 1) := by decide +kernel
theorem dX5_readDoors_130 : decode cX5_readDoors 130 = .ok (.getfield 9, 3) := by decide +kernel
theorem dX5_readDoors_133 : decode cX5_readDoors 133 = .ok (.iconst 0, 1) := by decide +kernel
theorem dX5_readDoors_134 : decode cX5_readDoors 134 = .ok (.iload_n 3, 1) := by decide +kernel
theorem dX5_readDoors_135 : decode cX5_readDoors 135 = .ok (.iload_n 2, 1) := by decide +kernel
theorem dX5_readDoors_136 : decode cX5_readDoors 136 = .ok (.iadd, 1) := by decide +kernel
theorem dX5_readDoors_137 : decode cX5_readDoors 137 = .ok (.iastore, 1) := by decide +kernel
theorem dX5_readDoors_138 : decode cX5_readDoors 138 = .ok (.return_, 1) := by decide +kernel
set_option maxHeartbeats 4000000 in
set_option maxRecDepth 100000 in
theorem x_readDoors (l : Launch) (D : va_G) (k : Nat → ClassId) (st : Nat → Nat) (lo : Nat) (h0 : Nat) (h1 : Nat) (h2 : Nat) (h3 : Nat) (h4 : Nat) (n : Nat) (see : Nat) (tm : Nat) (g : Nat → Int32) (ff : Nat → Int32) (fp : Nat → Int32) (x0 : Nat) (x1 : Nat) (tz : Nat) (ta : Nat) (na : Int32) (fn : Int32) (fb : Int32) (fx : Nat → Int32) (ht : ta ≤ tz) (hz : tz ≤ 240) (hn : n ≤ 24) : CWv l D k st lo yX5_readDoors cX5_readDoors 7 none ({ frames := 6, cells := 0, slots := 0, locals := 129 }) 0 0 [.ref h0, .ref x0] [(h0, .inr (5, [.ref h1, .ref h2, .ref h3, .ref h4])), (h1, .inl (k 1, 10, .inl (vv n see tm g))), (h2, .inl (k 1, 24, .inl ff)), (h3, .inl (k 1, 24, .inl fp)), (x0, .inr (6, [.ref x1, .int (nI tz), .int (nI ta), .int na, .int fn, .int fb])), (x1, .inl (k 0, 240, .inl fx))] (fun (u : Nat × (Nat → Int32) × (Nat → Int32) × Nat × Int32 × Int32 × Int32) => match u with | (n_, ff_, fp_, ta_, na_, fn_, fb_) => n_ ≤ 24 ∧ ta ≤ ta_ ∧ ta_ ≤ tz) (fun (u : Nat × (Nat → Int32) × (Nat → Int32) × Nat × Int32 × Int32 × Int32) => match u with | (n_, ff_, fp_, ta_, na_, fn_, fb_) => [(h0, .inr (5, [.ref h1, .ref h2, .ref h3, .ref h4])), (h1, .inl (k 1, 10, .inl (vv n_ see tm g))), (h2, .inl (k 1, 24, .inl ff_)), (h3, .inl (k 1, 24, .inl fp_)), (x0, .inr (6, [.ref x1, .int (nI tz), .int (nI ta_), .int na_, .int fn_, .int fb_])), (x1, .inl (k 0, 240, .inl fx))]) := by
  intro sz
  refine Met.ofW (cc := cX5_readDoors) (maxL := 7) (ret := none) (by decide) rfl ?_
  intro p e s m args below meth c s₁ B hml hv
  obtain ⟨rfl, hsz, hlo, hP, hK, hDL, hZ⟩ := hv
  have hx := B.exec
  have hb := B.bytes
  have hr := B.returns
  have hts := WS_ts B.pre
  have hown : s.vm.findClass RX5 = some m.cls := findClass_of_methodNamed B.named
  have hlocks := B.notSynchronized
  subst hsz
  have hD := hDL.self (sz := s.heap.size)
  have hAlo := A_lo hDL hlo
  generalize hAe : va_A [(h0, .inr (5, [.ref h1, .ref h2, .ref h3, .ref h4])), (h1, .inl (k 1, 10, .inl (vv n see tm g))), (h2, .inl (k 1, 24, .inl ff)), (h3, .inl (k 1, 24, .inl fp)), (x0, .inr (6, [.ref x1, .int (nI tz), .int (nI ta), .int na, .int fn, .int fb])), (x1, .inl (k 0, 240, .inl fx))] s.heap.size = A at hD hAlo ⊢
  have hA : ∀ q : Nat, s.heap.size ≤ q → A q := fun q h => by rw [← hAe]; exact Or.inr h
  have hS : va_S A s.heap s.heap [] := va_S.rf
  have hl := lv_entry ([.ref h0, .ref x0]) (n := 7) (Nat.le_of_ble_eq_true rfl)
  rw [lg_entry_eq]
  generalize (lg_sl ([.ref h0, .ref x0]) ++ List.replicate (7 - (lg_sl ([.ref h0, .ref x0])).length) Slot.unset).toArray = ls at hl ⊢
  have hl : lv_has ls 7 [(0, .ref h0), (1, .ref x0)] := hl
  refine lv_aload_n hx hb dX5_readDoors_0 rfl (lv_at hl 1 rfl) ?_
  refine va_getsN (A := A) hx hb (hZ.2.2.2.2.1.narrow hAlo) hS hown ((hZ.2.2.2.2.2.2.2.2.1.2.1 (RX5, 106, "LastPlace", "LEAST", "[I", RX7) (List.mem_of_getElem? (i := 1) rfl)).use rfl) (fun _ h9 => h9) dX5_readDoors_1 ?_
  refine lv_iconst (v := 0) hx hb dX5_readDoors_4 (by decide) ?_
  refine va_ti (A := A) hx hb (hZ.2.2.2.2.2.1.narrow hAlo) hS (i := 0) (by unfold vp_in; decide) (v := .int 1) rfl dX5_readDoors_5 ?_
  refine va_getsN (A := A) hx hb (hZ.2.2.1.narrow hAlo) hS hown ((hZ.2.2.2.2.2.2.2.2.1.2.1 (RX5, 109, "LastPlace", "MOST", "[I", RX7) (List.mem_of_getElem? (i := 2) rfl)).use rfl) (fun _ h9 => h9) dX5_readDoors_6 ?_
  refine lv_iconst (v := 0) hx hb dX5_readDoors_9 (by decide) ?_
  refine va_ti (A := A) hx hb (hZ.2.2.2.1.narrow hAlo) hS (i := 0) (by unfold vp_in; decide) (v := .int 24) rfl dX5_readDoors_10 ?_
  refine rw_i (D := D) (wr := [(h0, .inr (5, [.ref h1, .ref h2, .ref h3, .ref h4])), (h1, .inl (k 1, 10, .inl (vv n see tm g))), (h2, .inl (k 1, 24, .inl ff)), (h3, .inl (k 1, 24, .inl fp))]) (va_runV (As := [.int 1, .int 24]) (rest := []) ⟨hx, hb, hml, hown, hts⟩ ((x_needNumber l D k st lo x0 x1 tz ta na fn fb fx 1 24 (by omega) (by omega) (by decide)) s.heap.size) (cwV 2 hts (gV tw_467 tw_468 tw_469 tw_80 tw_470) rfl rfl rfl (by decide +kernel) ⟨Nat.le_of_ble_eq_true rfl, Nat.le_of_ble_eq_true rfl⟩) (pV hS hAlo hlo hP hK (va_Dlo hD hAlo) hZ [4, 5] (by decide) rfl (ci := 6) (q0 := 0) rfl rfl) rfl rfl hl.1 rfl (lv_room (Nat.le_of_ble_eq_true rfl)) dX5_readDoors_11 ⟨Nat.le_of_ble_eq_true rfl, Nat.le_of_ble_eq_true rfl⟩) hS hA hP hD [4, 5] [0, 1, 2, 3] rfl rfl (by decide) (by decide) (fun r_1 u H locs hw_1 hP hD hS => ?_)
  obtain ⟨ta__1, na__1, fn__1, fb__1⟩ := u
  replace hP : va_P D classes [(h0, .inr (5, [.ref h1, .ref h2, .ref h3, .ref h4])), (h1, .inl (k 1, 10, .inl (vv n see tm g))), (h2, .inl (k 1, 24, .inl ff)), (h3, .inl (k 1, 24, .inl fp)), (x0, .inr (6, [.ref x1, .int (nI tz), .int (nI ta__1), .int na__1, .int fn__1, .int fb__1])), (x1, .inl (k 0, 240, .inl fx))] H := hP
  replace hD : va_D A [(h0, .inr (5, [.ref h1, .ref h2, .ref h3, .ref h4])), (h1, .inl (k 1, 10, .inl (vv n see tm g))), (h2, .inl (k 1, 24, .inl ff)), (h3, .inl (k 1, 24, .inl fp)), (x0, .inr (6, [.ref x1, .int (nI tz), .int (nI ta__1), .int na__1, .int fn__1, .int fb__1])), (x1, .inl (k 0, 240, .inl fx))] := hD
  try dsimp only at hw_1
  obtain ⟨nb_2, hnl_2, hnh_2, rfl⟩ := inB_ofc (a := 1) (b := 24) (by omega) (by omega) hw_1.2.2.1
  refine lv_istore_n (lv' := [(2, .int (nI nb_2)), (0, .ref h0), (1, .ref x0)]) hx hb dX5_readDoors_14 rfl hl (by decide) rfl (fun ls hl => ?_)
  refine lv_aload_n hx hb dX5_readDoors_15 rfl (lv_at hl 1 rfl) ?_
  refine ro_i (D := D) (va_runV (As := []) (rest := []) ⟨hx, hb, hml, hown, hts⟩ ((x_doors l D k st lo h0 h1 h2 h3 h4 n see tm g) H.size) (cwV 0 hts (gV tw_477 tw_478 tw_479 tw_81 tw_480) rfl rfl rfl (by decide +kernel) ⟨Nat.le_of_ble_eq_true rfl, Nat.le_of_ble_eq_true rfl⟩) (pV hS hAlo hlo hP hK (va_Dlo hD hAlo) hZ [0, 1] (by decide) rfl (ci := 5) (q0 := 0) rfl rfl) rfl rfl hl.1 rfl (lv_room (Nat.le_of_ble_eq_true rfl)) dX5_readDoors_16 ⟨Nat.le_of_ble_eq_true rfl, Nat.le_of_ble_eq_true rfl⟩) hS hA hP (fun r_3 H locs hw_3 hP hS => ?_)
  try dsimp only at hw_3
  subst hw_3
  refine lv_istore_n (lv' := [(3, .int (nI n)), (2, .int (nI nb_2)), (0, .ref h0), (1, .ref x0)]) hx hb dX5_readDoors_19 rfl hl (by decide) rfl (fun ls hl => ?_)
  refine lv_aload_n hx hb dX5_readDoors_20 rfl (lv_at hl 3 rfl) ?_
  refine ro_i (D := D) (va_runV (As := []) (rest := []) ⟨hx, hb, hml, hown, hts⟩ ((x_failed l D k st lo x0 x1 tz ta__1 na__1 fn__1 fb__1) H.size) (cwV 0 hts (gV tw_367 tw_368 tw_369 tw_80 tw_370) rfl rfl rfl (by decide +kernel) ⟨Nat.le_of_ble_eq_true rfl, Nat.le_of_ble_eq_true rfl⟩) (pV hS hAlo hlo hP hK (va_Dlo hD hAlo) hZ [4] (by decide) rfl (ci := 6) (q0 := 0) rfl rfl) rfl rfl hl.1 rfl (lv_room (Nat.le_of_ble_eq_true rfl)) dX5_readDoors_21 ⟨Nat.le_of_ble_eq_true rfl, Nat.le_of_ble_eq_true rfl⟩) hS hA hP (fun r_4 H locs hw_4 hP hS => ?_)
  try dsimp only at hw_4
  rcases hw_4 with ⟨rfl, hw_4⟩ | ⟨rfl, rfl⟩
  · refine lv_if_ne (tgt := 44) hx hb dX5_readDoors_24 (by decide) (fun _ => ?_) (fun h => absurd h (by decide))
    refine lv_aload_n hx hb dX5_readDoors_44 rfl (lv_at hl 3 rfl) ?_
    refine va_ldcS hx hb hown (hZ.2.2.2.2.2.2.2.2.2.2 (RX5, 118, "free", 10) (List.mem_of_getElem? (i := 10) rfl)) dX5_readDoors_45 ?_
    refine rw_v (D := D) (wr := [(h0, .inr (5, [.ref h1, .ref h2, .ref h3, .ref h4])), (h1, .inl (k 1, 10, .inl (vv n see tm g))), (h2, .inl (k 1, 24, .inl ff)), (h3, .inl (k 1, 24, .inl fp))]) (va_runV (As := [.ref (st (100 + 10))]) (rest := []) ⟨hx, hb, hml, hown, hts⟩ ((x_needWord l D k st lo x0 x1 tz ta__1 na__1 fn__1 fb__1 fx 10 (by omega) (by omega) (by omega)) H.size) (cwV 1 hts (gV tw_482 tw_483 tw_484 tw_80 tw_485) rfl rfl rfl (by decide +kernel) ⟨Nat.le_of_ble_eq_true rfl, Nat.le_of_ble_eq_true rfl⟩) (pV hS hAlo hlo hP hK (va_Dlo hD hAlo) hZ [4, 5] (by decide) rfl (ci := 6) (q0 := 0) rfl rfl) rfl rfl hl.1 rfl (lv_room (Nat.le_of_ble_eq_true rfl)) dX5_readDoors_47 ⟨Nat.le_of_ble_eq_true rfl, Nat.le_of_ble_eq_true rfl⟩) hS hA hP hD [4, 5] [0, 1, 2, 3] rfl rfl (by decide) (by decide) (fun u H locs hw_5 hP hD hS => ?_)
    obtain ⟨ta__5, fn__5, fb__5⟩ := u
    replace hP : va_P D classes [(h0, .inr (5, [.ref h1, .ref h2, .ref h3, .ref h4])), (h1, .inl (k 1, 10, .inl (vv n see tm g))), (h2, .inl (k 1, 24, .inl ff)), (h3, .inl (k 1, 24, .inl fp)), (x0, .inr (6, [.ref x1, .int (nI tz), .int (nI ta__5), .int na__1, .int fn__5, .int fb__5])), (x1, .inl (k 0, 240, .inl fx))] H := hP
    replace hD : va_D A [(h0, .inr (5, [.ref h1, .ref h2, .ref h3, .ref h4])), (h1, .inl (k 1, 10, .inl (vv n see tm g))), (h2, .inl (k 1, 24, .inl ff)), (h3, .inl (k 1, 24, .inl fp)), (x0, .inr (6, [.ref x1, .int (nI tz), .int (nI ta__5), .int na__1, .int fn__5, .int fb__5])), (x1, .inl (k 0, 240, .inl fx))] := hD
    try dsimp only at hw_5
    have hnz_6 := hw_5.2.2.resolve_left hw_4
    refine lv_aload_n hx hb dX5_readDoors_50 rfl (lv_at hl 3 rfl) ?_
    refine lv_iconst (v := 0) hx hb dX5_readDoors_51 (by decide) ?_
    refine lv_bipush (v := 100) hx hb dX5_readDoors_52 (by decide) ?_
    refine rw_i (D := D) (wr := [(h0, .inr (5, [.ref h1, .ref h2, .ref h3, .ref h4])), (h1, .inl (k 1, 10, .inl (vv n see tm g))), (h2, .inl (k 1, 24, .inl ff)), (h3, .inl (k 1, 24, .inl fp))]) (va_runV (As := [.int 0, .int 100]) (rest := []) ⟨hx, hb, hml, hown, hts⟩ ((x_needNumber l D k st lo x0 x1 tz ta__5 na__1 fn__5 fb__5 fx 0 100 (by omega) (by omega) (by decide)) H.size) (cwV 2 hts (gV tw_467 tw_468 tw_469 tw_80 tw_470) rfl rfl rfl (by decide +kernel) ⟨Nat.le_of_ble_eq_true rfl, Nat.le_of_ble_eq_true rfl⟩) (pV hS hAlo hlo hP hK (va_Dlo hD hAlo) hZ [4, 5] (by decide) rfl (ci := 6) (q0 := 0) rfl rfl) rfl rfl hl.1 rfl (lv_room (Nat.le_of_ble_eq_true rfl)) dX5_readDoors_54 ⟨Nat.le_of_ble_eq_true rfl, Nat.le_of_ble_eq_true rfl⟩) hS hA hP hD [4, 5] [0, 1, 2, 3] rfl rfl (by decide) (by decide) (fun r_7 u H locs hw_7 hP hD hS => ?_)
    obtain ⟨ta__7, na__7, fn__7, fb__7⟩ := u
    replace hP : va_P D classes [(h0, .inr (5, [.ref h1, .ref h2, .ref h3, .ref h4])), (h1, .inl (k 1, 10, .inl (vv n see tm g))), (h2, .inl (k 1, 24, .inl ff)), (h3, .inl (k 1, 24, .inl fp)), (x0, .inr (6, [.ref x1, .int (nI tz), .int (nI ta__7), .int na__7, .int fn__7, .int fb__7])), (x1, .inl (k 0, 240, .inl fx))] H := hP
    replace hD : va_D A [(h0, .inr (5, [.ref h1, .ref h2, .ref h3, .ref h4])), (h1, .inl (k 1, 10, .inl (vv n see tm g))), (h2, .inl (k 1, 24, .inl ff)), (h3, .inl (k 1, 24, .inl fp)), (x0, .inr (6, [.ref x1, .int (nI tz), .int (nI ta__7), .int na__7, .int fn__7, .int fb__7])), (x1, .inl (k 0, 240, .inl fx))] := hD
    try dsimp only at hw_7
    have hnz_8 := hw_7.2.2.2.resolve_left hnz_6
    refine lv_istore (lv' := [(4, .int r_7), (3, .int (nI n)), (2, .int (nI nb_2)), (0, .ref h0), (1, .ref x0)]) hx hb dX5_readDoors_57 hl (by decide) rfl (fun ls hl => ?_)
    refine lv_aload_n hx hb dX5_readDoors_59 rfl (lv_at hl 4 rfl) ?_
    refine va_ldcS hx hb hown (hZ.2.2.2.2.2.2.2.2.2.2 (RX5, 124, "price", 11) (List.mem_of_getElem? (i := 11) rfl)) dX5_readDoors_60 ?_
    refine rw_v (D := D) (wr := [(h0, .inr (5, [.ref h1, .ref h2, .ref h3, .ref h4])), (h1, .inl (k 1, 10, .inl (vv n see tm g))), (h2, .inl (k 1, 24, .inl ff)), (h3, .inl (k 1, 24, .inl fp))]) (va_runV (As := [.ref (st (100 + 11))]) (rest := []) ⟨hx, hb, hml, hown, hts⟩ ((x_needWord l D k st lo x0 x1 tz ta__7 na__7 fn__7 fb__7 fx 11 (by omega) (by omega) (by omega)) H.size) (cwV 1 hts (gV tw_482 tw_483 tw_484 tw_80 tw_485) rfl rfl rfl (by decide +kernel) ⟨Nat.le_of_ble_eq_true rfl, Nat.le_of_ble_eq_true rfl⟩) (pV hS hAlo hlo hP hK (va_Dlo hD hAlo) hZ [4, 5] (by decide) rfl (ci := 6) (q0 := 0) rfl rfl) rfl rfl hl.1 rfl (lv_room (Nat.le_of_ble_eq_true rfl)) dX5_readDoors_62 ⟨Nat.le_of_ble_eq_true rfl, Nat.le_of_ble_eq_true rfl⟩) hS hA hP hD [4, 5] [0, 1, 2, 3] rfl rfl (by decide) (by decide) (fun u H locs hw_9 hP hD hS => ?_)
    obtain ⟨ta__9, fn__9, fb__9⟩ := u
    replace hP : va_P D classes [(h0, .inr (5, [.ref h1, .ref h2, .ref h3, .ref h4])), (h1, .inl (k 1, 10, .inl (vv n see tm g))), (h2, .inl (k 1, 24, .inl ff)), (h3, .inl (k 1, 24, .inl fp)), (x0, .inr (6, [.ref x1, .int (nI tz), .int (nI ta__9), .int na__7, .int fn__9, .int fb__9])), (x1, .inl (k 0, 240, .inl fx))] H := hP
    replace hD : va_D A [(h0, .inr (5, [.ref h1, .ref h2, .ref h3, .ref h4])), (h1, .inl (k 1, 10, .inl (vv n see tm g))), (h2, .inl (k 1, 24, .inl ff)), (h3, .inl (k 1, 24, .inl fp)), (x0, .inr (6, [.ref x1, .int (nI tz), .int (nI ta__9), .int na__7, .int fn__9, .int fb__9])), (x1, .inl (k 0, 240, .inl fx))] := hD
    try dsimp only at hw_9
    have hnz_10 := hw_9.2.2.resolve_left hnz_8
    refine lv_aload_n hx hb dX5_readDoors_65 rfl (lv_at hl 4 rfl) ?_
    refine lv_iconst (v := 0) hx hb dX5_readDoors_66 (by decide) ?_
    refine lv_sipush (v := 999) hx hb dX5_readDoors_67 (by decide) ?_
    refine rw_i (D := D) (wr := [(h0, .inr (5, [.ref h1, .ref h2, .ref h3, .ref h4])), (h1, .inl (k 1, 10, .inl (vv n see tm g))), (h2, .inl (k 1, 24, .inl ff)), (h3, .inl (k 1, 24, .inl fp))]) (va_runV (As := [.int 0, .int 999]) (rest := []) ⟨hx, hb, hml, hown, hts⟩ ((x_needNumber l D k st lo x0 x1 tz ta__9 na__7 fn__9 fb__9 fx 0 999 (by omega) (by omega) (by decide)) H.size) (cwV 2 hts (gV tw_467 tw_468 tw_469 tw_80 tw_470) rfl rfl rfl (by decide +kernel) ⟨Nat.le_of_ble_eq_true rfl, Nat.le_of_ble_eq_true rfl⟩) (pV hS hAlo hlo hP hK (va_Dlo hD hAlo) hZ [4, 5] (by decide) rfl (ci := 6) (q0 := 0) rfl rfl) rfl rfl hl.1 rfl (lv_room (Nat.le_of_ble_eq_true rfl)) dX5_readDoors_70 ⟨Nat.le_of_ble_eq_true rfl, Nat.le_of_ble_eq_true rfl⟩) hS hA hP hD [4, 5] [0, 1, 2, 3] rfl rfl (by decide) (by decide) (fun r_11 u H locs hw_11 hP hD hS => ?_)
    obtain ⟨ta__11, na__11, fn__11, fb__11⟩ := u
    replace hP : va_P D classes [(h0, .inr (5, [.ref h1, .ref h2, .ref h3, .ref h4])), (h1, .inl (k 1, 10, .inl (vv n see tm g))), (h2, .inl (k 1, 24, .inl ff)), (h3, .inl (k 1, 24, .inl fp)), (x0, .inr (6, [.ref x1, .int (nI tz), .int (nI ta__11), .int na__11, .int fn__11, .int fb__11])), (x1, .inl (k 0, 240, .inl fx))] H := hP
    replace hD : va_D A [(h0, .inr (5, [.ref h1, .ref h2, .ref h3, .ref h4])), (h1, .inl (k 1, 10, .inl (vv n see tm g))), (h2, .inl (k 1, 24, .inl ff)), (h3, .inl (k 1, 24, .inl fp)), (x0, .inr (6, [.ref x1, .int (nI tz), .int (nI ta__11), .int na__11, .int fn__11, .int fb__11])), (x1, .inl (k 0, 240, .inl fx))] := hD
    try dsimp only at hw_11
    have hnz_12 := hw_11.2.2.2.resolve_left hnz_10
    refine lv_istore (lv' := [(5, .int r_11), (4, .int r_7), (3, .int (nI n)), (2, .int (nI nb_2)), (0, .ref h0), (1, .ref x0)]) hx hb dX5_readDoors_73 hl (by decide) rfl (fun ls hl => ?_)
    refine lv_aload_n hx hb dX5_readDoors_75 rfl (lv_at hl 5 rfl) ?_
    refine rw_v (D := D) (wr := [(h0, .inr (5, [.ref h1, .ref h2, .ref h3, .ref h4])), (h1, .inl (k 1, 10, .inl (vv n see tm g))), (h2, .inl (k 1, 24, .inl ff)), (h3, .inl (k 1, 24, .inl fp))]) (va_runV (As := []) (rest := []) ⟨hx, hb, hml, hown, hts⟩ ((x_needSemicolon l D k st lo x0 x1 tz ta__11 na__11 fn__11 fb__11 fx (by omega) (by omega)) H.size) (cwV 0 hts (gV tw_488 tw_489 tw_490 tw_80 tw_491) rfl rfl rfl (by decide +kernel) ⟨Nat.le_of_ble_eq_true rfl, Nat.le_of_ble_eq_true rfl⟩) (pV hS hAlo hlo hP hK (va_Dlo hD hAlo) hZ [4, 5] (by decide) rfl (ci := 6) (q0 := 0) rfl rfl) rfl rfl hl.1 rfl (lv_room (Nat.le_of_ble_eq_true rfl)) dX5_readDoors_76 ⟨Nat.le_of_ble_eq_true rfl, Nat.le_of_ble_eq_true rfl⟩) hS hA hP hD [4, 5] [0, 1, 2, 3] rfl rfl (by decide) (by decide) (fun u H locs hw_13 hP hD hS => ?_)
    obtain ⟨ta__13, fn__13, fb__13⟩ := u
    replace hP : va_P D classes [(h0, .inr (5, [.ref h1, .ref h2, .ref h3, .ref h4])), (h1, .inl (k 1, 10, .inl (vv n see tm g))), (h2, .inl (k 1, 24, .inl ff)), (h3, .inl (k 1, 24, .inl fp)), (x0, .inr (6, [.ref x1, .int (nI tz), .int (nI ta__13), .int na__11, .int fn__13, .int fb__13])), (x1, .inl (k 0, 240, .inl fx))] H := hP
    replace hD : va_D A [(h0, .inr (5, [.ref h1, .ref h2, .ref h3, .ref h4])), (h1, .inl (k 1, 10, .inl (vv n see tm g))), (h2, .inl (k 1, 24, .inl ff)), (h3, .inl (k 1, 24, .inl fp)), (x0, .inr (6, [.ref x1, .int (nI tz), .int (nI ta__13), .int na__11, .int fn__13, .int fb__13])), (x1, .inl (k 0, 240, .inl fx))] := hD
    try dsimp only at hw_13
    have hnz_14 := hw_13.2.2.resolve_left hnz_12
    refine lv_aload_n hx hb dX5_readDoors_79 rfl (lv_at hl 5 rfl) ?_
    refine ro_i (D := D) (va_runV (As := []) (rest := []) ⟨hx, hb, hml, hown, hts⟩ ((x_failed l D k st lo x0 x1 tz ta__13 na__11 fn__13 fb__13) H.size) (cwV 0 hts (gV tw_367 tw_368 tw_369 tw_80 tw_370) rfl rfl rfl (by decide +kernel) ⟨Nat.le_of_ble_eq_true rfl, Nat.le_of_ble_eq_true rfl⟩) (pV hS hAlo hlo hP hK (va_Dlo hD hAlo) hZ [4] (by decide) rfl (ci := 6) (q0 := 0) rfl rfl) rfl rfl hl.1 rfl (lv_room (Nat.le_of_ble_eq_true rfl)) dX5_readDoors_80 ⟨Nat.le_of_ble_eq_true rfl, Nat.le_of_ble_eq_true rfl⟩) hS hA hP (fun r_15 H locs hw_15 hP hS => ?_)
    try dsimp only at hw_15
    obtain rfl : r_15 = 1 := by rcases hw_15 with ⟨h, h2⟩ | ⟨h, h2⟩ <;> first | exact h | exact absurd h2 hnz_14
    refine lv_if_eq (tgt := 87) hx hb dX5_readDoors_83 (by decide) (fun h => absurd h (by decide)) (fun _ => ?_)
    have hP9 := hP.sub (ws' := [(h0, .inr (5, [.ref h1, .ref h2, .ref h3, .ref h4])), (h1, .inl (k 1, 10, .inl (vv n see tm g))), (h2, .inl (k 1, 24, .inl ff)), (h3, .inl (k 1, 24, .inl fp)), (x0, .inr (6, [.ref x1, .int (nI tz), .int (nI ta__13), .int na__11, .int fn__13, .int fb__13])), (x1, .inl (k 0, 240, .inl fx))]) [0, 1, 2, 3, 4, 5] rfl
    have hD9 := hD.sub (ws' := [(h0, .inr (5, [.ref h1, .ref h2, .ref h3, .ref h4])), (h1, .inl (k 1, 10, .inl (vv n see tm g))), (h2, .inl (k 1, 24, .inl ff)), (h3, .inl (k 1, 24, .inl fp)), (x0, .inr (6, [.ref x1, .int (nI tz), .int (nI ta__13), .int na__11, .int fn__13, .int fb__13])), (x1, .inl (k 0, 240, .inl fx))]) [0, 1, 2, 3, 4, 5] (by decide) rfl
    exact W.vret hx hb hr (fun t ht hW => ⟨⟨(n, ff, fp, ta__13, na__11, fn__13, fb__13), rfl, ⟨by omega, by omega, by omega⟩, by rw [ht]; exact hP9, hD9⟩, hS.F ht⟩) hS.2.2 dX5_readDoors_86
  · refine lv_if_ne (tgt := 44) hx hb dX5_readDoors_24 (by decide) (fun h => absurd (by decide) h) (fun _ => ?_)
    refine lv_iload_n hx hb dX5_readDoors_27 rfl (lv_at hl 0 rfl) ?_
    refine lv_iload_n hx hb dX5_readDoors_28 rfl (lv_at hl 1 rfl) ?_
    refine lv_iadd hx hb dX5_readDoors_29 ?_
    refine lv_ti (y := (nI (n + nb_2))) (nI_add n nb_2) ?_
    refine lv_bipush (v := 24) hx hb dX5_readDoors_30 (by decide) ?_
    refine lv_icmp_le (tgt := 44) hx hb dX5_readDoors_32 (by decide) (fun c_16 => ?_) (fun c_16 => ?_)
    · have c_16 := (nI_leI (a := (n + nb_2)) (b := 24) (by omega) (by omega)).mp c_16
      refine lv_aload_n hx hb dX5_readDoors_44 rfl (lv_at hl 3 rfl) ?_
      refine va_ldcS hx hb hown (hZ.2.2.2.2.2.2.2.2.2.2 (RX5, 118, "free", 10) (List.mem_of_getElem? (i := 10) rfl)) dX5_readDoors_45 ?_
      refine rw_v (D := D) (wr := [(h0, .inr (5, [.ref h1, .ref h2, .ref h3, .ref h4])), (h1, .inl (k 1, 10, .inl (vv n see tm g))), (h2, .inl (k 1, 24, .inl ff)), (h3, .inl (k 1, 24, .inl fp))]) (va_runV (As := [.ref (st (100 + 10))]) (rest := []) ⟨hx, hb, hml, hown, hts⟩ ((x_needWord l D k st lo x0 x1 tz ta__1 na__1 0 fb__1 fx 10 (by omega) (by omega) (by omega)) H.size) (cwV 1 hts (gV tw_482 tw_483 tw_484 tw_80 tw_485) rfl rfl rfl (by decide +kernel) ⟨Nat.le_of_ble_eq_true rfl, Nat.le_of_ble_eq_true rfl⟩) (pV hS hAlo hlo hP hK (va_Dlo hD hAlo) hZ [4, 5] (by decide) rfl (ci := 6) (q0 := 0) rfl rfl) rfl rfl hl.1 rfl (lv_room (Nat.le_of_ble_eq_true rfl)) dX5_readDoors_47 ⟨Nat.le_of_ble_eq_true rfl, Nat.le_of_ble_eq_true rfl⟩) hS hA hP hD [4, 5] [0, 1, 2, 3] rfl rfl (by decide) (by decide) (fun u H locs hw_17 hP hD hS => ?_)
      obtain ⟨ta__17, fn__17, fb__17⟩ := u
      replace hP : va_P D classes [(h0, .inr (5, [.ref h1, .ref h2, .ref h3, .ref h4])), (h1, .inl (k 1, 10, .inl (vv n see tm g))), (h2, .inl (k 1, 24, .inl ff)), (h3, .inl (k 1, 24, .inl fp)), (x0, .inr (6, [.ref x1, .int (nI tz), .int (nI ta__17), .int na__1, .int fn__17, .int fb__17])), (x1, .inl (k 0, 240, .inl fx))] H := hP
      replace hD : va_D A [(h0, .inr (5, [.ref h1, .ref h2, .ref h3, .ref h4])), (h1, .inl (k 1, 10, .inl (vv n see tm g))), (h2, .inl (k 1, 24, .inl ff)), (h3, .inl (k 1, 24, .inl fp)), (x0, .inr (6, [.ref x1, .int (nI tz), .int (nI ta__17), .int na__1, .int fn__17, .int fb__17])), (x1, .inl (k 0, 240, .inl fx))] := hD
      try dsimp only at hw_17
      refine lv_aload_n hx hb dX5_readDoors_50 rfl (lv_at hl 3 rfl) ?_
      refine lv_iconst (v := 0) hx hb dX5_readDoors_51 (by decide) ?_
      refine lv_bipush (v := 100) hx hb dX5_readDoors_52 (by decide) ?_
      refine rw_i (D := D) (wr := [(h0, .inr (5, [.ref h1, .ref h2, .ref h3, .ref h4])), (h1, .inl (k 1, 10, .inl (vv n see tm g))), (h2, .inl (k 1, 24, .inl ff)), (h3, .inl (k 1, 24, .inl fp))]) (va_runV (As := [.int 0, .int 100]) (rest := []) ⟨hx, hb, hml, hown, hts⟩ ((x_needNumber l D k st lo x0 x1 tz ta__17 na__1 fn__17 fb__17 fx 0 100 (by omega) (by omega) (by decide)) H.size) (cwV 2 hts (gV tw_467 tw_468 tw_469 tw_80 tw_470) rfl rfl rfl (by decide +kernel) ⟨Nat.le_of_ble_eq_true rfl, Nat.le_of_ble_eq_true rfl⟩) (pV hS hAlo hlo hP hK (va_Dlo hD hAlo) hZ [4, 5] (by decide) rfl (ci := 6) (q0 := 0) rfl rfl) rfl rfl hl.1 rfl (lv_room (Nat.le_of_ble_eq_true rfl)) dX5_readDoors_54 ⟨Nat.le_of_ble_eq_true rfl, Nat.le_of_ble_eq_true rfl⟩) hS hA hP hD [4, 5] [0, 1, 2, 3] rfl rfl (by decide) (by decide) (fun r_18 u H locs hw_18 hP hD hS => ?_)
      obtain ⟨ta__18, na__18, fn__18, fb__18⟩ := u
      replace hP : va_P D classes [(h0, .inr (5, [.ref h1, .ref h2, .ref h3, .ref h4])), (h1, .inl (k 1, 10, .inl (vv n see tm g))), (h2, .inl (k 1, 24, .inl ff)), (h3, .inl (k 1, 24, .inl fp)), (x0, .inr (6, [.ref x1, .int (nI tz), .int (nI ta__18), .int na__18, .int fn__18, .int fb__18])), (x1, .inl (k 0, 240, .inl fx))] H := hP
      replace hD : va_D A [(h0, .inr (5, [.ref h1, .ref h2, .ref h3, .ref h4])), (h1, .inl (k 1, 10, .inl (vv n see tm g))), (h2, .inl (k 1, 24, .inl ff)), (h3, .inl (k 1, 24, .inl fp)), (x0, .inr (6, [.ref x1, .int (nI tz), .int (nI ta__18), .int na__18, .int fn__18, .int fb__18])), (x1, .inl (k 0, 240, .inl fx))] := hD
      try dsimp only at hw_18
      refine lv_istore (lv' := [(4, .int r_18), (3, .int (nI n)), (2, .int (nI nb_2)), (0, .ref h0), (1, .ref x0)]) hx hb dX5_readDoors_57 hl (by decide) rfl (fun ls hl => ?_)
      refine lv_aload_n hx hb dX5_readDoors_59 rfl (lv_at hl 4 rfl) ?_
      refine va_ldcS hx hb hown (hZ.2.2.2.2.2.2.2.2.2.2 (RX5, 124, "price", 11) (List.mem_of_getElem? (i := 11) rfl)) dX5_readDoors_60 ?_
      refine rw_v (D := D) (wr := [(h0, .inr (5, [.ref h1, .ref h2, .ref h3, .ref h4])), (h1, .inl (k 1, 10, .inl (vv n see tm g))), (h2, .inl (k 1, 24, .inl ff)), (h3, .inl (k 1, 24, .inl fp))]) (va_runV (As := [.ref (st (100 + 11))]) (rest := []) ⟨hx, hb, hml, hown, hts⟩ ((x_needWord l D k st lo x0 x1 tz ta__18 na__18 fn__18 fb__18 fx 11 (by omega) (by omega) (by omega)) H.size) (cwV 1 hts (gV tw_482 tw_483 tw_484 tw_80 tw_485) rfl rfl rfl (by decide +kernel) ⟨Nat.le_of_ble_eq_true rfl, Nat.le_of_ble_eq_true rfl⟩) (pV hS hAlo hlo hP hK (va_Dlo hD hAlo) hZ [4, 5] (by decide) rfl (ci := 6) (q0 := 0) rfl rfl) rfl rfl hl.1 rfl (lv_room (Nat.le_of_ble_eq_true rfl)) dX5_readDoors_62 ⟨Nat.le_of_ble_eq_true rfl, Nat.le_of_ble_eq_true rfl⟩) hS hA hP hD [4, 5] [0, 1, 2, 3] rfl rfl (by decide) (by decide) (fun u H locs hw_19 hP hD hS => ?_)
      obtain ⟨ta__19, fn__19, fb__19⟩ := u
      replace hP : va_P D classes [(h0, .inr (5, [.ref h1, .ref h2, .ref h3, .ref h4])), (h1, .inl (k 1, 10, .inl (vv n see tm g))), (h2, .inl (k 1, 24, .inl ff)), (h3, .inl (k 1, 24, .inl fp)), (x0, .inr (6, [.ref x1, .int (nI tz), .int (nI ta__19), .int na__18, .int fn__19, .int fb__19])), (x1, .inl (k 0, 240, .inl fx))] H := hP
      replace hD : va_D A [(h0, .inr (5, [.ref h1, .ref h2, .ref h3, .ref h4])), (h1, .inl (k 1, 10, .inl (vv n see tm g))), (h2, .inl (k 1, 24, .inl ff)), (h3, .inl (k 1, 24, .inl fp)), (x0, .inr (6, [.ref x1, .int (nI tz), .int (nI ta__19), .int na__18, .int fn__19, .int fb__19])), (x1, .inl (k 0, 240, .inl fx))] := hD
      try dsimp only at hw_19
      refine lv_aload_n hx hb dX5_readDoors_65 rfl (lv_at hl 4 rfl) ?_
      refine lv_iconst (v := 0) hx hb dX5_readDoors_66 (by decide) ?_
      refine lv_sipush (v := 999) hx hb dX5_readDoors_67 (by decide) ?_
      refine rw_i (D := D) (wr := [(h0, .inr (5, [.ref h1, .ref h2, .ref h3, .ref h4])), (h1, .inl (k 1, 10, .inl (vv n see tm g))), (h2, .inl (k 1, 24, .inl ff)), (h3, .inl (k 1, 24, .inl fp))]) (va_runV (As := [.int 0, .int 999]) (rest := []) ⟨hx, hb, hml, hown, hts⟩ ((x_needNumber l D k st lo x0 x1 tz ta__19 na__18 fn__19 fb__19 fx 0 999 (by omega) (by omega) (by decide)) H.size) (cwV 2 hts (gV tw_467 tw_468 tw_469 tw_80 tw_470) rfl rfl rfl (by decide +kernel) ⟨Nat.le_of_ble_eq_true rfl, Nat.le_of_ble_eq_true rfl⟩) (pV hS hAlo hlo hP hK (va_Dlo hD hAlo) hZ [4, 5] (by decide) rfl (ci := 6) (q0 := 0) rfl rfl) rfl rfl hl.1 rfl (lv_room (Nat.le_of_ble_eq_true rfl)) dX5_readDoors_70 ⟨Nat.le_of_ble_eq_true rfl, Nat.le_of_ble_eq_true rfl⟩) hS hA hP hD [4, 5] [0, 1, 2, 3] rfl rfl (by decide) (by decide) (fun r_20 u H locs hw_20 hP hD hS => ?_)
      obtain ⟨ta__20, na__20, fn__20, fb__20⟩ := u
      replace hP : va_P D classes [(h0, .inr (5, [.ref h1, .ref h2, .ref h3, .ref h4])), (h1, .inl (k 1, 10, .inl (vv n see tm g))), (h2, .inl (k 1, 24, .inl ff)), (h3, .inl (k 1, 24, .inl fp)), (x0, .inr (6, [.ref x1, .int (nI tz), .int (nI ta__20), .int na__20, .int fn__20, .int fb__20])), (x1, .inl (k 0, 240, .inl fx))] H := hP
      replace hD : va_D A [(h0, .inr (5, [.ref h1, .ref h2, .ref h3, .ref h4])), (h1, .inl (k 1, 10, .inl (vv n see tm g))), (h2, .inl (k 1, 24, .inl ff)), (h3, .inl (k 1, 24, .inl fp)), (x0, .inr (6, [.ref x1, .int (nI tz), .int (nI ta__20), .int na__20, .int fn__20, .int fb__20])), (x1, .inl (k 0, 240, .inl fx))] := hD
      try dsimp only at hw_20
      refine lv_istore (lv' := [(5, .int r_20), (4, .int r_18), (3, .int (nI n)), (2, .int (nI nb_2)), (0, .ref h0), (1, .ref x0)]) hx hb dX5_readDoors_73 hl (by decide) rfl (fun ls hl => ?_)
      refine lv_aload_n hx hb dX5_readDoors_75 rfl (lv_at hl 5 rfl) ?_
      refine rw_v (D := D) (wr := [(h0, .inr (5, [.ref h1, .ref h2, .ref h3, .ref h4])), (h1, .inl (k 1, 10, .inl (vv n see tm g))), (h2, .inl (k 1, 24, .inl ff)), (h3, .inl (k 1, 24, .inl fp))]) (va_runV (As := []) (rest := []) ⟨hx, hb, hml, hown, hts⟩ ((x_needSemicolon l D k st lo x0 x1 tz ta__20 na__20 fn__20 fb__20 fx (by omega) (by omega)) H.size) (cwV 0 hts (gV tw_488 tw_489 tw_490 tw_80 tw_491) rfl rfl rfl (by decide +kernel) ⟨Nat.le_of_ble_eq_true rfl, Nat.le_of_ble_eq_true rfl⟩) (pV hS hAlo hlo hP hK (va_Dlo hD hAlo) hZ [4, 5] (by decide) rfl (ci := 6) (q0 := 0) rfl rfl) rfl rfl hl.1 rfl (lv_room (Nat.le_of_ble_eq_true rfl)) dX5_readDoors_76 ⟨Nat.le_of_ble_eq_true rfl, Nat.le_of_ble_eq_true rfl⟩) hS hA hP hD [4, 5] [0, 1, 2, 3] rfl rfl (by decide) (by decide) (fun u H locs hw_21 hP hD hS => ?_)
      obtain ⟨ta__21, fn__21, fb__21⟩ := u
      replace hP : va_P D classes [(h0, .inr (5, [.ref h1, .ref h2, .ref h3, .ref h4])), (h1, .inl (k 1, 10, .inl (vv n see tm g))), (h2, .inl (k 1, 24, .inl ff)), (h3, .inl (k 1, 24, .inl fp)), (x0, .inr (6, [.ref x1, .int (nI tz), .int (nI ta__21), .int na__20, .int fn__21, .int fb__21])), (x1, .inl (k 0, 240, .inl fx))] H := hP
      replace hD : va_D A [(h0, .inr (5, [.ref h1, .ref h2, .ref h3, .ref h4])), (h1, .inl (k 1, 10, .inl (vv n see tm g))), (h2, .inl (k 1, 24, .inl ff)), (h3, .inl (k 1, 24, .inl fp)), (x0, .inr (6, [.ref x1, .int (nI tz), .int (nI ta__21), .int na__20, .int fn__21, .int fb__21])), (x1, .inl (k 0, 240, .inl fx))] := hD
      try dsimp only at hw_21
      refine lv_aload_n hx hb dX5_readDoors_79 rfl (lv_at hl 5 rfl) ?_
      refine ro_i (D := D) (va_runV (As := []) (rest := []) ⟨hx, hb, hml, hown, hts⟩ ((x_failed l D k st lo x0 x1 tz ta__21 na__20 fn__21 fb__21) H.size) (cwV 0 hts (gV tw_367 tw_368 tw_369 tw_80 tw_370) rfl rfl rfl (by decide +kernel) ⟨Nat.le_of_ble_eq_true rfl, Nat.le_of_ble_eq_true rfl⟩) (pV hS hAlo hlo hP hK (va_Dlo hD hAlo) hZ [4] (by decide) rfl (ci := 6) (q0 := 0) rfl rfl) rfl rfl hl.1 rfl (lv_room (Nat.le_of_ble_eq_true rfl)) dX5_readDoors_80 ⟨Nat.le_of_ble_eq_true rfl, Nat.le_of_ble_eq_true rfl⟩) hS hA hP (fun r_22 H locs hw_22 hP hS => ?_)
      try dsimp only at hw_22
      rcases hw_22 with ⟨rfl, hw_22⟩ | ⟨rfl, rfl⟩
      · refine lv_if_eq (tgt := 87) hx hb dX5_readDoors_83 (by decide) (fun h => absurd h (by decide)) (fun _ => ?_)
        have hP9 := hP.sub (ws' := [(h0, .inr (5, [.ref h1, .ref h2, .ref h3, .ref h4])), (h1, .inl (k 1, 10, .inl (vv n see tm g))), (h2, .inl (k 1, 24, .inl ff)), (h3, .inl (k 1, 24, .inl fp)), (x0, .inr (6, [.ref x1, .int (nI tz), .int (nI ta__21), .int na__20, .int fn__21, .int fb__21])), (x1, .inl (k 0, 240, .inl fx))]) [0, 1, 2, 3, 4, 5] rfl
        have hD9 := hD.sub (ws' := [(h0, .inr (5, [.ref h1, .ref h2, .ref h3, .ref h4])), (h1, .inl (k 1, 10, .inl (vv n see tm g))), (h2, .inl (k 1, 24, .inl ff)), (h3, .inl (k 1, 24, .inl fp)), (x0, .inr (6, [.ref x1, .int (nI tz), .int (nI ta__21), .int na__20, .int fn__21, .int fb__21])), (x1, .inl (k 0, 240, .inl fx))]) [0, 1, 2, 3, 4, 5] (by decide) rfl
        exact W.vret hx hb hr (fun t ht hW => ⟨⟨(n, ff, fp, ta__21, na__20, fn__21, fb__21), rfl, ⟨by omega, by omega, by omega⟩, by rw [ht]; exact hP9, hD9⟩, hS.F ht⟩) hS.2.2 dX5_readDoors_86
      · refine lv_if_eq (tgt := 87) hx hb dX5_readDoors_83 (by decide) (fun _ => ?_) (fun h => absurd (by decide) h)
        refine lv_iload_n hx hb dX5_readDoors_87 rfl (lv_at hl 2 rfl) ?_
        refine lv_istore (lv' := [(6, .int (nI n)), (5, .int r_20), (4, .int r_18), (3, .int (nI n)), (2, .int (nI nb_2)), (0, .ref h0), (1, .ref x0)]) hx hb dX5_readDoors_88 hl (by decide) rfl (fun ls hl => ?_)
        refine W_loop (σ := Nat × (Nat → Int32) × (Nat → Int32)) (fun (n_ : Nat) (x_ : Nat × (Nat → Int32) × (Nat → Int32)) (H : Heap) (locs : List Loc) (ls : Array Slot) => match x_ with | (ii_23, ff2_23, fp2_23) => n_ = 25 - ii_23 ∧ (ii_23 ≤ 24) ∧ va_P D classes [(h0, .inr (5, [.ref h1, .ref h2, .ref h3, .ref h4])), (h1, .inl (k 1, 10, .inl (vv n see tm g))), (h2, .inl (k 1, 24, .inl ff2_23)), (h3, .inl (k 1, 24, .inl fp2_23)), (x0, .inr (6, [.ref x1, .int (nI tz), .int (nI ta__21), .int na__20, .int 0, .int fb__21])), (x1, .inl (k 0, 240, .inl fx))] H ∧ va_D A [(h0, .inr (5, [.ref h1, .ref h2, .ref h3, .ref h4])), (h1, .inl (k 1, 10, .inl (vv n see tm g))), (h2, .inl (k 1, 24, .inl ff2_23)), (h3, .inl (k 1, 24, .inl fp2_23)), (x0, .inr (6, [.ref x1, .int (nI tz), .int (nI ta__21), .int na__20, .int 0, .int fb__21])), (x1, .inl (k 0, 240, .inl fx))] ∧ va_S A s.heap H locs ∧ lv_has ls 7 [(6, .int (nI ii_23)), (5, .int r_20), (4, .int r_18), (3, .int (nI n)), (2, .int (nI nb_2)), (0, .ref h0), (1, .ref x0)]) (fun n_23 x_23 H locs ls hI ih_23 => ?_) _ (n, ff, fp) ⟨rfl, (by omega), hP, hD, hS, (lv_sub hl [0, 1, 2, 3, 4, 5, 6] rfl)⟩
        obtain ⟨ii_23, ff2_23, fp2_23⟩ := x_23
        obtain ⟨hm_23, hv_23, hP, hD, hS, hl⟩ := hI
        subst hm_23
        refine lv_iload hx hb dX5_readDoors_90 (lv_at hl 0 rfl) ?_
        refine lv_iload_n hx hb dX5_readDoors_92 rfl (lv_at hl 3 rfl) ?_
        refine lv_iload_n hx hb dX5_readDoors_93 rfl (lv_at hl 4 rfl) ?_
        refine lv_iadd hx hb dX5_readDoors_94 ?_
        refine lv_ti (y := (nI (n + nb_2))) (nI_add n nb_2) ?_
        refine lv_icmp_ge (tgt := 129) hx hb dX5_readDoors_95 (by decide) (fun c_24 => ?_) (fun c_24 => ?_)
        · have c_24 := (nI_leI (a := (n + nb_2)) (b := ii_23) (by omega) (by omega)).mp c_24
          refine lv_aload_n hx hb dX5_readDoors_129 rfl (lv_at hl 5 rfl) ?_
          refine va_get (D := D) (ci := 5) (v := .ref h1) (C := RX5) (T := TX5) (N := 4) hx hb hts inX5 hown hK hP 0 rfl rfl 0 (by decide) (hts _ tw_146) (fun _ h9 => h9) rfl dX5_readDoors_130 ?_
          refine lv_iconst (v := 0) hx hb dX5_readDoors_133 (by decide) ?_
          refine lv_iload_n hx hb dX5_readDoors_134 rfl (lv_at hl 3 rfl) ?_
          refine lv_iload_n hx hb dX5_readDoors_135 rfl (lv_at hl 4 rfl) ?_
          refine lv_iadd hx hb dX5_readDoors_136 ?_
          refine lv_ti (y := (nI (n + nb_2))) (nI_add n nb_2) ?_
          refine va_iast hx hb hK hP hD hS 1 1 rfl rfl (by unfold vp_in; decide) dX5_readDoors_137 (fun H locs hP hD hS => ?_)
          replace hP : va_P D classes [(h0, .inr (5, [.ref h1, .ref h2, .ref h3, .ref h4])), (h1, .inl (k 1, 10, .inl (upd (vv n see tm g) (Int32.toNatClampNeg 0) (nI (n + nb_2))))), (h2, .inl (k 1, 24, .inl ff2_23)), (h3, .inl (k 1, 24, .inl fp2_23)), (x0, .inr (6, [.ref x1, .int (nI tz), .int (nI ta__21), .int na__20, .int 0, .int fb__21])), (x1, .inl (k 0, 240, .inl fx))] H := hP
          replace hD : va_D A [(h0, .inr (5, [.ref h1, .ref h2, .ref h3, .ref h4])), (h1, .inl (k 1, 10, .inl (upd (vv n see tm g) (Int32.toNatClampNeg 0) (nI (n + nb_2))))), (h2, .inl (k 1, 24, .inl ff2_23)), (h3, .inl (k 1, 24, .inl fp2_23)), (x0, .inr (6, [.ref x1, .int (nI tz), .int (nI ta__21), .int na__20, .int 0, .int fb__21])), (x1, .inl (k 0, 240, .inl fx))] := hD
          rw [show upd (vv n see tm g) (Int32.toNatClampNeg 0) (nI (n + nb_2)) = vv (n + nb_2) see tm g from vv_upd0 _ _ _ _ _] at hP hD
          replace hP : va_P D classes [(h0, .inr (5, [.ref h1, .ref h2, .ref h3, .ref h4])), (h1, .inl (k 1, 10, .inl (vv (n + nb_2) see tm g))), (h2, .inl (k 1, 24, .inl ff2_23)), (h3, .inl (k 1, 24, .inl fp2_23)), (x0, .inr (6, [.ref x1, .int (nI tz), .int (nI ta__21), .int na__20, .int 0, .int fb__21])), (x1, .inl (k 0, 240, .inl fx))] H := hP
          replace hD : va_D A [(h0, .inr (5, [.ref h1, .ref h2, .ref h3, .ref h4])), (h1, .inl (k 1, 10, .inl (vv (n + nb_2) see tm g))), (h2, .inl (k 1, 24, .inl ff2_23)), (h3, .inl (k 1, 24, .inl fp2_23)), (x0, .inr (6, [.ref x1, .int (nI tz), .int (nI ta__21), .int na__20, .int 0, .int fb__21])), (x1, .inl (k 0, 240, .inl fx))] := hD
          have hP9 := hP.sub (ws' := [(h0, .inr (5, [.ref h1, .ref h2, .ref h3, .ref h4])), (h1, .inl (k 1, 10, .inl (vv (n + nb_2) see tm g))), (h2, .inl (k 1, 24, .inl ff2_23)), (h3, .inl (k 1, 24, .inl fp2_23)), (x0, .inr (6, [.ref x1, .int (nI tz), .int (nI ta__21), .int na__20, .int 0, .int fb__21])), (x1, .inl (k 0, 240, .inl fx))]) [0, 1, 2, 3, 4, 5] rfl
          have hD9 := hD.sub (ws' := [(h0, .inr (5, [.ref h1, .ref h2, .ref h3, .ref h4])), (h1, .inl (k 1, 10, .inl (vv (n + nb_2) see tm g))), (h2, .inl (k 1, 24, .inl ff2_23)), (h3, .inl (k 1, 24, .inl fp2_23)), (x0, .inr (6, [.ref x1, .int (nI tz), .int (nI ta__21), .int na__20, .int 0, .int fb__21])), (x1, .inl (k 0, 240, .inl fx))]) [0, 1, 2, 3, 4, 5] (by decide) rfl
          exact W.vret hx hb hr (fun t ht hW => ⟨⟨((n + nb_2), ff2_23, fp2_23, ta__21, na__20, 0, fb__21), rfl, ⟨by omega, by omega, by omega⟩, by rw [ht]; exact hP9, hD9⟩, hS.F ht⟩) hS.2.2 dX5_readDoors_138
        · have c_24 : ¬ ((n + nb_2) ≤ ii_23) := fun h => c_24 ((nI_leI (a := (n + nb_2)) (b := ii_23) (by omega) (by omega)).mpr h)
          refine lv_iload hx hb dX5_readDoors_98 (lv_at hl 0 rfl) ?_
          refine lv_bipush (v := 24) hx hb dX5_readDoors_100 (by decide) ?_
          refine lv_icmp_ge (tgt := 129) hx hb dX5_readDoors_102 (by decide) (fun c_27 => ?_) (fun c_27 => ?_)
          · have c_27 := (nI_leI (a := 24) (b := ii_23) (by omega) (by omega)).mp c_27
            refine lv_aload_n hx hb dX5_readDoors_129 rfl (lv_at hl 5 rfl) ?_
            refine va_get (D := D) (ci := 5) (v := .ref h1) (C := RX5) (T := TX5) (N := 4) hx hb hts inX5 hown hK hP 0 rfl rfl 0 (by decide) (hts _ tw_146) (fun _ h9 => h9) rfl dX5_readDoors_130 ?_
            refine lv_iconst (v := 0) hx hb dX5_readDoors_133 (by decide) ?_
            refine lv_iload_n hx hb dX5_readDoors_134 rfl (lv_at hl 3 rfl) ?_
            refine lv_iload_n hx hb dX5_readDoors_135 rfl (lv_at hl 4 rfl) ?_
            refine lv_iadd hx hb dX5_readDoors_136 ?_
            refine lv_ti (y := (nI (n + nb_2))) (nI_add n nb_2) ?_
            refine va_iast hx hb hK hP hD hS 1 1 rfl rfl (by unfold vp_in; decide) dX5_readDoors_137 (fun H locs hP hD hS => ?_)
            replace hP : va_P D classes [(h0, .inr (5, [.ref h1, .ref h2, .ref h3, .ref h4])), (h1, .inl (k 1, 10, .inl (upd (vv n see tm g) (Int32.toNatClampNeg 0) (nI (n + nb_2))))), (h2, .inl (k 1, 24, .inl ff2_23)), (h3, .inl (k 1, 24, .inl fp2_23)), (x0, .inr (6, [.ref x1, .int (nI tz), .int (nI ta__21), .int na__20, .int 0, .int fb__21])), (x1, .inl (k 0, 240, .inl fx))] H := hP
            replace hD : va_D A [(h0, .inr (5, [.ref h1, .ref h2, .ref h3, .ref h4])), (h1, .inl (k 1, 10, .inl (upd (vv n see tm g) (Int32.toNatClampNeg 0) (nI (n + nb_2))))), (h2, .inl (k 1, 24, .inl ff2_23)), (h3, .inl (k 1, 24, .inl fp2_23)), (x0, .inr (6, [.ref x1, .int (nI tz), .int (nI ta__21), .int na__20, .int 0, .int fb__21])), (x1, .inl (k 0, 240, .inl fx))] := hD
            rw [show upd (vv n see tm g) (Int32.toNatClampNeg 0) (nI (n + nb_2)) = vv (n + nb_2) see tm g from vv_upd0 _ _ _ _ _] at hP hD
            replace hP : va_P D classes [(h0, .inr (5, [.ref h1, .ref h2, .ref h3, .ref h4])), (h1, .inl (k 1, 10, .inl (vv (n + nb_2) see tm g))), (h2, .inl (k 1, 24, .inl ff2_23)), (h3, .inl (k 1, 24, .inl fp2_23)), (x0, .inr (6, [.ref x1, .int (nI tz), .int (nI ta__21), .int na__20, .int 0, .int fb__21])), (x1, .inl (k 0, 240, .inl fx))] H := hP
            replace hD : va_D A [(h0, .inr (5, [.ref h1, .ref h2, .ref h3, .ref h4])), (h1, .inl (k 1, 10, .inl (vv (n + nb_2) see tm g))), (h2, .inl (k 1, 24, .inl ff2_23)), (h3, .inl (k 1, 24, .inl fp2_23)), (x0, .inr (6, [.ref x1, .int (nI tz), .int (nI ta__21), .int na__20, .int 0, .int fb__21])), (x1, .inl (k 0, 240, .inl fx))] := hD
            have hP9 := hP.sub (ws' := [(h0, .inr (5, [.ref h1, .ref h2, .ref h3, .ref h4])), (h1, .inl (k 1, 10, .inl (vv (n + nb_2) see tm g))), (h2, .inl (k 1, 24, .inl ff2_23)), (h3, .inl (k 1, 24, .inl fp2_23)), (x0, .inr (6, [.ref x1, .int (nI tz), .int (nI ta__21), .int na__20, .int 0, .int fb__21])), (x1, .inl (k 0, 240, .inl fx))]) [0, 1, 2, 3, 4, 5] rfl
            have hD9 := hD.sub (ws' := [(h0, .inr (5, [.ref h1, .ref h2, .ref h3, .ref h4])), (h1, .inl (k 1, 10, .inl (vv (n + nb_2) see tm g))), (h2, .inl (k 1, 24, .inl ff2_23)), (h3, .inl (k 1, 24, .inl fp2_23)), (x0, .inr (6, [.ref x1, .int (nI tz), .int (nI ta__21), .int na__20, .int 0, .int fb__21])), (x1, .inl (k 0, 240, .inl fx))]) [0, 1, 2, 3, 4, 5] (by decide) rfl
            exact W.vret hx hb hr (fun t ht hW => ⟨⟨((n + nb_2), ff2_23, fp2_23, ta__21, na__20, 0, fb__21), rfl, ⟨by omega, by omega, by omega⟩, by rw [ht]; exact hP9, hD9⟩, hS.F ht⟩) hS.2.2 dX5_readDoors_138
          · have c_27 : ¬ (24 ≤ ii_23) := fun h => c_27 ((nI_leI (a := 24) (b := ii_23) (by omega) (by omega)).mpr h)
            refine lv_aload_n hx hb dX5_readDoors_105 rfl (lv_at hl 5 rfl) ?_
            refine va_get (D := D) (ci := 5) (v := .ref h2) (C := RX5) (T := TX5) (N := 4) hx hb hts inX5 hown hK hP 0 rfl rfl 1 (by decide) (hts _ tw_150) (fun _ h9 => h9) rfl dX5_readDoors_106 ?_
            refine lv_iload hx hb dX5_readDoors_109 (lv_at hl 0 rfl) ?_
            refine lv_iload hx hb dX5_readDoors_111 (lv_at hl 2 rfl) ?_
            refine va_iast hx hb hK hP hD hS 2 1 rfl rfl (vp_in_nI (by omega) (by decide)) dX5_readDoors_113 (fun H locs hP hD hS => ?_)
            replace hP : va_P D classes [(h0, .inr (5, [.ref h1, .ref h2, .ref h3, .ref h4])), (h1, .inl (k 1, 10, .inl (vv n see tm g))), (h2, .inl (k 1, 24, .inl (upd ff2_23 (Int32.toNatClampNeg (nI ii_23)) r_18))), (h3, .inl (k 1, 24, .inl fp2_23)), (x0, .inr (6, [.ref x1, .int (nI tz), .int (nI ta__21), .int na__20, .int 0, .int fb__21])), (x1, .inl (k 0, 240, .inl fx))] H := hP
            replace hD : va_D A [(h0, .inr (5, [.ref h1, .ref h2, .ref h3, .ref h4])), (h1, .inl (k 1, 10, .inl (vv n see tm g))), (h2, .inl (k 1, 24, .inl (upd ff2_23 (Int32.toNatClampNeg (nI ii_23)) r_18))), (h3, .inl (k 1, 24, .inl fp2_23)), (x0, .inr (6, [.ref x1, .int (nI tz), .int (nI ta__21), .int na__20, .int 0, .int fb__21])), (x1, .inl (k 0, 240, .inl fx))] := hD
            generalize (upd ff2_23 (Int32.toNatClampNeg (nI ii_23)) r_18) = f_30 at hP hD
            refine lv_aload_n hx hb dX5_readDoors_114 rfl (lv_at hl 5 rfl) ?_
            refine va_get (D := D) (ci := 5) (v := .ref h3) (C := RX5) (T := TX5) (N := 4) hx hb hts inX5 hown hK hP 0 rfl rfl 2 (by decide) (hts _ tw_152) (fun _ h9 => h9) rfl dX5_readDoors_115 ?_
            refine lv_iload hx hb dX5_readDoors_118 (lv_at hl 0 rfl) ?_
            refine lv_iload hx hb dX5_readDoors_120 (lv_at hl 1 rfl) ?_
            refine va_iast hx hb hK hP hD hS 3 1 rfl rfl (vp_in_nI (by omega) (by decide)) dX5_readDoors_122 (fun H locs hP hD hS => ?_)
            replace hP : va_P D classes [(h0, .inr (5, [.ref h1, .ref h2, .ref h3, .ref h4])), (h1, .inl (k 1, 10, .inl (vv n see tm g))), (h2, .inl (k 1, 24, .inl f_30)), (h3, .inl (k 1, 24, .inl (upd fp2_23 (Int32.toNatClampNeg (nI ii_23)) r_20))), (x0, .inr (6, [.ref x1, .int (nI tz), .int (nI ta__21), .int na__20, .int 0, .int fb__21])), (x1, .inl (k 0, 240, .inl fx))] H := hP
            replace hD : va_D A [(h0, .inr (5, [.ref h1, .ref h2, .ref h3, .ref h4])), (h1, .inl (k 1, 10, .inl (vv n see tm g))), (h2, .inl (k 1, 24, .inl f_30)), (h3, .inl (k 1, 24, .inl (upd fp2_23 (Int32.toNatClampNeg (nI ii_23)) r_20))), (x0, .inr (6, [.ref x1, .int (nI tz), .int (nI ta__21), .int na__20, .int 0, .int fb__21])), (x1, .inl (k 0, 240, .inl fx))] := hD
            generalize (upd fp2_23 (Int32.toNatClampNeg (nI ii_23)) r_20) = f_31 at hP hD
            refine lv_iinc (v := (nI (ii_23 + 1))) (lv' := [(6, .int (nI (ii_23 + 1))), (5, .int r_20), (4, .int r_18), (3, .int (nI n)), (2, .int (nI nb_2)), (0, .ref h0), (1, .ref x0)]) hx hb dX5_readDoors_123 hl (k := 0) rfl (nI_add ii_23 1) (by decide) rfl (fun ls hl => ?_)
            refine lv_goto (tgt := 90) hx hb dX5_readDoors_126 (by decide) ?_
            exact ih_23 _ (ii_23 + 1, f_30, f_31) _ _ _ (by omega) ⟨rfl, (by omega), hP, hD, hS, (lv_sub hl [0, 1, 2, 3, 4, 5, 6] rfl)⟩
    · have c_16 : ¬ ((n + nb_2) ≤ 24) := fun h => c_16 ((nI_leI (a := (n + nb_2)) (b := 24) (by omega) (by omega)).mpr h)
      refine lv_aload_n hx hb dX5_readDoors_35 rfl (lv_at hl 3 rfl) ?_
      refine lv_iconst (v := 4) hx hb dX5_readDoors_36 (by decide) ?_
      refine lv_aload_n hx hb dX5_readDoors_37 rfl (lv_at hl 3 rfl) ?_
      refine va_get (D := D) (ci := 6) (v := .int na__1) (C := RX6) (T := TX6) (N := 6) hx hb hts inX6 hown hK hP 4 rfl rfl 3 (by decide) (hts _ tw_118) (fun _ h9 => h9) rfl dX5_readDoors_38 ?_
      refine rw_v (D := D) (wr := [(h0, .inr (5, [.ref h1, .ref h2, .ref h3, .ref h4])), (h1, .inl (k 1, 10, .inl (vv n see tm g))), (h2, .inl (k 1, 24, .inl ff)), (h3, .inl (k 1, 24, .inl fp)), (x1, .inl (k 0, 240, .inl fx))]) (va_runV (As := [.int 4, .int na__1]) (rest := []) ⟨hx, hb, hml, hown, hts⟩ ((x_fail l D k st lo x0 x1 tz ta__1 na__1 0 fb__1 4 na__1 (by decide)) H.size) (cwV 2 hts (gV tw_455 tw_456 tw_457 tw_80 tw_458) rfl rfl rfl (by decide +kernel) ⟨Nat.le_of_ble_eq_true rfl, Nat.le_of_ble_eq_true rfl⟩) (pV hS hAlo hlo hP hK (va_Dlo hD hAlo) hZ [4] (by decide) rfl (ci := 6) (q0 := 0) rfl rfl) rfl rfl hl.1 rfl (lv_room (Nat.le_of_ble_eq_true rfl)) dX5_readDoors_41 ⟨Nat.le_of_ble_eq_true rfl, Nat.le_of_ble_eq_true rfl⟩) hS hA hP hD [4] [0, 1, 2, 3, 5] rfl rfl (by decide) (by decide) (fun u H locs hw_32 hP hD hS => ?_)
      obtain ⟨fn__32, fb__32⟩ := u
      replace hP : va_P D classes [(h0, .inr (5, [.ref h1, .ref h2, .ref h3, .ref h4])), (h1, .inl (k 1, 10, .inl (vv n see tm g))), (h2, .inl (k 1, 24, .inl ff)), (h3, .inl (k 1, 24, .inl fp)), (x1, .inl (k 0, 240, .inl fx)), (x0, .inr (6, [.ref x1, .int (nI tz), .int (nI ta__1), .int na__1, .int fn__32, .int fb__32]))] H := hP
      replace hD : va_D A [(h0, .inr (5, [.ref h1, .ref h2, .ref h3, .ref h4])), (h1, .inl (k 1, 10, .inl (vv n see tm g))), (h2, .inl (k 1, 24, .inl ff)), (h3, .inl (k 1, 24, .inl fp)), (x1, .inl (k 0, 240, .inl fx)), (x0, .inr (6, [.ref x1, .int (nI tz), .int (nI ta__1), .int na__1, .int fn__32, .int fb__32]))] := hD
      try dsimp only at hw_32
      refine lv_aload_n hx hb dX5_readDoors_44 rfl (lv_at hl 3 rfl) ?_
      refine va_ldcS hx hb hown (hZ.2.2.2.2.2.2.2.2.2.2 (RX5, 118, "free", 10) (List.mem_of_getElem? (i := 10) rfl)) dX5_readDoors_45 ?_
      refine rw_v (D := D) (wr := [(h0, .inr (5, [.ref h1, .ref h2, .ref h3, .ref h4])), (h1, .inl (k 1, 10, .inl (vv n see tm g))), (h2, .inl (k 1, 24, .inl ff)), (h3, .inl (k 1, 24, .inl fp))]) (va_runV (As := [.ref (st (100 + 10))]) (rest := []) ⟨hx, hb, hml, hown, hts⟩ ((x_needWord l D k st lo x0 x1 tz ta__1 na__1 fn__32 fb__32 fx 10 (by omega) (by omega) (by omega)) H.size) (cwV 1 hts (gV tw_482 tw_483 tw_484 tw_80 tw_485) rfl rfl rfl (by decide +kernel) ⟨Nat.le_of_ble_eq_true rfl, Nat.le_of_ble_eq_true rfl⟩) (pV hS hAlo hlo hP hK (va_Dlo hD hAlo) hZ [5, 4] (by decide) rfl (ci := 6) (q0 := 0) rfl rfl) rfl rfl hl.1 rfl (lv_room (Nat.le_of_ble_eq_true rfl)) dX5_readDoors_47 ⟨Nat.le_of_ble_eq_true rfl, Nat.le_of_ble_eq_true rfl⟩) hS hA hP hD [5, 4] [0, 1, 2, 3] rfl rfl (by decide) (by decide) (fun u H locs hw_33 hP hD hS => ?_)
      obtain ⟨ta__33, fn__33, fb__33⟩ := u
      replace hP : va_P D classes [(h0, .inr (5, [.ref h1, .ref h2, .ref h3, .ref h4])), (h1, .inl (k 1, 10, .inl (vv n see tm g))), (h2, .inl (k 1, 24, .inl ff)), (h3, .inl (k 1, 24, .inl fp)), (x0, .inr (6, [.ref x1, .int (nI tz), .int (nI ta__33), .int na__1, .int fn__33, .int fb__33])), (x1, .inl (k 0, 240, .inl fx))] H := hP
      replace hD : va_D A [(h0, .inr (5, [.ref h1, .ref h2, .ref h3, .ref h4])), (h1, .inl (k 1, 10, .inl (vv n see tm g))), (h2, .inl (k 1, 24, .inl ff)), (h3, .inl (k 1, 24, .inl fp)), (x0, .inr (6, [.ref x1, .int (nI tz), .int (nI ta__33), .int na__1, .int fn__33, .int fb__33])), (x1, .inl (k 0, 240, .inl fx))] := hD
      try dsimp only at hw_33
      have hnz_34 := hw_33.2.2.resolve_left hw_32
      refine lv_aload_n hx hb dX5_readDoors_50 rfl (lv_at hl 3 rfl) ?_
      refine lv_iconst (v := 0) hx hb dX5_readDoors_51 (by decide) ?_
      refine lv_bipush (v := 100) hx hb dX5_readDoors_52 (by decide) ?_
      refine rw_i (D := D) (wr := [(h0, .inr (5, [.ref h1, .ref h2, .ref h3, .ref h4])), (h1, .inl (k 1, 10, .inl (vv n see tm g))), (h2, .inl (k 1, 24, .inl ff)), (h3, .inl (k 1, 24, .inl fp))]) (va_runV (As := [.int 0, .int 100]) (rest := []) ⟨hx, hb, hml, hown, hts⟩ ((x_needNumber l D k st lo x0 x1 tz ta__33 na__1 fn__33 fb__33 fx 0 100 (by omega) (by omega) (by decide)) H.size) (cwV 2 hts (gV tw_467 tw_468 tw_469 tw_80 tw_470) rfl rfl rfl (by decide +kernel) ⟨Nat.le_of_ble_eq_true rfl, Nat.le_of_ble_eq_true rfl⟩) (pV hS hAlo hlo hP hK (va_Dlo hD hAlo) hZ [4, 5] (by decide) rfl (ci := 6) (q0 := 0) rfl rfl) rfl rfl hl.1 rfl (lv_room (Nat.le_of_ble_eq_true rfl)) dX5_readDoors_54 ⟨Nat.le_of_ble_eq_true rfl, Nat.le_of_ble_eq_true rfl⟩) hS hA hP hD [4, 5] [0, 1, 2, 3] rfl rfl (by decide) (by decide) (fun r_35 u H locs hw_35 hP hD hS => ?_)
      obtain ⟨ta__35, na__35, fn__35, fb__35⟩ := u
      replace hP : va_P D classes [(h0, .inr (5, [.ref h1, .ref h2, .ref h3, .ref h4])), (h1, .inl (k 1, 10, .inl (vv n see tm g))), (h2, .inl (k 1, 24, .inl ff)), (h3, .inl (k 1, 24, .inl fp)), (x0, .inr (6, [.ref x1, .int (nI tz), .int (nI ta__35), .int na__35, .int fn__35, .int fb__35])), (x1, .inl (k 0, 240, .inl fx))] H := hP
      replace hD : va_D A [(h0, .inr (5, [.ref h1, .ref h2, .ref h3, .ref h4])), (h1, .inl (k 1, 10, .inl (vv n see tm g))), (h2, .inl (k 1, 24, .inl ff)), (h3, .inl (k 1, 24, .inl fp)), (x0, .inr (6, [.ref x1, .int (nI tz), .int (nI ta__35), .int na__35, .int fn__35, .int fb__35])), (x1, .inl (k 0, 240, .inl fx))] := hD
      try dsimp only at hw_35
      have hnz_36 := hw_35.2.2.2.resolve_left hnz_34
      refine lv_istore (lv' := [(4, .int r_35), (3, .int (nI n)), (2, .int (nI nb_2)), (0, .ref h0), (1, .ref x0)]) hx hb dX5_readDoors_57 hl (by decide) rfl (fun ls hl => ?_)
      refine lv_aload_n hx hb dX5_readDoors_59 rfl (lv_at hl 4 rfl) ?_
      refine va_ldcS hx hb hown (hZ.2.2.2.2.2.2.2.2.2.2 (RX5, 124, "price", 11) (List.mem_of_getElem? (i := 11) rfl)) dX5_readDoors_60 ?_
      refine rw_v (D := D) (wr := [(h0, .inr (5, [.ref h1, .ref h2, .ref h3, .ref h4])), (h1, .inl (k 1, 10, .inl (vv n see tm g))), (h2, .inl (k 1, 24, .inl ff)), (h3, .inl (k 1, 24, .inl fp))]) (va_runV (As := [.ref (st (100 + 11))]) (rest := []) ⟨hx, hb, hml, hown, hts⟩ ((x_needWord l D k st lo x0 x1 tz ta__35 na__35 fn__35 fb__35 fx 11 (by omega) (by omega) (by omega)) H.size) (cwV 1 hts (gV tw_482 tw_483 tw_484 tw_80 tw_485) rfl rfl rfl (by decide +kernel) ⟨Nat.le_of_ble_eq_true rfl, Nat.le_of_ble_eq_true rfl⟩) (pV hS hAlo hlo hP hK (va_Dlo hD hAlo) hZ [4, 5] (by decide) rfl (ci := 6) (q0 := 0) rfl rfl) rfl rfl hl.1 rfl (lv_room (Nat.le_of_ble_eq_true rfl)) dX5_readDoors_62 ⟨Nat.le_of_ble_eq_true rfl, Nat.le_of_ble_eq_true rfl⟩) hS hA hP hD [4, 5] [0, 1, 2, 3] rfl rfl (by decide) (by decide) (fun u H locs hw_37 hP hD hS => ?_)
      obtain ⟨ta__37, fn__37, fb__37⟩ := u
      replace hP : va_P D classes [(h0, .inr (5, [.ref h1, .ref h2, .ref h3, .ref h4])), (h1, .inl (k 1, 10, .inl (vv n see tm g))), (h2, .inl (k 1, 24, .inl ff)), (h3, .inl (k 1, 24, .inl fp)), (x0, .inr (6, [.ref x1, .int (nI tz), .int (nI ta__37), .int na__35, .int fn__37, .int fb__37])), (x1, .inl (k 0, 240, .inl fx))] H := hP
      replace hD : va_D A [(h0, .inr (5, [.ref h1, .ref h2, .ref h3, .ref h4])), (h1, .inl (k 1, 10, .inl (vv n see tm g))), (h2, .inl (k 1, 24, .inl ff)), (h3, .inl (k 1, 24, .inl fp)), (x0, .inr (6, [.ref x1, .int (nI tz), .int (nI ta__37), .int na__35, .int fn__37, .int fb__37])), (x1, .inl (k 0, 240, .inl fx))] := hD
      try dsimp only at hw_37
      have hnz_38 := hw_37.2.2.resolve_left hnz_36
      refine lv_aload_n hx hb dX5_readDoors_65 rfl (lv_at hl 4 rfl) ?_
      refine lv_iconst (v := 0) hx hb dX5_readDoors_66 (by decide) ?_
      refine lv_sipush (v := 999) hx hb dX5_readDoors_67 (by decide) ?_
      refine rw_i (D := D) (wr := [(h0, .inr (5, [.ref h1, .ref h2, .ref h3, .ref h4])), (h1, .inl (k 1, 10, .inl (vv n see tm g))), (h2, .inl (k 1, 24, .inl ff)), (h3, .inl (k 1, 24, .inl fp))]) (va_runV (As := [.int 0, .int 999]) (rest := []) ⟨hx, hb, hml, hown, hts⟩ ((x_needNumber l D k st lo x0 x1 tz ta__37 na__35 fn__37 fb__37 fx 0 999 (by omega) (by omega) (by decide)) H.size) (cwV 2 hts (gV tw_467 tw_468 tw_469 tw_80 tw_470) rfl rfl rfl (by decide +kernel) ⟨Nat.le_of_ble_eq_true rfl, Nat.le_of_ble_eq_true rfl⟩) (pV hS hAlo hlo hP hK (va_Dlo hD hAlo) hZ [4, 5] (by decide) rfl (ci := 6) (q0 := 0) rfl rfl) rfl rfl hl.1 rfl (lv_room (Nat.le_of_ble_eq_true rfl)) dX5_readDoors_70 ⟨Nat.le_of_ble_eq_true rfl, Nat.le_of_ble_eq_true rfl⟩) hS hA hP hD [4, 5] [0, 1, 2, 3] rfl rfl (by decide) (by decide) (fun r_39 u H locs hw_39 hP hD hS => ?_)
      obtain ⟨ta__39, na__39, fn__39, fb__39⟩ := u
      replace hP : va_P D classes [(h0, .inr (5, [.ref h1, .ref h2, .ref h3, .ref h4])), (h1, .inl (k 1, 10, .inl (vv n see tm g))), (h2, .inl (k 1, 24, .inl ff)), (h3, .inl (k 1, 24, .inl fp)), (x0, .inr (6, [.ref x1, .int (nI tz), .int (nI ta__39), .int na__39, .int fn__39, .int fb__39])), (x1, .inl (k 0, 240, .inl fx))] H := hP
      replace hD : va_D A [(h0, .inr (5, [.ref h1, .ref h2, .ref h3, .ref h4])), (h1, .inl (k 1, 10, .inl (vv n see tm g))), (h2, .inl (k 1, 24, .inl ff)), (h3, .inl (k 1, 24, .inl fp)), (x0, .inr (6, [.ref x1, .int (nI tz), .int (nI ta__39), .int na__39, .int fn__39, .int fb__39])), (x1, .inl (k 0, 240, .inl fx))] := hD
      try dsimp only at hw_39
      have hnz_40 := hw_39.2.2.2.resolve_left hnz_38
      refine lv_istore (lv' := [(5, .int r_39), (4, .int r_35), (3, .int (nI n)), (2, .int (nI nb_2)), (0, .ref h0), (1, .ref x0)]) hx hb dX5_readDoors_73 hl (by decide) rfl (fun ls hl => ?_)
      refine lv_aload_n hx hb dX5_readDoors_75 rfl (lv_at hl 5 rfl) ?_
      refine rw_v (D := D) (wr := [(h0, .inr (5, [.ref h1, .ref h2, .ref h3, .ref h4])), (h1, .inl (k 1, 10, .inl (vv n see tm g))), (h2, .inl (k 1, 24, .inl ff)), (h3, .inl (k 1, 24, .inl fp))]) (va_runV (As := []) (rest := []) ⟨hx, hb, hml, hown, hts⟩ ((x_needSemicolon l D k st lo x0 x1 tz ta__39 na__39 fn__39 fb__39 fx (by omega) (by omega)) H.size) (cwV 0 hts (gV tw_488 tw_489 tw_490 tw_80 tw_491) rfl rfl rfl (by decide +kernel) ⟨Nat.le_of_ble_eq_true rfl, Nat.le_of_ble_eq_true rfl⟩) (pV hS hAlo hlo hP hK (va_Dlo hD hAlo) hZ [4, 5] (by decide) rfl (ci := 6) (q0 := 0) rfl rfl) rfl rfl hl.1 rfl (lv_room (Nat.le_of_ble_eq_true rfl)) dX5_readDoors_76 ⟨Nat.le_of_ble_eq_true rfl, Nat.le_of_ble_eq_true rfl⟩) hS hA hP hD [4, 5] [0, 1, 2, 3] rfl rfl (by decide) (by decide) (fun u H locs hw_41 hP hD hS => ?_)
      obtain ⟨ta__41, fn__41, fb__41⟩ := u
      replace hP : va_P D classes [(h0, .inr (5, [.ref h1, .ref h2, .ref h3, .ref h4])), (h1, .inl (k 1, 10, .inl (vv n see tm g))), (h2, .inl (k 1, 24, .inl ff)), (h3, .inl (k 1, 24, .inl fp)), (x0, .inr (6, [.ref x1, .int (nI tz), .int (nI ta__41), .int na__39, .int fn__41, .int fb__41])), (x1, .inl (k 0, 240, .inl fx))] H := hP
      replace hD : va_D A [(h0, .inr (5, [.ref h1, .ref h2, .ref h3, .ref h4])), (h1, .inl (k 1, 10, .inl (vv n see tm g))), (h2, .inl (k 1, 24, .inl ff)), (h3, .inl (k 1, 24, .inl fp)), (x0, .inr (6, [.ref x1, .int (nI tz), .int (nI ta__41), .int na__39, .int fn__41, .int fb__41])), (x1, .inl (k 0, 240, .inl fx))] := hD
      try dsimp only at hw_41
      have hnz_42 := hw_41.2.2.resolve_left hnz_40
      refine lv_aload_n hx hb dX5_readDoors_79 rfl (lv_at hl 5 rfl) ?_
      refine ro_i (D := D) (va_runV (As := []) (rest := []) ⟨hx, hb, hml, hown, hts⟩ ((x_failed l D k st lo x0 x1 tz ta__41 na__39 fn__41 fb__41) H.size) (cwV 0 hts (gV tw_367 tw_368 tw_369 tw_80 tw_370) rfl rfl rfl (by decide +kernel) ⟨Nat.le_of_ble_eq_true rfl, Nat.le_of_ble_eq_true rfl⟩) (pV hS hAlo hlo hP hK (va_Dlo hD hAlo) hZ [4] (by decide) rfl (ci := 6) (q0 := 0) rfl rfl) rfl rfl hl.1 rfl (lv_room (Nat.le_of_ble_eq_true rfl)) dX5_readDoors_80 ⟨Nat.le_of_ble_eq_true rfl, Nat.le_of_ble_eq_true rfl⟩) hS hA hP (fun r_43 H locs hw_43 hP hS => ?_)
      try dsimp only at hw_43
      obtain rfl : r_43 = 1 := by rcases hw_43 with ⟨h, h2⟩ | ⟨h, h2⟩ <;> first | exact h | exact absurd h2 hnz_42
      refine lv_if_eq (tgt := 87) hx hb dX5_readDoors_83 (by decide) (fun h => absurd h (by decide)) (fun _ => ?_)
      have hP9 := hP.sub (ws' := [(h0, .inr (5, [.ref h1, .ref h2, .ref h3, .ref h4])), (h1, .inl (k 1, 10, .inl (vv n see tm g))), (h2, .inl (k 1, 24, .inl ff)), (h3, .inl (k 1, 24, .inl fp)), (x0, .inr (6, [.ref x1, .int (nI tz), .int (nI ta__41), .int na__39, .int fn__41, .int fb__41])), (x1, .inl (k 0, 240, .inl fx))]) [0, 1, 2, 3, 4, 5] rfl
      have hD9 := hD.sub (ws' := [(h0, .inr (5, [.ref h1, .ref h2, .ref h3, .ref h4])), (h1, .inl (k 1, 10, .inl (vv n see tm g))), (h2, .inl (k 1, 24, .inl ff)), (h3, .inl (k 1, 24, .inl fp)), (x0, .inr (6, [.ref x1, .int (nI tz), .int (nI ta__41), .int na__39, .int fn__41, .int fb__41])), (x1, .inl (k 0, 240, .inl fx))]) [0, 1, 2, 3, 4, 5] (by decide) rfl
      exact W.vret hx hb hr (fun t ht hW => ⟨⟨(n, ff, fp, ta__41, na__39, fn__41, fb__41), rfl, ⟨by omega, by omega, by omega⟩, by rw [ht]; exact hP9, hD9⟩, hS.F ht⟩) hS.2.2 dX5_readDoors_86


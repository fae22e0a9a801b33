theorem dX3_readFrom_0 : decode cX3_readFrom 0 = .ok (.aload_n 0, 1) := by decide +kernel
theorem dX3_readFrom_1 : decode cX3_readFrom 1 = .ok (.iconst 0, 1) := by decide +kernel
theorem dX3_readFrom_2 : decode cX3_readFrom 2 = .ok (.putfield 22, 3) := by decide +kernel
theorem dX3_readFrom_5 : decode cX3_readFrom 5 = .ok (.aload_n 0, 1) := by decide +kernel
theorem dX3_readFrom_6 : decode cX3_readFrom 6 = .ok (.iconst 0, 1) := by decide +kernel
theorem dX3_readFrom_7 : decode cX3_readFrom 7 = .ok (.putfield 25, 3) := by decide +kernel
theorem dX3_readFrom_10 : decode cX3_readFrom 10 = .ok (.aload_n 1, 1) := by decide +kernel
theorem dX3_readFrom_11 : decode cX3_readFrom 11 = .ok (.ldc 28, 2) := by decide +kernel
theorem dX3_readFrom_13 : decode cX3_readFrom 13 = .ok (.invokevirtual 29, 3) := by decide +kernel
theorem dX3_readFrom_16 : decode cX3_readFrom 16 = .ok (.aload_n 0, 1) := by decide +kernel
theorem dX3_readFrom_17 : decode cX3_readFrom 17 = .ok (.aload_n 1, 1) := by decide +kernel
theorem dX3_readFrom_18 : decode cX3_readFrom 18 = .ok (.iconst 0, 1) := by decide +kernel
theorem dX3_readFrom_19 : decode cX3_readFrom 19 = .ok (.bipush 24, 2) := by decide +kernel
theorem dX3_readFrom_21 : decode cX3_readFrom 21 = .ok (.invokevirtual 35, 3) := by decide +kernel
theorem dX3_readFrom_24 : decode cX3_readFrom 24 = .ok (.putfield 18, 3) := by decide +kernel
theorem dX3_readFrom_27 : decode cX3_readFrom 27 = .ok (.iconst 0, 1) := by decide +kernel
theorem dX3_readFrom_28 : decode cX3_readFrom 28 = .ok (.istore_n 2, 1) := by decide +kernel
theorem dX3_readFrom_29 : decode cX3_readFrom 29 = .ok (.iload_n 2, 1) := by decide +kernel
theorem dX3_readFrom_30 : decode cX3_readFrom 30 = .ok (.bipush 24, 2) := by decide +kernel
theorem dX3_readFrom_32 : decode cX3_readFrom 32 = .ok (.if_icmp .ge 30, 3) := by decide +kernel
theorem dX3_readFrom_35 : decode cX3_readFrom 35 = .ok (.aload_n 1, 1) := by decide +kernel
theorem dX3_readFrom_36 : decode cX3_readFrom 36 = .ok (.invokevirtual 39, 3) := by decide +kernel
theorem dX3_readFrom_39 : decode cX3_readFrom 39 = .ok (.ifCond .ne 23, 3) := by decide +kernel
theorem dX3_readFrom_42 : decode cX3_readFrom 42 = .ok (.aload_n 1, 1) := by decide +kernel
theorem dX3_readFrom_43 : decode cX3_readFrom 43 = .ok (.ldc 43, 2) := by decide +kernel
theorem dX3_readFrom_45 : decode cX3_readFrom 45 = .ok (.invokevirtual 44, 3) := by decide +kernel
theorem dX3_readFrom_48 : decode cX3_readFrom 48 = .ok (.ifCond .eq 14, 3) := by decide +kernel
theorem dX3_readFrom_51 : decode cX3_readFrom 51 = .ok (.aload_n 0, 1) := by decide +kernel
theorem dX3_readFrom_52 : decode cX3_readFrom 52 = .ok (.aload_n 1, 1) := by decide +kernel
theorem dX3_readFrom_53 : decode cX3_readFrom 53 = .ok (.invokevirtual 48, 3) := by decide +kernel
theorem dX3_readFrom_56 : decode cX3_readFrom 56 = .ok (.iinc 2 1, 3) := by decide +kernel
theorem dX3_readFrom_59 : decode cX3_readFrom 59 = .ok (.goto (-30), 3) := by decide +kernel
theorem dX3_readFrom_62 : decode cX3_readFrom 62 = .ok (.aload_n 1, 1) := by decide +kernel
theorem dX3_readFrom_63 : decode cX3_readFrom 63 = .ok (.invokevirtual 39, 3) := by decide +kernel
theorem dX3_readFrom_66 : decode cX3_readFrom 66 = .ok (.ifCond .ne 27, 3) := by decide +kernel
theorem dX3_readFrom_69 : decode cX3_readFrom 69 = .ok (.aload_n 1, 1) := by decide +kernel
theorem dX3_readFrom_70 : decode cX3_readFrom 70 = .ok (.ldc 52, 2) := by decide +kernel
theorem dX3_readFrom_72 : decode cX3_readFrom 72 = .ok (.invokevirtual 44, 3) := by decide +kernel
theorem dX3_readFrom_75 : decode cX3_readFrom 75 = .ok (.ifCond .eq 18, 3) := by decide +kernel
theorem dX3_readFrom_78 : decode cX3_readFrom 78 = .ok (.aload_n 0, 1) := by decide +kernel
theorem dX3_readFrom_79 : decode cX3_readFrom 79 = .ok (.aload_n 1, 1) := by decide +kernel
theorem dX3_readFrom_80 : decode cX3_readFrom 80 = .ok (.iconst 0, 1) := by decide +kernel
theorem dX3_readFrom_81 : decode cX3_readFrom 81 = .ok (.getstatic 54, 3) := by decide +kernel
theorem dX3_readFrom_84 : decode cX3_readFrom 84 = .ok (.bipush 8, 2) := by decide +kernel
theorem dX3_readFrom_86 : decode cX3_readFrom 86 = .ok (.iaload, 1) := by decide +kernel
theorem dX3_readFrom_87 : decode cX3_readFrom 87 = .ok (.invokevirtual 35, 3) := by decide +kernel
theorem dX3_readFrom_90 : decode cX3_readFrom 90 = .ok (.putfield 25, 3) := by decide +kernel
theorem dX3_readFrom_93 : decode cX3_readFrom 93 = .ok (.aload_n 1, 1) := by decide +kernel
theorem dX3_readFrom_94 : decode cX3_readFrom 94 = .ok (.invokevirtual 39, 3) := by decide +kernel
theorem dX3_readFrom_97 : decode cX3_readFrom 97 = .ok (.ifCond .ne 19, 3) := by decide +kernel
theorem dX3_readFrom_100 : decode cX3_readFrom 100 = .ok (.aload_n 1, 1) := by decide +kernel
theorem dX3_readFrom_101 : decode cX3_readFrom 101 = .ok (.invokevirtual 57, 3) := by decide +kernel
theorem dX3_readFrom_104 : decode cX3_readFrom 104 = .ok (.ifCond .ne 12, 3) := by decide +kernel
theorem dX3_readFrom_107 : decode cX3_readFrom 107 = .ok (.aload_n 1, 1) := by decide +kernel
theorem dX3_readFrom_108 : decode cX3_readFrom 108 = .ok (.iconst 1, 1) := by decide +kernel
theorem dX3_readFrom_109 : decode cX3_readFrom 109 = .ok (.aload_n 1, 1) := by decide +kernel
theorem dX3_readFrom_110 : decode cX3_readFrom 110 = .ok (.getfield 60, 3) := by decide +kernel
theorem dX3_readFrom_113 : decode cX3_readFrom 113 = .ok (.invokevirtual 63, 3) := by decide +kernel
theorem dX3_readFrom_116 : decode cX3_readFrom 116 = .ok (.return_, 1) := by decide +kernel
set_option maxHeartbeats 4000000 in
set_option maxRecDepth 100000 in
theorem x_Rule_readFrom (l : Launch) (D : va_G) (k : Nat → ClassId) (st : Nat → Nat) (lo : Nat) (u0 : Nat) (u1 : Nat) (u2 : Nat) (rf : Int32) (rc : Nat) (rr : Nat) (rs : Nat → Int32) (rb : Nat → Int32) (x0 : Nat) (x1 : Nat) (tz : Nat) (ta : Nat) (na : Int32) (fn : Int32) (fb : Int32) (fx : Nat → Int32) (ht : ta ≤ tz) (hz : tz ≤ 240) : CWv l D k st lo yX3_readFrom cX3_readFrom 3 none ({ frames := 7, cells := 0, slots := 0, locals := 152 }) 0 0 [.ref u0, .ref x0] [(u0, .inr (3, [.ref u1, .ref u2, .int rf, .int (nI rc), .int (nI rr)])), (u1, .inl (k 1, 24, .inl rs)), (u2, .inl (k 1, 24, .inl rb)), (x0, .inr (6, [.ref x1, .int (nI tz), .int (nI ta), .int na, .int fn, .int fb])), (x1, .inl (k 0, 240, .inl fx))] (fun (u : Int32 × Nat × Nat × (Nat → Int32) × (Nat → Int32) × Nat × Int32 × Int32 × Int32) => match u with | (rf_, rc_, rr_, rs_, rb_, ta_, na_, fn_, fb_) => rc_ ≤ 24 ∧ rr_ ≤ 3 ∧ ta_ ≤ tz) (fun (u : Int32 × Nat × Nat × (Nat → Int32) × (Nat → Int32) × Nat × Int32 × Int32 × Int32) => match u with | (rf_, rc_, rr_, rs_, rb_, ta_, na_, fn_, fb_) => [(u0, .inr (3, [.ref u1, .ref u2, .int rf_, .int (nI rc_), .int (nI rr_)])), (u1, .inl (k 1, 24, .inl rs_)), (u2, .inl (k 1, 24, .inl rb_)), (x0, .inr (6, [.ref x1, .int (nI tz), .int (nI ta_), .int na_, .int fn_, .int fb_])), (x1, .inl (k 0, 240, .inl fx))]) := by
  intro sz
  refine Met.ofW (cc := cX3_readFrom) (maxL := 3) (ret := none) (by decide) rfl ?_
  intro p e s m args below meth c s₁ B hml hv
  obtain ⟨rfl, hsz, hlo, hP, hK, hDL, hZ⟩ := hv
  have hx := B.exec
  have hb := B.bytes
  have hr := B.returns
  have hts := WS_ts B.pre
  have hown : s.vm.findClass RX3 = some m.cls := findClass_of_methodNamed B.named
  have hlocks := B.notSynchronized
  subst hsz
  have hD := hDL.self (sz := s.heap.size)
  have hAlo := A_lo hDL hlo
  generalize hAe : va_A [(u0, .inr (3, [.ref u1, .ref u2, .int rf, .int (nI rc), .int (nI rr)])), (u1, .inl (k 1, 24, .inl rs)), (u2, .inl (k 1, 24, .inl rb)), (x0, .inr (6, [.ref x1, .int (nI tz), .int (nI ta), .int na, .int fn, .int fb])), (x1, .inl (k 0, 240, .inl fx))] s.heap.size = A at hD hAlo ⊢
  have hA : ∀ q : Nat, s.heap.size ≤ q → A q := fun q h => by rw [← hAe]; exact Or.inr h
  have hS : va_S A s.heap s.heap [] := va_S.rf
  have hl := lv_entry ([.ref u0, .ref x0]) (n := 3) (Nat.le_of_ble_eq_true rfl)
  rw [lg_entry_eq]
  generalize (lg_sl ([.ref u0, .ref x0]) ++ List.replicate (3 - (lg_sl ([.ref u0, .ref x0])).length) Slot.unset).toArray = ls at hl ⊢
  have hl : lv_has ls 3 [(0, .ref u0), (1, .ref x0)] := hl
  refine lv_aload_n hx hb dX3_readFrom_0 rfl (lv_at hl 0 rfl) ?_
  refine lv_iconst (v := 0) hx hb dX3_readFrom_1 (by decide) ?_
  refine va_put (D := D) (ci := 3) (v := .int 0) (ty := .int) (C := RX3) (T := TX3) (N := 5) hx hb hts inX3 tyX3 tyX3_ok nmX3 hown hK hP hD hS 0 rfl rfl 3 (by decide) (hts _ tw_292) (fun _ h9 => h9) rfl (by decide +kernel) rfl rfl (Nat.le_of_ble_eq_true rfl) dX3_readFrom_2 (fun H locs hP hD hS => ?_)
  replace hP : va_P D classes [(u0, .inr (3, [.ref u1, .ref u2, .int rf, .int 0, .int (nI rr)])), (u1, .inl (k 1, 24, .inl rs)), (u2, .inl (k 1, 24, .inl rb)), (x0, .inr (6, [.ref x1, .int (nI tz), .int (nI ta), .int na, .int fn, .int fb])), (x1, .inl (k 0, 240, .inl fx))] H := hP
  replace hD : va_D A [(u0, .inr (3, [.ref u1, .ref u2, .int rf, .int 0, .int (nI rr)])), (u1, .inl (k 1, 24, .inl rs)), (u2, .inl (k 1, 24, .inl rb)), (x0, .inr (6, [.ref x1, .int (nI tz), .int (nI ta), .int na, .int fn, .int fb])), (x1, .inl (k 0, 240, .inl fx))] := hD
  refine lv_aload_n hx hb dX3_readFrom_5 rfl (lv_at hl 0 rfl) ?_
  refine lv_iconst (v := 0) hx hb dX3_readFrom_6 (by decide) ?_
  refine va_put (D := D) (ci := 3) (v := .int 0) (ty := .int) (C := RX3) (T := TX3) (N := 5) hx hb hts inX3 tyX3 tyX3_ok nmX3 hown hK hP hD hS 0 rfl rfl 4 (by decide) (hts _ tw_293) (fun _ h9 => h9) rfl (by decide +kernel) rfl rfl (Nat.le_of_ble_eq_true rfl) dX3_readFrom_7 (fun H locs hP hD hS => ?_)
  replace hP : va_P D classes [(u0, .inr (3, [.ref u1, .ref u2, .int rf, .int 0, .int 0])), (u1, .inl (k 1, 24, .inl rs)), (u2, .inl (k 1, 24, .inl rb)), (x0, .inr (6, [.ref x1, .int (nI tz), .int (nI ta), .int na, .int fn, .int fb])), (x1, .inl (k 0, 240, .inl fx))] H := hP
  replace hD : va_D A [(u0, .inr (3, [.ref u1, .ref u2, .int rf, .int 0, .int 0])), (u1, .inl (k 1, 24, .inl rs)), (u2, .inl (k 1, 24, .inl rb)), (x0, .inr (6, [.ref x1, .int (nI tz), .int (nI ta), .int na, .int fn, .int fb])), (x1, .inl (k 0, 240, .inl fx))] := hD
  refine lv_aload_n hx hb dX3_readFrom_10 rfl (lv_at hl 1 rfl) ?_
  refine va_ldcS hx hb hown (hZ.2.2.2.2.2.2.2.2.2.2 (RX3, 28, "from", 12) (List.mem_of_getElem? (i := 12) rfl)) dX3_readFrom_11 ?_
  refine rw_v (D := D) (wr := [(u0, .inr (3, [.ref u1, .ref u2, .int rf, .int 0, .int 0])), (u1, .inl (k 1, 24, .inl rs)), (u2, .inl (k 1, 24, .inl rb))]) (va_runV (As := [.ref (st (100 + 12))]) (rest := []) ⟨hx, hb, hml, hown, hts⟩ ((x_needWord l D k st lo x0 x1 tz ta na fn fb fx 12 (by omega) (by omega) (by omega)) H.size) (cwV 1 hts (gV tw_680 tw_483 tw_484 tw_80 tw_485) rfl rfl rfl (by decide +kernel) ⟨Nat.le_of_ble_eq_true rfl, Nat.le_of_ble_eq_true rfl⟩) (pV hS hAlo hlo hP hK (va_Dlo hD hAlo) hZ [3, 4] (by decide) rfl (ci := 6) (q0 := 0) rfl rfl) rfl rfl hl.1 rfl (lv_room (Nat.le_of_ble_eq_true rfl)) dX3_readFrom_13 ⟨Nat.le_of_ble_eq_true rfl, Nat.le_of_ble_eq_true rfl⟩) hS hA hP hD [3, 4] [0, 1, 2] rfl rfl (by decide) (by decide) (fun u H locs hw_1 hP hD hS => ?_)
  obtain ⟨ta__1, fn__1, fb__1⟩ := u
  replace hP : va_P D classes [(u0, .inr (3, [.ref u1, .ref u2, .int rf, .int 0, .int 0])), (u1, .inl (k 1, 24, .inl rs)), (u2, .inl (k 1, 24, .inl rb)), (x0, .inr (6, [.ref x1, .int (nI tz), .int (nI ta__1), .int na, .int fn__1, .int fb__1])), (x1, .inl (k 0, 240, .inl fx))] H := hP
  replace hD : va_D A [(u0, .inr (3, [.ref u1, .ref u2, .int rf, .int 0, .int 0])), (u1, .inl (k 1, 24, .inl rs)), (u2, .inl (k 1, 24, .inl rb)), (x0, .inr (6, [.ref x1, .int (nI tz), .int (nI ta__1), .int na, .int fn__1, .int fb__1])), (x1, .inl (k 0, 240, .inl fx))] := hD
  try dsimp only at hw_1
  refine lv_aload_n hx hb dX3_readFrom_16 rfl (lv_at hl 0 rfl) ?_
  refine lv_aload_n hx hb dX3_readFrom_17 rfl (lv_at hl 1 rfl) ?_
  refine lv_iconst (v := 0) hx hb dX3_readFrom_18 (by decide) ?_
  refine lv_bipush (v := 24) hx hb dX3_readFrom_19 (by decide) ?_
  refine rw_i (D := D) (wr := [(u0, .inr (3, [.ref u1, .ref u2, .int rf, .int 0, .int 0])), (u1, .inl (k 1, 24, .inl rs)), (u2, .inl (k 1, 24, .inl rb))]) (va_runV (As := [.int 0, .int 24]) (rest := [.ref u0]) ⟨hx, hb, hml, hown, hts⟩ ((x_needNumber l D k st lo x0 x1 tz ta__1 na fn__1 fb__1 fx 0 24 (by omega) (by omega) (by decide)) H.size) (cwV 2 hts (gV tw_681 tw_468 tw_469 tw_80 tw_470) rfl rfl rfl (by decide +kernel) ⟨Nat.le_of_ble_eq_true rfl, Nat.le_of_ble_eq_true rfl⟩) (pV hS hAlo hlo hP hK (va_Dlo hD hAlo) hZ [3, 4] (by decide) rfl (ci := 6) (q0 := 0) rfl rfl) rfl rfl hl.1 rfl (lv_room (Nat.le_of_ble_eq_true rfl)) dX3_readFrom_21 ⟨Nat.le_of_ble_eq_true rfl, Nat.le_of_ble_eq_true rfl⟩) hS hA hP hD [3, 4] [0, 1, 2] rfl rfl (by decide) (by decide) (fun r_2 u H locs hw_2 hP hD hS => ?_)
  obtain ⟨ta__2, na__2, fn__2, fb__2⟩ := u
  replace hP : va_P D classes [(u0, .inr (3, [.ref u1, .ref u2, .int rf, .int 0, .int 0])), (u1, .inl (k 1, 24, .inl rs)), (u2, .inl (k 1, 24, .inl rb)), (x0, .inr (6, [.ref x1, .int (nI tz), .int (nI ta__2), .int na__2, .int fn__2, .int fb__2])), (x1, .inl (k 0, 240, .inl fx))] H := hP
  replace hD : va_D A [(u0, .inr (3, [.ref u1, .ref u2, .int rf, .int 0, .int 0])), (u1, .inl (k 1, 24, .inl rs)), (u2, .inl (k 1, 24, .inl rb)), (x0, .inr (6, [.ref x1, .int (nI tz), .int (nI ta__2), .int na__2, .int fn__2, .int fb__2])), (x1, .inl (k 0, 240, .inl fx))] := hD
  try dsimp only at hw_2
  refine va_put (D := D) (ci := 3) (v := .int r_2) (ty := .int) (C := RX3) (T := TX3) (N := 5) hx hb hts inX3 tyX3 tyX3_ok nmX3 hown hK hP hD hS 0 rfl rfl 2 (by decide) (hts _ tw_291) (fun _ h9 => h9) rfl (by decide +kernel) rfl rfl (Nat.le_of_ble_eq_true rfl) dX3_readFrom_24 (fun H locs hP hD hS => ?_)
  replace hP : va_P D classes [(u0, .inr (3, [.ref u1, .ref u2, .int r_2, .int 0, .int 0])), (u1, .inl (k 1, 24, .inl rs)), (u2, .inl (k 1, 24, .inl rb)), (x0, .inr (6, [.ref x1, .int (nI tz), .int (nI ta__2), .int na__2, .int fn__2, .int fb__2])), (x1, .inl (k 0, 240, .inl fx))] H := hP
  replace hD : va_D A [(u0, .inr (3, [.ref u1, .ref u2, .int r_2, .int 0, .int 0])), (u1, .inl (k 1, 24, .inl rs)), (u2, .inl (k 1, 24, .inl rb)), (x0, .inr (6, [.ref x1, .int (nI tz), .int (nI ta__2), .int na__2, .int fn__2, .int fb__2])), (x1, .inl (k 0, 240, .inl fx))] := hD
  refine lv_iconst (v := 0) hx hb dX3_readFrom_27 (by decide) ?_
  refine lv_istore_n (lv' := [(2, .int 0), (0, .ref u0), (1, .ref x0)]) hx hb dX3_readFrom_28 rfl hl (by decide) rfl (fun ls hl => ?_)
  refine W_loop (σ := Nat × Nat × (Nat → Int32) × (Nat → Int32) × Nat × Int32 × Int32 × Int32) (fun (n_ : Nat) (x_ : Nat × Nat × (Nat → Int32) × (Nat → Int32) × Nat × Int32 × Int32 × Int32) (H : Heap) (locs : List Loc) (ls : Array Slot) => match x_ with | (kk_3, rc2_3, rs2_3, rb2_3, ta2_3, na2_3, fn2_3, fb2_3) => n_ = 24 - kk_3 ∧ (kk_3 ≤ 24 ∧ rc2_3 ≤ 24 ∧ ta2_3 ≤ tz) ∧ va_P D classes [(u0, .inr (3, [.ref u1, .ref u2, .int r_2, .int (nI rc2_3), .int 0])), (u1, .inl (k 1, 24, .inl rs2_3)), (u2, .inl (k 1, 24, .inl rb2_3)), (x0, .inr (6, [.ref x1, .int (nI tz), .int (nI ta2_3), .int na2_3, .int fn2_3, .int fb2_3])), (x1, .inl (k 0, 240, .inl fx))] H ∧ va_D A [(u0, .inr (3, [.ref u1, .ref u2, .int r_2, .int (nI rc2_3), .int 0])), (u1, .inl (k 1, 24, .inl rs2_3)), (u2, .inl (k 1, 24, .inl rb2_3)), (x0, .inr (6, [.ref x1, .int (nI tz), .int (nI ta2_3), .int na2_3, .int fn2_3, .int fb2_3])), (x1, .inl (k 0, 240, .inl fx))] ∧ va_S A s.heap H locs ∧ lv_has ls 3 [(2, .int (nI kk_3)), (0, .ref u0), (1, .ref x0)]) (fun n_3 x_3 H locs ls hI ih_3 => ?_) _ (0, 0, rs, rb, ta__2, na__2, fn__2, fb__2) ⟨rfl, ⟨by omega, by omega, by omega⟩, hP, hD, hS, (lv_sub hl [0, 1, 2] rfl)⟩
  obtain ⟨kk_3, rc2_3, rs2_3, rb2_3, ta2_3, na2_3, fn2_3, fb2_3⟩ := x_3
  obtain ⟨hm_3, hv_3, hP, hD, hS, hl⟩ := hI
  subst hm_3
  refine lv_iload_n hx hb dX3_readFrom_29 rfl (lv_at hl 0 rfl) ?_
  refine lv_bipush (v := 24) hx hb dX3_readFrom_30 (by decide) ?_
  refine lv_icmp_ge (tgt := 62) hx hb dX3_readFrom_32 (by decide) (fun c_4 => ?_) (fun c_4 => ?_)
  · have c_4 := (nI_leI (a := 24) (b := kk_3) (by omega) (by omega)).mp c_4
    refine lv_aload_n hx hb dX3_readFrom_62 rfl (lv_at hl 2 rfl) ?_
    refine ro_i (D := D) (va_runV (As := []) (rest := []) ⟨hx, hb, hml, hown, hts⟩ ((x_failed l D k st lo x0 x1 tz ta2_3 na2_3 fn2_3 fb2_3) H.size) (cwV 0 hts (gV tw_682 tw_368 tw_369 tw_80 tw_370) rfl rfl rfl (by decide +kernel) ⟨Nat.le_of_ble_eq_true rfl, Nat.le_of_ble_eq_true rfl⟩) (pV hS hAlo hlo hP hK (va_Dlo hD hAlo) hZ [3] (by decide) rfl (ci := 6) (q0 := 0) rfl rfl) rfl rfl hl.1 rfl (lv_room (Nat.le_of_ble_eq_true rfl)) dX3_readFrom_63 ⟨Nat.le_of_ble_eq_true rfl, Nat.le_of_ble_eq_true rfl⟩) hS hA hP (fun r_5 H locs hw_5 hP hS => ?_)
    try dsimp only at hw_5
    rcases hw_5 with ⟨rfl, hw_5⟩ | ⟨rfl, rfl⟩
    · refine lv_if_ne (tgt := 93) hx hb dX3_readFrom_66 (by decide) (fun _ => ?_) (fun h => absurd h (by decide))
      refine lv_aload_n hx hb dX3_readFrom_93 rfl (lv_at hl 2 rfl) ?_
      refine ro_i (D := D) (va_runV (As := []) (rest := []) ⟨hx, hb, hml, hown, hts⟩ ((x_failed l D k st lo x0 x1 tz ta2_3 na2_3 fn2_3 fb2_3) H.size) (cwV 0 hts (gV tw_682 tw_368 tw_369 tw_80 tw_370) rfl rfl rfl (by decide +kernel) ⟨Nat.le_of_ble_eq_true rfl, Nat.le_of_ble_eq_true rfl⟩) (pV hS hAlo hlo hP hK (va_Dlo hD hAlo) hZ [3] (by decide) rfl (ci := 6) (q0 := 0) rfl rfl) rfl rfl hl.1 rfl (lv_room (Nat.le_of_ble_eq_true rfl)) dX3_readFrom_94 ⟨Nat.le_of_ble_eq_true rfl, Nat.le_of_ble_eq_true rfl⟩) hS hA hP (fun r_6 H locs hw_6 hP hS => ?_)
      try dsimp only at hw_6
      obtain rfl : r_6 = 1 := by rcases hw_6 with ⟨h, h2⟩ | ⟨h, h2⟩ <;> first | exact h | exact absurd h2 hw_5
      refine lv_if_ne (tgt := 116) hx hb dX3_readFrom_97 (by decide) (fun _ => ?_) (fun h => absurd h (by decide))
      have hP9 := hP.sub (ws' := [(u0, .inr (3, [.ref u1, .ref u2, .int r_2, .int (nI rc2_3), .int 0])), (u1, .inl (k 1, 24, .inl rs2_3)), (u2, .inl (k 1, 24, .inl rb2_3)), (x0, .inr (6, [.ref x1, .int (nI tz), .int (nI ta2_3), .int na2_3, .int fn2_3, .int fb2_3])), (x1, .inl (k 0, 240, .inl fx))]) [0, 1, 2, 3, 4] rfl
      have hD9 := hD.sub (ws' := [(u0, .inr (3, [.ref u1, .ref u2, .int r_2, .int (nI rc2_3), .int 0])), (u1, .inl (k 1, 24, .inl rs2_3)), (u2, .inl (k 1, 24, .inl rb2_3)), (x0, .inr (6, [.ref x1, .int (nI tz), .int (nI ta2_3), .int na2_3, .int fn2_3, .int fb2_3])), (x1, .inl (k 0, 240, .inl fx))]) [0, 1, 2, 3, 4] (by decide) rfl
      exact W.vret hx hb hr (fun t ht hW => ⟨⟨(r_2, rc2_3, 0, rs2_3, rb2_3, ta2_3, na2_3, fn2_3, fb2_3), rfl, ⟨by omega, by omega, by omega⟩, by rw [ht]; exact hP9, hD9⟩, hS.F ht⟩) hS.2.2 dX3_readFrom_116
    · refine lv_if_ne (tgt := 93) hx hb dX3_readFrom_66 (by decide) (fun h => absurd (by decide) h) (fun _ => ?_)
      refine lv_aload_n hx hb dX3_readFrom_69 rfl (lv_at hl 2 rfl) ?_
      refine va_ldcS hx hb hown (hZ.2.2.2.2.2.2.2.2.2.2 (RX3, 52, "round", 7) (List.mem_of_getElem? (i := 14) rfl)) dX3_readFrom_70 ?_
      refine rw_i (D := D) (wr := [(u0, .inr (3, [.ref u1, .ref u2, .int r_2, .int (nI rc2_3), .int 0])), (u1, .inl (k 1, 24, .inl rs2_3)), (u2, .inl (k 1, 24, .inl rb2_3))]) (va_runV (As := [.ref (st (100 + 7))]) (rest := []) ⟨hx, hb, hml, hown, hts⟩ ((x_takeWord l D k st lo x0 x1 tz ta2_3 na2_3 0 fb2_3 fx 7 (by omega) (by omega) (by omega)) H.size) (cwV 1 hts (gV tw_684 tw_400 tw_401 tw_80 tw_402) rfl rfl rfl (by decide +kernel) ⟨Nat.le_of_ble_eq_true rfl, Nat.le_of_ble_eq_true rfl⟩) (pV hS hAlo hlo hP hK (va_Dlo hD hAlo) hZ [3, 4] (by decide) rfl (ci := 6) (q0 := 0) rfl rfl) rfl rfl hl.1 rfl (lv_room (Nat.le_of_ble_eq_true rfl)) dX3_readFrom_72 ⟨Nat.le_of_ble_eq_true rfl, Nat.le_of_ble_eq_true rfl⟩) hS hA hP hD [3, 4] [0, 1, 2] rfl rfl (by decide) (by decide) (fun r_7 u H locs hw_7 hP hD hS => ?_)
      obtain ⟨ta__7, rfl⟩ : ∃ z, z = u := ⟨_, rfl⟩
      replace hP : va_P D classes [(u0, .inr (3, [.ref u1, .ref u2, .int r_2, .int (nI rc2_3), .int 0])), (u1, .inl (k 1, 24, .inl rs2_3)), (u2, .inl (k 1, 24, .inl rb2_3)), (x0, .inr (6, [.ref x1, .int (nI tz), .int (nI ta__7), .int na2_3, .int 0, .int fb2_3])), (x1, .inl (k 0, 240, .inl fx))] H := hP
      replace hD : va_D A [(u0, .inr (3, [.ref u1, .ref u2, .int r_2, .int (nI rc2_3), .int 0])), (u1, .inl (k 1, 24, .inl rs2_3)), (u2, .inl (k 1, 24, .inl rb2_3)), (x0, .inr (6, [.ref x1, .int (nI tz), .int (nI ta__7), .int na2_3, .int 0, .int fb2_3])), (x1, .inl (k 0, 240, .inl fx))] := hD
      try dsimp only at hw_7
      rcases hw_7 with ⟨rfl | rfl, hw_7⟩
      · refine lv_if_eq (tgt := 93) hx hb dX3_readFrom_75 (by decide) (fun h => absurd h (by decide)) (fun _ => ?_)
        refine lv_aload_n hx hb dX3_readFrom_78 rfl (lv_at hl 1 rfl) ?_
        refine lv_aload_n hx hb dX3_readFrom_79 rfl (lv_at hl 2 rfl) ?_
        refine lv_iconst (v := 0) hx hb dX3_readFrom_80 (by decide) ?_
        refine va_getsN (A := A) hx hb (hZ.2.2.1.narrow hAlo) hS hown ((hZ.2.2.2.2.2.2.2.2.1.2.1 (RX3, 54, "LastPlace", "MOST", "[I", RX7) (List.mem_of_getElem? (i := 3) rfl)).use rfl) (fun _ h9 => h9) dX3_readFrom_81 ?_
        refine lv_bipush (v := 8) hx hb dX3_readFrom_84 (by decide) ?_
        refine va_ti (A := A) hx hb (hZ.2.2.2.1.narrow hAlo) hS (i := 8) (by unfold vp_in; decide) (v := .int 3) rfl dX3_readFrom_86 ?_
        refine rw_i (D := D) (wr := [(u0, .inr (3, [.ref u1, .ref u2, .int r_2, .int (nI rc2_3), .int 0])), (u1, .inl (k 1, 24, .inl rs2_3)), (u2, .inl (k 1, 24, .inl rb2_3))]) (va_runV (As := [.int 0, .int 3]) (rest := [.ref u0]) ⟨hx, hb, hml, hown, hts⟩ ((x_needNumber l D k st lo x0 x1 tz ta__7 na2_3 0 fb2_3 fx 0 3 (by omega) (by omega) (by decide)) H.size) (cwV 2 hts (gV tw_681 tw_468 tw_469 tw_80 tw_470) rfl rfl rfl (by decide +kernel) ⟨Nat.le_of_ble_eq_true rfl, Nat.le_of_ble_eq_true rfl⟩) (pV hS hAlo hlo hP hK (va_Dlo hD hAlo) hZ [3, 4] (by decide) rfl (ci := 6) (q0 := 0) rfl rfl) rfl rfl hl.1 rfl (lv_room (Nat.le_of_ble_eq_true rfl)) dX3_readFrom_87 ⟨Nat.le_of_ble_eq_true rfl, Nat.le_of_ble_eq_true rfl⟩) hS hA hP hD [3, 4] [0, 1, 2] rfl rfl (by decide) (by decide) (fun r_8 u H locs hw_8 hP hD hS => ?_)
        obtain ⟨ta__8, na__8, fn__8, fb__8⟩ := u
        replace hP : va_P D classes [(u0, .inr (3, [.ref u1, .ref u2, .int r_2, .int (nI rc2_3), .int 0])), (u1, .inl (k 1, 24, .inl rs2_3)), (u2, .inl (k 1, 24, .inl rb2_3)), (x0, .inr (6, [.ref x1, .int (nI tz), .int (nI ta__8), .int na__8, .int fn__8, .int fb__8])), (x1, .inl (k 0, 240, .inl fx))] H := hP
        replace hD : va_D A [(u0, .inr (3, [.ref u1, .ref u2, .int r_2, .int (nI rc2_3), .int 0])), (u1, .inl (k 1, 24, .inl rs2_3)), (u2, .inl (k 1, 24, .inl rb2_3)), (x0, .inr (6, [.ref x1, .int (nI tz), .int (nI ta__8), .int na__8, .int fn__8, .int fb__8])), (x1, .inl (k 0, 240, .inl fx))] := hD
        try dsimp only at hw_8
        obtain ⟨nb_9, hnl_9, hnh_9, rfl⟩ := inB_ofc (a := 0) (b := 3) (by omega) (by omega) hw_8.2.2.1
        refine va_put (D := D) (ci := 3) (v := .int (nI nb_9)) (ty := .int) (C := RX3) (T := TX3) (N := 5) hx hb hts inX3 tyX3 tyX3_ok nmX3 hown hK hP hD hS 0 rfl rfl 4 (by decide) (hts _ tw_293) (fun _ h9 => h9) rfl (by decide +kernel) rfl rfl (Nat.le_of_ble_eq_true rfl) dX3_readFrom_90 (fun H locs hP hD hS => ?_)
        replace hP : va_P D classes [(u0, .inr (3, [.ref u1, .ref u2, .int r_2, .int (nI rc2_3), .int (nI nb_9)])), (u1, .inl (k 1, 24, .inl rs2_3)), (u2, .inl (k 1, 24, .inl rb2_3)), (x0, .inr (6, [.ref x1, .int (nI tz), .int (nI ta__8), .int na__8, .int fn__8, .int fb__8])), (x1, .inl (k 0, 240, .inl fx))] H := hP
        replace hD : va_D A [(u0, .inr (3, [.ref u1, .ref u2, .int r_2, .int (nI rc2_3), .int (nI nb_9)])), (u1, .inl (k 1, 24, .inl rs2_3)), (u2, .inl (k 1, 24, .inl rb2_3)), (x0, .inr (6, [.ref x1, .int (nI tz), .int (nI ta__8), .int na__8, .int fn__8, .int fb__8])), (x1, .inl (k 0, 240, .inl fx))] := hD
        refine lv_aload_n hx hb dX3_readFrom_93 rfl (lv_at hl 2 rfl) ?_
        refine ro_i (D := D) (va_runV (As := []) (rest := []) ⟨hx, hb, hml, hown, hts⟩ ((x_failed l D k st lo x0 x1 tz ta__8 na__8 fn__8 fb__8) H.size) (cwV 0 hts (gV tw_682 tw_368 tw_369 tw_80 tw_370) rfl rfl rfl (by decide +kernel) ⟨Nat.le_of_ble_eq_true rfl, Nat.le_of_ble_eq_true rfl⟩) (pV hS hAlo hlo hP hK (va_Dlo hD hAlo) hZ [3] (by decide) rfl (ci := 6) (q0 := 0) rfl rfl) rfl rfl hl.1 rfl (lv_room (Nat.le_of_ble_eq_true rfl)) dX3_readFrom_94 ⟨Nat.le_of_ble_eq_true rfl, Nat.le_of_ble_eq_true rfl⟩) hS hA hP (fun r_10 H locs hw_10 hP hS => ?_)
        try dsimp only at hw_10
        rcases hw_10 with ⟨rfl, hw_10⟩ | ⟨rfl, rfl⟩
        · refine lv_if_ne (tgt := 116) hx hb dX3_readFrom_97 (by decide) (fun _ => ?_) (fun h => absurd h (by decide))
          have hP9 := hP.sub (ws' := [(u0, .inr (3, [.ref u1, .ref u2, .int r_2, .int (nI rc2_3), .int (nI nb_9)])), (u1, .inl (k 1, 24, .inl rs2_3)), (u2, .inl (k 1, 24, .inl rb2_3)), (x0, .inr (6, [.ref x1, .int (nI tz), .int (nI ta__8), .int na__8, .int fn__8, .int fb__8])), (x1, .inl (k 0, 240, .inl fx))]) [0, 1, 2, 3, 4] rfl
          have hD9 := hD.sub (ws' := [(u0, .inr (3, [.ref u1, .ref u2, .int r_2, .int (nI rc2_3), .int (nI nb_9)])), (u1, .inl (k 1, 24, .inl rs2_3)), (u2, .inl (k 1, 24, .inl rb2_3)), (x0, .inr (6, [.ref x1, .int (nI tz), .int (nI ta__8), .int na__8, .int fn__8, .int fb__8])), (x1, .inl (k 0, 240, .inl fx))]) [0, 1, 2, 3, 4] (by decide) rfl
          exact W.vret hx hb hr (fun t ht hW => ⟨⟨(r_2, rc2_3, nb_9, rs2_3, rb2_3, ta__8, na__8, fn__8, fb__8), rfl, ⟨by omega, by omega, by omega⟩, by rw [ht]; exact hP9, hD9⟩, hS.F ht⟩) hS.2.2 dX3_readFrom_116
        · refine lv_if_ne (tgt := 116) hx hb dX3_readFrom_97 (by decide) (fun h => absurd (by decide) h) (fun _ => ?_)
          refine lv_aload_n hx hb dX3_readFrom_100 rfl (lv_at hl 2 rfl) ?_
          refine rw_i (D := D) (wr := [(u0, .inr (3, [.ref u1, .ref u2, .int r_2, .int (nI rc2_3), .int (nI nb_9)])), (u1, .inl (k 1, 24, .inl rs2_3)), (u2, .inl (k 1, 24, .inl rb2_3))]) (va_runV (As := []) (rest := []) ⟨hx, hb, hml, hown, hts⟩ ((x_isAtEnd l D k st lo x0 x1 tz ta__8 na__8 0 fb__8 fx (by omega) (by omega)) H.size) (cwV 0 hts (gV tw_692 tw_372 tw_373 tw_80 tw_374) rfl rfl rfl (by decide +kernel) ⟨Nat.le_of_ble_eq_true rfl, Nat.le_of_ble_eq_true rfl⟩) (pV hS hAlo hlo hP hK (va_Dlo hD hAlo) hZ [3, 4] (by decide) rfl (ci := 6) (q0 := 0) rfl rfl) rfl rfl hl.1 rfl (lv_room (Nat.le_of_ble_eq_true rfl)) dX3_readFrom_101 ⟨Nat.le_of_ble_eq_true rfl, Nat.le_of_ble_eq_true rfl⟩) hS hA hP hD [3, 4] [0, 1, 2] rfl rfl (by decide) (by decide) (fun r_11 u H locs hw_11 hP hD hS => ?_)
          obtain ⟨ta__11, rfl⟩ : ∃ z, z = u := ⟨_, rfl⟩
          replace hP : va_P D classes [(u0, .inr (3, [.ref u1, .ref u2, .int r_2, .int (nI rc2_3), .int (nI nb_9)])), (u1, .inl (k 1, 24, .inl rs2_3)), (u2, .inl (k 1, 24, .inl rb2_3)), (x0, .inr (6, [.ref x1, .int (nI tz), .int (nI ta__11), .int na__8, .int 0, .int fb__8])), (x1, .inl (k 0, 240, .inl fx))] H := hP
          replace hD : va_D A [(u0, .inr (3, [.ref u1, .ref u2, .int r_2, .int (nI rc2_3), .int (nI nb_9)])), (u1, .inl (k 1, 24, .inl rs2_3)), (u2, .inl (k 1, 24, .inl rb2_3)), (x0, .inr (6, [.ref x1, .int (nI tz), .int (nI ta__11), .int na__8, .int 0, .int fb__8])), (x1, .inl (k 0, 240, .inl fx))] := hD
          try dsimp only at hw_11
          rcases hw_11 with ⟨rfl | rfl, hw_11⟩
          · refine lv_if_ne (tgt := 116) hx hb dX3_readFrom_104 (by decide) (fun _ => ?_) (fun h => absurd h (by decide))
            have hP9 := hP.sub (ws' := [(u0, .inr (3, [.ref u1, .ref u2, .int r_2, .int (nI rc2_3), .int (nI nb_9)])), (u1, .inl (k 1, 24, .inl rs2_3)), (u2, .inl (k 1, 24, .inl rb2_3)), (x0, .inr (6, [.ref x1, .int (nI tz), .int (nI ta__11), .int na__8, .int 0, .int fb__8])), (x1, .inl (k 0, 240, .inl fx))]) [0, 1, 2, 3, 4] rfl
            have hD9 := hD.sub (ws' := [(u0, .inr (3, [.ref u1, .ref u2, .int r_2, .int (nI rc2_3), .int (nI nb_9)])), (u1, .inl (k 1, 24, .inl rs2_3)), (u2, .inl (k 1, 24, .inl rb2_3)), (x0, .inr (6, [.ref x1, .int (nI tz), .int (nI ta__11), .int na__8, .int 0, .int fb__8])), (x1, .inl (k 0, 240, .inl fx))]) [0, 1, 2, 3, 4] (by decide) rfl
            exact W.vret hx hb hr (fun t ht hW => ⟨⟨(r_2, rc2_3, nb_9, rs2_3, rb2_3, ta__11, na__8, 0, fb__8), rfl, ⟨by omega, by omega, by omega⟩, by rw [ht]; exact hP9, hD9⟩, hS.F ht⟩) hS.2.2 dX3_readFrom_116
          · refine lv_if_ne (tgt := 116) hx hb dX3_readFrom_104 (by decide) (fun h => absurd (by decide) h) (fun _ => ?_)
            refine lv_aload_n hx hb dX3_readFrom_107 rfl (lv_at hl 2 rfl) ?_
            refine lv_iconst (v := 1) hx hb dX3_readFrom_108 (by decide) ?_
            refine lv_aload_n hx hb dX3_readFrom_109 rfl (lv_at hl 2 rfl) ?_
            refine va_get (D := D) (ci := 6) (v := .int (nI ta__11)) (C := RX6) (T := TX6) (N := 6) hx hb hts inX6 hown hK hP 3 rfl rfl 2 (by decide) (hts _ tw_114) (fun _ h9 => h9) rfl dX3_readFrom_110 ?_
            refine rw_v (D := D) (wr := [(u0, .inr (3, [.ref u1, .ref u2, .int r_2, .int (nI rc2_3), .int (nI nb_9)])), (u1, .inl (k 1, 24, .inl rs2_3)), (u2, .inl (k 1, 24, .inl rb2_3)), (x1, .inl (k 0, 240, .inl fx))]) (va_runV (As := [.int 1, .int (nI ta__11)]) (rest := []) ⟨hx, hb, hml, hown, hts⟩ ((x_fail l D k st lo x0 x1 tz ta__11 na__8 0 fb__8 1 (nI ta__11) (by decide)) H.size) (cwV 2 hts (gV tw_689 tw_456 tw_457 tw_80 tw_458) rfl rfl rfl (by decide +kernel) ⟨Nat.le_of_ble_eq_true rfl, Nat.le_of_ble_eq_true rfl⟩) (pV hS hAlo hlo hP hK (va_Dlo hD hAlo) hZ [3] (by decide) rfl (ci := 6) (q0 := 0) rfl rfl) rfl rfl hl.1 rfl (lv_room (Nat.le_of_ble_eq_true rfl)) dX3_readFrom_113 ⟨Nat.le_of_ble_eq_true rfl, Nat.le_of_ble_eq_true rfl⟩) hS hA hP hD [3] [0, 1, 2, 4] rfl rfl (by decide) (by decide) (fun u H locs hw_12 hP hD hS => ?_)
            obtain ⟨fn__12, fb__12⟩ := u
            replace hP : va_P D classes [(u0, .inr (3, [.ref u1, .ref u2, .int r_2, .int (nI rc2_3), .int (nI nb_9)])), (u1, .inl (k 1, 24, .inl rs2_3)), (u2, .inl (k 1, 24, .inl rb2_3)), (x1, .inl (k 0, 240, .inl fx)), (x0, .inr (6, [.ref x1, .int (nI tz), .int (nI ta__11), .int na__8, .int fn__12, .int fb__12]))] H := hP
            replace hD : va_D A [(u0, .inr (3, [.ref u1, .ref u2, .int r_2, .int (nI rc2_3), .int (nI nb_9)])), (u1, .inl (k 1, 24, .inl rs2_3)), (u2, .inl (k 1, 24, .inl rb2_3)), (x1, .inl (k 0, 240, .inl fx)), (x0, .inr (6, [.ref x1, .int (nI tz), .int (nI ta__11), .int na__8, .int fn__12, .int fb__12]))] := hD
            try dsimp only at hw_12
            have hP9 := hP.sub (ws' := [(u0, .inr (3, [.ref u1, .ref u2, .int r_2, .int (nI rc2_3), .int (nI nb_9)])), (u1, .inl (k 1, 24, .inl rs2_3)), (u2, .inl (k 1, 24, .inl rb2_3)), (x0, .inr (6, [.ref x1, .int (nI tz), .int (nI ta__11), .int na__8, .int fn__12, .int fb__12])), (x1, .inl (k 0, 240, .inl fx))]) [0, 1, 2, 4, 3] rfl
            have hD9 := hD.sub (ws' := [(u0, .inr (3, [.ref u1, .ref u2, .int r_2, .int (nI rc2_3), .int (nI nb_9)])), (u1, .inl (k 1, 24, .inl rs2_3)), (u2, .inl (k 1, 24, .inl rb2_3)), (x0, .inr (6, [.ref x1, .int (nI tz), .int (nI ta__11), .int na__8, .int fn__12, .int fb__12])), (x1, .inl (k 0, 240, .inl fx))]) [0, 1, 2, 4, 3] (by decide) rfl
            exact W.vret hx hb hr (fun t ht hW => ⟨⟨(r_2, rc2_3, nb_9, rs2_3, rb2_3, ta__11, na__8, fn__12, fb__12), rfl, ⟨by omega, by omega, by omega⟩, by rw [ht]; exact hP9, hD9⟩, hS.F ht⟩) hS.2.2 dX3_readFrom_116
      · refine lv_if_eq (tgt := 93) hx hb dX3_readFrom_75 (by decide) (fun _ => ?_) (fun h => absurd (by decide) h)
        refine lv_aload_n hx hb dX3_readFrom_93 rfl (lv_at hl 2 rfl) ?_
        refine ro_i (D := D) (va_runV (As := []) (rest := []) ⟨hx, hb, hml, hown, hts⟩ ((x_failed l D k st lo x0 x1 tz ta__7 na2_3 0 fb2_3) H.size) (cwV 0 hts (gV tw_682 tw_368 tw_369 tw_80 tw_370) rfl rfl rfl (by decide +kernel) ⟨Nat.le_of_ble_eq_true rfl, Nat.le_of_ble_eq_true rfl⟩) (pV hS hAlo hlo hP hK (va_Dlo hD hAlo) hZ [3] (by decide) rfl (ci := 6) (q0 := 0) rfl rfl) rfl rfl hl.1 rfl (lv_room (Nat.le_of_ble_eq_true rfl)) dX3_readFrom_94 ⟨Nat.le_of_ble_eq_true rfl, Nat.le_of_ble_eq_true rfl⟩) hS hA hP (fun r_13 H locs hw_13 hP hS => ?_)
        try dsimp only at hw_13
        obtain rfl : r_13 = 0 := by rcases hw_13 with ⟨h, h2⟩ | ⟨h, h2⟩ <;> first | exact h | exact absurd rfl h2 | exact absurd h2 (by decide)
        refine lv_if_ne (tgt := 116) hx hb dX3_readFrom_97 (by decide) (fun h => absurd (by decide) h) (fun _ => ?_)
        refine lv_aload_n hx hb dX3_readFrom_100 rfl (lv_at hl 2 rfl) ?_
        refine rw_i (D := D) (wr := [(u0, .inr (3, [.ref u1, .ref u2, .int r_2, .int (nI rc2_3), .int 0])), (u1, .inl (k 1, 24, .inl rs2_3)), (u2, .inl (k 1, 24, .inl rb2_3))]) (va_runV (As := []) (rest := []) ⟨hx, hb, hml, hown, hts⟩ ((x_isAtEnd l D k st lo x0 x1 tz ta__7 na2_3 0 fb2_3 fx (by omega) (by omega)) H.size) (cwV 0 hts (gV tw_692 tw_372 tw_373 tw_80 tw_374) rfl rfl rfl (by decide +kernel) ⟨Nat.le_of_ble_eq_true rfl, Nat.le_of_ble_eq_true rfl⟩) (pV hS hAlo hlo hP hK (va_Dlo hD hAlo) hZ [3, 4] (by decide) rfl (ci := 6) (q0 := 0) rfl rfl) rfl rfl hl.1 rfl (lv_room (Nat.le_of_ble_eq_true rfl)) dX3_readFrom_101 ⟨Nat.le_of_ble_eq_true rfl, Nat.le_of_ble_eq_true rfl⟩) hS hA hP hD [3, 4] [0, 1, 2] rfl rfl (by decide) (by decide) (fun r_14 u H locs hw_14 hP hD hS => ?_)
        obtain ⟨ta__14, rfl⟩ : ∃ z, z = u := ⟨_, rfl⟩
        replace hP : va_P D classes [(u0, .inr (3, [.ref u1, .ref u2, .int r_2, .int (nI rc2_3), .int 0])), (u1, .inl (k 1, 24, .inl rs2_3)), (u2, .inl (k 1, 24, .inl rb2_3)), (x0, .inr (6, [.ref x1, .int (nI tz), .int (nI ta__14), .int na2_3, .int 0, .int fb2_3])), (x1, .inl (k 0, 240, .inl fx))] H := hP
        replace hD : va_D A [(u0, .inr (3, [.ref u1, .ref u2, .int r_2, .int (nI rc2_3), .int 0])), (u1, .inl (k 1, 24, .inl rs2_3)), (u2, .inl (k 1, 24, .inl rb2_3)), (x0, .inr (6, [.ref x1, .int (nI tz), .int (nI ta__14), .int na2_3, .int 0, .int fb2_3])), (x1, .inl (k 0, 240, .inl fx))] := hD
        try dsimp only at hw_14
        rcases hw_14 with ⟨rfl | rfl, hw_14⟩
        · refine lv_if_ne (tgt := 116) hx hb dX3_readFrom_104 (by decide) (fun _ => ?_) (fun h => absurd h (by decide))
          have hP9 := hP.sub (ws' := [(u0, .inr (3, [.ref u1, .ref u2, .int r_2, .int (nI rc2_3), .int 0])), (u1, .inl (k 1, 24, .inl rs2_3)), (u2, .inl (k 1, 24, .inl rb2_3)), (x0, .inr (6, [.ref x1, .int (nI tz), .int (nI ta__14), .int na2_3, .int 0, .int fb2_3])), (x1, .inl (k 0, 240, .inl fx))]) [0, 1, 2, 3, 4] rfl
          have hD9 := hD.sub (ws' := [(u0, .inr (3, [.ref u1, .ref u2, .int r_2, .int (nI rc2_3), .int 0])), (u1, .inl (k 1, 24, .inl rs2_3)), (u2, .inl (k 1, 24, .inl rb2_3)), (x0, .inr (6, [.ref x1, .int (nI tz), .int (nI ta__14), .int na2_3, .int 0, .int fb2_3])), (x1, .inl (k 0, 240, .inl fx))]) [0, 1, 2, 3, 4] (by decide) rfl
          exact W.vret hx hb hr (fun t ht hW => ⟨⟨(r_2, rc2_3, 0, rs2_3, rb2_3, ta__14, na2_3, 0, fb2_3), rfl, ⟨by omega, by omega, by omega⟩, by rw [ht]; exact hP9, hD9⟩, hS.F ht⟩) hS.2.2 dX3_readFrom_116
        · refine lv_if_ne (tgt := 116) hx hb dX3_readFrom_104 (by decide) (fun h => absurd (by decide) h) (fun _ => ?_)
          refine lv_aload_n hx hb dX3_readFrom_107 rfl (lv_at hl 2 rfl) ?_
          refine lv_iconst (v := 1) hx hb dX3_readFrom_108 (by decide) ?_
          refine lv_aload_n hx hb dX3_readFrom_109 rfl (lv_at hl 2 rfl) ?_
          refine va_get (D := D) (ci := 6) (v := .int (nI ta__14)) (C := RX6) (T := TX6) (N := 6) hx hb hts inX6 hown hK hP 3 rfl rfl 2 (by decide) (hts _ tw_114) (fun _ h9 => h9) rfl dX3_readFrom_110 ?_
          refine rw_v (D := D) (wr := [(u0, .inr (3, [.ref u1, .ref u2, .int r_2, .int (nI rc2_3), .int 0])), (u1, .inl (k 1, 24, .inl rs2_3)), (u2, .inl (k 1, 24, .inl rb2_3)), (x1, .inl (k 0, 240, .inl fx))]) (va_runV (As := [.int 1, .int (nI ta__14)]) (rest := []) ⟨hx, hb, hml, hown, hts⟩ ((x_fail l D k st lo x0 x1 tz ta__14 na2_3 0 fb2_3 1 (nI ta__14) (by decide)) H.size) (cwV 2 hts (gV tw_689 tw_456 tw_457 tw_80 tw_458) rfl rfl rfl (by decide +kernel) ⟨Nat.le_of_ble_eq_true rfl, Nat.le_of_ble_eq_true rfl⟩) (pV hS hAlo hlo hP hK (va_Dlo hD hAlo) hZ [3] (by decide) rfl (ci := 6) (q0 := 0) rfl rfl) rfl rfl hl.1 rfl (lv_room (Nat.le_of_ble_eq_true rfl)) dX3_readFrom_113 ⟨Nat.le_of_ble_eq_true rfl, Nat.le_of_ble_eq_true rfl⟩) hS hA hP hD [3] [0, 1, 2, 4] rfl rfl (by decide) (by decide) (fun u H locs hw_15 hP hD hS => ?_)
          obtain ⟨fn__15, fb__15⟩ := u
          replace hP : va_P D classes [(u0, .inr (3, [.ref u1, .ref u2, .int r_2, .int (nI rc2_3), .int 0])), (u1, .inl (k 1, 24, .inl rs2_3)), (u2, .inl (k 1, 24, .inl rb2_3)), (x1, .inl (k 0, 240, .inl fx)), (x0, .inr (6, [.ref x1, .int (nI tz), .int (nI ta__14), .int na2_3, .int fn__15, .int fb__15]))] H := hP
          replace hD : va_D A [(u0, .inr (3, [.ref u1, .ref u2, .int r_2, .int (nI rc2_3), .int 0])), (u1, .inl (k 1, 24, .inl rs2_3)), (u2, .inl (k 1, 24, .inl rb2_3)), (x1, .inl (k 0, 240, .inl fx)), (x0, .inr (6, [.ref x1, .int (nI tz), .int (nI ta__14), .int na2_3, .int fn__15, .int fb__15]))] := hD
          try dsimp only at hw_15
          have hP9 := hP.sub (ws' := [(u0, .inr (3, [.ref u1, .ref u2, .int r_2, .int (nI rc2_3), .int 0])), (u1, .inl (k 1, 24, .inl rs2_3)), (u2, .inl (k 1, 24, .inl rb2_3)), (x0, .inr (6, [.ref x1, .int (nI tz), .int (nI ta__14), .int na2_3, .int fn__15, .int fb__15])), (x1, .inl (k 0, 240, .inl fx))]) [0, 1, 2, 4, 3] rfl
          have hD9 := hD.sub (ws' := [(u0, .inr (3, [.ref u1, .ref u2, .int r_2, .int (nI rc2_3), .int 0])), (u1, .inl (k 1, 24, .inl rs2_3)), (u2, .inl (k 1, 24, .inl rb2_3)), (x0, .inr (6, [.ref x1, .int (nI tz), .int (nI ta__14), .int na2_3, .int fn__15, .int fb__15])), (x1, .inl (k 0, 240, .inl fx))]) [0, 1, 2, 4, 3] (by decide) rfl
          exact W.vret hx hb hr (fun t ht hW => ⟨⟨(r_2, rc2_3, 0, rs2_3, rb2_3, ta__14, na2_3, fn__15, fb__15), rfl, ⟨by omega, by omega, by omega⟩, by rw [ht]; exact hP9, hD9⟩, hS.F ht⟩) hS.2.2 dX3_readFrom_116
  · have c_4 : ¬ (24 ≤ kk_3) := fun h => c_4 ((nI_leI (a := 24) (b := kk_3) (by omega) (by omega)).mpr h)
    refine lv_aload_n hx hb dX3_readFrom_35 rfl (lv_at hl 2 rfl) ?_
    refine ro_i (D := D) (va_runV (As := []) (rest := []) ⟨hx, hb, hml, hown, hts⟩ ((x_failed l D k st lo x0 x1 tz ta2_3 na2_3 fn2_3 fb2_3) H.size) (cwV 0 hts (gV tw_682 tw_368 tw_369 tw_80 tw_370) rfl rfl rfl (by decide +kernel) ⟨Nat.le_of_ble_eq_true rfl, Nat.le_of_ble_eq_true rfl⟩) (pV hS hAlo hlo hP hK (va_Dlo hD hAlo) hZ [3] (by decide) rfl (ci := 6) (q0 := 0) rfl rfl) rfl rfl hl.1 rfl (lv_room (Nat.le_of_ble_eq_true rfl)) dX3_readFrom_36 ⟨Nat.le_of_ble_eq_true rfl, Nat.le_of_ble_eq_true rfl⟩) hS hA hP (fun r_16 H locs hw_16 hP hS => ?_)
    try dsimp only at hw_16
    rcases hw_16 with ⟨rfl, hw_16⟩ | ⟨rfl, rfl⟩
    · refine lv_if_ne (tgt := 62) hx hb dX3_readFrom_39 (by decide) (fun _ => ?_) (fun h => absurd h (by decide))
      refine lv_aload_n hx hb dX3_readFrom_62 rfl (lv_at hl 2 rfl) ?_
      refine ro_i (D := D) (va_runV (As := []) (rest := []) ⟨hx, hb, hml, hown, hts⟩ ((x_failed l D k st lo x0 x1 tz ta2_3 na2_3 fn2_3 fb2_3) H.size) (cwV 0 hts (gV tw_682 tw_368 tw_369 tw_80 tw_370) rfl rfl rfl (by decide +kernel) ⟨Nat.le_of_ble_eq_true rfl, Nat.le_of_ble_eq_true rfl⟩) (pV hS hAlo hlo hP hK (va_Dlo hD hAlo) hZ [3] (by decide) rfl (ci := 6) (q0 := 0) rfl rfl) rfl rfl hl.1 rfl (lv_room (Nat.le_of_ble_eq_true rfl)) dX3_readFrom_63 ⟨Nat.le_of_ble_eq_true rfl, Nat.le_of_ble_eq_true rfl⟩) hS hA hP (fun r_17 H locs hw_17 hP hS => ?_)
      try dsimp only at hw_17
      obtain rfl : r_17 = 1 := by rcases hw_17 with ⟨h, h2⟩ | ⟨h, h2⟩ <;> first | exact h | exact absurd h2 hw_16
      refine lv_if_ne (tgt := 93) hx hb dX3_readFrom_66 (by decide) (fun _ => ?_) (fun h => absurd h (by decide))
      refine lv_aload_n hx hb dX3_readFrom_93 rfl (lv_at hl 2 rfl) ?_
      refine ro_i (D := D) (va_runV (As := []) (rest := []) ⟨hx, hb, hml, hown, hts⟩ ((x_failed l D k st lo x0 x1 tz ta2_3 na2_3 fn2_3 fb2_3) H.size) (cwV 0 hts (gV tw_682 tw_368 tw_369 tw_80 tw_370) rfl rfl rfl (by decide +kernel) ⟨Nat.le_of_ble_eq_true rfl, Nat.le_of_ble_eq_true rfl⟩) (pV hS hAlo hlo hP hK (va_Dlo hD hAlo) hZ [3] (by decide) rfl (ci := 6) (q0 := 0) rfl rfl) rfl rfl hl.1 rfl (lv_room (Nat.le_of_ble_eq_true rfl)) dX3_readFrom_94 ⟨Nat.le_of_ble_eq_true rfl, Nat.le_of_ble_eq_true rfl⟩) hS hA hP (fun r_18 H locs hw_18 hP hS => ?_)
      try dsimp only at hw_18
      obtain rfl : r_18 = 1 := by rcases hw_18 with ⟨h, h2⟩ | ⟨h, h2⟩ <;> first | exact h | exact absurd h2 hw_16
      refine lv_if_ne (tgt := 116) hx hb dX3_readFrom_97 (by decide) (fun _ => ?_) (fun h => absurd h (by decide))
      have hP9 := hP.sub (ws' := [(u0, .inr (3, [.ref u1, .ref u2, .int r_2, .int (nI rc2_3), .int 0])), (u1, .inl (k 1, 24, .inl rs2_3)), (u2, .inl (k 1, 24, .inl rb2_3)), (x0, .inr (6, [.ref x1, .int (nI tz), .int (nI ta2_3), .int na2_3, .int fn2_3, .int fb2_3])), (x1, .inl (k 0, 240, .inl fx))]) [0, 1, 2, 3, 4] rfl
      have hD9 := hD.sub (ws' := [(u0, .inr (3, [.ref u1, .ref u2, .int r_2, .int (nI rc2_3), .int 0])), (u1, .inl (k 1, 24, .inl rs2_3)), (u2, .inl (k 1, 24, .inl rb2_3)), (x0, .inr (6, [.ref x1, .int (nI tz), .int (nI ta2_3), .int na2_3, .int fn2_3, .int fb2_3])), (x1, .inl (k 0, 240, .inl fx))]) [0, 1, 2, 3, 4] (by decide) rfl
      exact W.vret hx hb hr (fun t ht hW => ⟨⟨(r_2, rc2_3, 0, rs2_3, rb2_3, ta2_3, na2_3, fn2_3, fb2_3), rfl, ⟨by omega, by omega, by omega⟩, by rw [ht]; exact hP9, hD9⟩, hS.F ht⟩) hS.2.2 dX3_readFrom_116
    · refine lv_if_ne (tgt := 62) hx hb dX3_readFrom_39 (by decide) (fun h => absurd (by decide) h) (fun _ => ?_)
      refine lv_aload_n hx hb dX3_readFrom_42 rfl (lv_at hl 2 rfl) ?_
      refine va_ldcS hx hb hown (hZ.2.2.2.2.2.2.2.2.2.2 (RX3, 43, "seen", 13) (List.mem_of_getElem? (i := 13) rfl)) dX3_readFrom_43 ?_
      refine rw_i (D := D) (wr := [(u0, .inr (3, [.ref u1, .ref u2, .int r_2, .int (nI rc2_3), .int 0])), (u1, .inl (k 1, 24, .inl rs2_3)), (u2, .inl (k 1, 24, .inl rb2_3))]) (va_runV (As := [.ref (st (100 + 13))]) (rest := []) ⟨hx, hb, hml, hown, hts⟩ ((x_takeWord l D k st lo x0 x1 tz ta2_3 na2_3 0 fb2_3 fx 13 (by omega) (by omega) (by omega)) H.size) (cwV 1 hts (gV tw_684 tw_400 tw_401 tw_80 tw_402) rfl rfl rfl (by decide +kernel) ⟨Nat.le_of_ble_eq_true rfl, Nat.le_of_ble_eq_true rfl⟩) (pV hS hAlo hlo hP hK (va_Dlo hD hAlo) hZ [3, 4] (by decide) rfl (ci := 6) (q0 := 0) rfl rfl) rfl rfl hl.1 rfl (lv_room (Nat.le_of_ble_eq_true rfl)) dX3_readFrom_45 ⟨Nat.le_of_ble_eq_true rfl, Nat.le_of_ble_eq_true rfl⟩) hS hA hP hD [3, 4] [0, 1, 2] rfl rfl (by decide) (by decide) (fun r_19 u H locs hw_19 hP hD hS => ?_)
      obtain ⟨ta__19, rfl⟩ : ∃ z, z = u := ⟨_, rfl⟩
      replace hP : va_P D classes [(u0, .inr (3, [.ref u1, .ref u2, .int r_2, .int (nI rc2_3), .int 0])), (u1, .inl (k 1, 24, .inl rs2_3)), (u2, .inl (k 1, 24, .inl rb2_3)), (x0, .inr (6, [.ref x1, .int (nI tz), .int (nI ta__19), .int na2_3, .int 0, .int fb2_3])), (x1, .inl (k 0, 240, .inl fx))] H := hP
      replace hD : va_D A [(u0, .inr (3, [.ref u1, .ref u2, .int r_2, .int (nI rc2_3), .int 0])), (u1, .inl (k 1, 24, .inl rs2_3)), (u2, .inl (k 1, 24, .inl rb2_3)), (x0, .inr (6, [.ref x1, .int (nI tz), .int (nI ta__19), .int na2_3, .int 0, .int fb2_3])), (x1, .inl (k 0, 240, .inl fx))] := hD
      try dsimp only at hw_19
      rcases hw_19 with ⟨rfl | rfl, hw_19⟩
      · refine lv_if_eq (tgt := 62) hx hb dX3_readFrom_48 (by decide) (fun h => absurd h (by decide)) (fun _ => ?_)
        refine lv_aload_n hx hb dX3_readFrom_51 rfl (lv_at hl 1 rfl) ?_
        refine lv_aload_n hx hb dX3_readFrom_52 rfl (lv_at hl 2 rfl) ?_
        refine rw_v (D := D) (wr := []) (va_runV (As := [.ref x0]) (rest := []) ⟨hx, hb, hml, hown, hts⟩ ((x_readChange l D k st lo u0 u1 u2 r_2 rc2_3 0 rs2_3 rb2_3 x0 x1 tz ta__19 na2_3 0 fb2_3 fx (by omega) (by omega) (by omega)) H.size) (cwV 1 hts (gV tw_685 tw_687 tw_14 tw_86 tw_688) rfl rfl rfl (by decide +kernel) ⟨Nat.le_of_ble_eq_true rfl, Nat.le_of_ble_eq_true rfl⟩) (pV hS hAlo hlo hP hK (va_Dlo hD hAlo) hZ [0, 1, 2, 3, 4] (by decide) rfl (ci := 3) (q0 := 0) rfl rfl) rfl rfl hl.1 rfl (lv_room (Nat.le_of_ble_eq_true rfl)) dX3_readFrom_53 ⟨Nat.le_of_ble_eq_true rfl, Nat.le_of_ble_eq_true rfl⟩) hS hA hP hD [0, 1, 2, 3, 4] [] rfl rfl (by decide) (by decide) (fun u H locs hw_20 hP hD hS => ?_)
        obtain ⟨rc__20, rs__20, rb__20, ta__20, na__20, fn__20, fb__20⟩ := u
        replace hP : va_P D classes [(u0, .inr (3, [.ref u1, .ref u2, .int r_2, .int (nI rc__20), .int 0])), (u1, .inl (k 1, 24, .inl rs__20)), (u2, .inl (k 1, 24, .inl rb__20)), (x0, .inr (6, [.ref x1, .int (nI tz), .int (nI ta__20), .int na__20, .int fn__20, .int fb__20])), (x1, .inl (k 0, 240, .inl fx))] H := hP
        replace hD : va_D A [(u0, .inr (3, [.ref u1, .ref u2, .int r_2, .int (nI rc__20), .int 0])), (u1, .inl (k 1, 24, .inl rs__20)), (u2, .inl (k 1, 24, .inl rb__20)), (x0, .inr (6, [.ref x1, .int (nI tz), .int (nI ta__20), .int na__20, .int fn__20, .int fb__20])), (x1, .inl (k 0, 240, .inl fx))] := hD
        try dsimp only at hw_20
        refine lv_iinc (v := (nI (kk_3 + 1))) (lv' := [(2, .int (nI (kk_3 + 1))), (0, .ref u0), (1, .ref x0)]) hx hb dX3_readFrom_56 hl (k := 0) rfl (nI_add kk_3 1) (by decide) rfl (fun ls hl => ?_)
        refine lv_goto (tgt := 29) hx hb dX3_readFrom_59 (by decide) ?_
        exact ih_3 _ (kk_3 + 1, rc__20, rs__20, rb__20, ta__20, na__20, fn__20, fb__20) _ _ _ (by omega) ⟨rfl, ⟨by omega, by omega, by omega⟩, hP, hD, hS, (lv_sub hl [0, 1, 2] rfl)⟩
      · refine lv_if_eq (tgt := 62) hx hb dX3_readFrom_48 (by decide) (fun _ => ?_) (fun h => absurd (by decide) h)
        refine lv_aload_n hx hb dX3_readFrom_62 rfl (lv_at hl 2 rfl) ?_
        refine ro_i (D := D) (va_runV (As := []) (rest := []) ⟨hx, hb, hml, hown, hts⟩ ((x_failed l D k st lo x0 x1 tz ta__19 na2_3 0 fb2_3) H.size) (cwV 0 hts (gV tw_682 tw_368 tw_369 tw_80 tw_370) rfl rfl rfl (by decide +kernel) ⟨Nat.le_of_ble_eq_true rfl, Nat.le_of_ble_eq_true rfl⟩) (pV hS hAlo hlo hP hK (va_Dlo hD hAlo) hZ [3] (by decide) rfl (ci := 6) (q0 := 0) rfl rfl) rfl rfl hl.1 rfl (lv_room (Nat.le_of_ble_eq_true rfl)) dX3_readFrom_63 ⟨Nat.le_of_ble_eq_true rfl, Nat.le_of_ble_eq_true rfl⟩) hS hA hP (fun r_21 H locs hw_21 hP hS => ?_)
        try dsimp only at hw_21
        obtain rfl : r_21 = 0 := by rcases hw_21 with ⟨h, h2⟩ | ⟨h, h2⟩ <;> first | exact h | exact absurd rfl h2 | exact absurd h2 (by decide)
        refine lv_if_ne (tgt := 93) hx hb dX3_readFrom_66 (by decide) (fun h => absurd (by decide) h) (fun _ => ?_)
        refine lv_aload_n hx hb dX3_readFrom_69 rfl (lv_at hl 2 rfl) ?_
        refine va_ldcS hx hb hown (hZ.2.2.2.2.2.2.2.2.2.2 (RX3, 52, "round", 7) (List.mem_of_getElem? (i := 14) rfl)) dX3_readFrom_70 ?_
        refine rw_i (D := D) (wr := [(u0, .inr (3, [.ref u1, .ref u2, .int r_2, .int (nI rc2_3), .int 0])), (u1, .inl (k 1, 24, .inl rs2_3)), (u2, .inl (k 1, 24, .inl rb2_3))]) (va_runV (As := [.ref (st (100 + 7))]) (rest := []) ⟨hx, hb, hml, hown, hts⟩ ((x_takeWord l D k st lo x0 x1 tz ta__19 na2_3 0 fb2_3 fx 7 (by omega) (by omega) (by omega)) H.size) (cwV 1 hts (gV tw_684 tw_400 tw_401 tw_80 tw_402) rfl rfl rfl (by decide +kernel) ⟨Nat.le_of_ble_eq_true rfl, Nat.le_of_ble_eq_true rfl⟩) (pV hS hAlo hlo hP hK (va_Dlo hD hAlo) hZ [3, 4] (by decide) rfl (ci := 6) (q0 := 0) rfl rfl) rfl rfl hl.1 rfl (lv_room (Nat.le_of_ble_eq_true rfl)) dX3_readFrom_72 ⟨Nat.le_of_ble_eq_true rfl, Nat.le_of_ble_eq_true rfl⟩) hS hA hP hD [3, 4] [0, 1, 2] rfl rfl (by decide) (by decide) (fun r_22 u H locs hw_22 hP hD hS => ?_)
        obtain ⟨ta__22, rfl⟩ : ∃ z, z = u := ⟨_, rfl⟩
        replace hP : va_P D classes [(u0, .inr (3, [.ref u1, .ref u2, .int r_2, .int (nI rc2_3), .int 0])), (u1, .inl (k 1, 24, .inl rs2_3)), (u2, .inl (k 1, 24, .inl rb2_3)), (x0, .inr (6, [.ref x1, .int (nI tz), .int (nI ta__22), .int na2_3, .int 0, .int fb2_3])), (x1, .inl (k 0, 240, .inl fx))] H := hP
        replace hD : va_D A [(u0, .inr (3, [.ref u1, .ref u2, .int r_2, .int (nI rc2_3), .int 0])), (u1, .inl (k 1, 24, .inl rs2_3)), (u2, .inl (k 1, 24, .inl rb2_3)), (x0, .inr (6, [.ref x1, .int (nI tz), .int (nI ta__22), .int na2_3, .int 0, .int fb2_3])), (x1, .inl (k 0, 240, .inl fx))] := hD
        try dsimp only at hw_22
        rcases hw_22 with ⟨rfl | rfl, hw_22⟩
        · refine lv_if_eq (tgt := 93) hx hb dX3_readFrom_75 (by decide) (fun h => absurd h (by decide)) (fun _ => ?_)
          refine lv_aload_n hx hb dX3_readFrom_78 rfl (lv_at hl 1 rfl) ?_
          refine lv_aload_n hx hb dX3_readFrom_79 rfl (lv_at hl 2 rfl) ?_
          refine lv_iconst (v := 0) hx hb dX3_readFrom_80 (by decide) ?_
          refine va_getsN (A := A) hx hb (hZ.2.2.1.narrow hAlo) hS hown ((hZ.2.2.2.2.2.2.2.2.1.2.1 (RX3, 54, "LastPlace", "MOST", "[I", RX7) (List.mem_of_getElem? (i := 3) rfl)).use rfl) (fun _ h9 => h9) dX3_readFrom_81 ?_
          refine lv_bipush (v := 8) hx hb dX3_readFrom_84 (by decide) ?_
          refine va_ti (A := A) hx hb (hZ.2.2.2.1.narrow hAlo) hS (i := 8) (by unfold vp_in; decide) (v := .int 3) rfl dX3_readFrom_86 ?_
          refine rw_i (D := D) (wr := [(u0, .inr (3, [.ref u1, .ref u2, .int r_2, .int (nI rc2_3), .int 0])), (u1, .inl (k 1, 24, .inl rs2_3)), (u2, .inl (k 1, 24, .inl rb2_3))]) (va_runV (As := [.int 0, .int 3]) (rest := [.ref u0]) ⟨hx, hb, hml, hown, hts⟩ ((x_needNumber l D k st lo x0 x1 tz ta__22 na2_3 0 fb2_3 fx 0 3 (by omega) (by omega) (by decide)) H.size) (cwV 2 hts (gV tw_681 tw_468 tw_469 tw_80 tw_470) rfl rfl rfl (by decide +kernel) ⟨Nat.le_of_ble_eq_true rfl, Nat.le_of_ble_eq_true rfl⟩) (pV hS hAlo hlo hP hK (va_Dlo hD hAlo) hZ [3, 4] (by decide) rfl (ci := 6) (q0 := 0) rfl rfl) rfl rfl hl.1 rfl (lv_room (Nat.le_of_ble_eq_true rfl)) dX3_readFrom_87 ⟨Nat.le_of_ble_eq_true rfl, Nat.le_of_ble_eq_true rfl⟩) hS hA hP hD [3, 4] [0, 1, 2] rfl rfl (by decide) (by decide) (fun r_23 u H locs hw_23 hP hD hS => ?_)
          obtain ⟨ta__23, na__23, fn__23, fb__23⟩ := u
          replace hP : va_P D classes [(u0, .inr (3, [.ref u1, .ref u2, .int r_2, .int (nI rc2_3), .int 0])), (u1, .inl (k 1, 24, .inl rs2_3)), (u2, .inl (k 1, 24, .inl rb2_3)), (x0, .inr (6, [.ref x1, .int (nI tz), .int (nI ta__23), .int na__23, .int fn__23, .int fb__23])), (x1, .inl (k 0, 240, .inl fx))] H := hP
          replace hD : va_D A [(u0, .inr (3, [.ref u1, .ref u2, .int r_2, .int (nI rc2_3), .int 0])), (u1, .inl (k 1, 24, .inl rs2_3)), (u2, .inl (k 1, 24, .inl rb2_3)), (x0, .inr (6, [.ref x1, .int (nI tz), .int (nI ta__23), .int na__23, .int fn__23, .int fb__23])), (x1, .inl (k 0, 240, .inl fx))] := hD
          try dsimp only at hw_23
          obtain ⟨nb_24, hnl_24, hnh_24, rfl⟩ := inB_ofc (a := 0) (b := 3) (by omega) (by omega) hw_23.2.2.1
          refine va_put (D := D) (ci := 3) (v := .int (nI nb_24)) (ty := .int) (C := RX3) (T := TX3) (N := 5) hx hb hts inX3 tyX3 tyX3_ok nmX3 hown hK hP hD hS 0 rfl rfl 4 (by decide) (hts _ tw_293) (fun _ h9 => h9) rfl (by decide +kernel) rfl rfl (Nat.le_of_ble_eq_true rfl) dX3_readFrom_90 (fun H locs hP hD hS => ?_)
          replace hP : va_P D classes [(u0, .inr (3, [.ref u1, .ref u2, .int r_2, .int (nI rc2_3), .int (nI nb_24)])), (u1, .inl (k 1, 24, .inl rs2_3)), (u2, .inl (k 1, 24, .inl rb2_3)), (x0, .inr (6, [.ref x1, .int (nI tz), .int (nI ta__23), .int na__23, .int fn__23, .int fb__23])), (x1, .inl (k 0, 240, .inl fx))] H := hP
          replace hD : va_D A [(u0, .inr (3, [.ref u1, .ref u2, .int r_2, .int (nI rc2_3), .int (nI nb_24)])), (u1, .inl (k 1, 24, .inl rs2_3)), (u2, .inl (k 1, 24, .inl rb2_3)), (x0, .inr (6, [.ref x1, .int (nI tz), .int (nI ta__23), .int na__23, .int fn__23, .int fb__23])), (x1, .inl (k 0, 240, .inl fx))] := hD
          refine lv_aload_n hx hb dX3_readFrom_93 rfl (lv_at hl 2 rfl) ?_
          refine ro_i (D := D) (va_runV (As := []) (rest := []) ⟨hx, hb, hml, hown, hts⟩ ((x_failed l D k st lo x0 x1 tz ta__23 na__23 fn__23 fb__23) H.size) (cwV 0 hts (gV tw_682 tw_368 tw_369 tw_80 tw_370) rfl rfl rfl (by decide +kernel) ⟨Nat.le_of_ble_eq_true rfl, Nat.le_of_ble_eq_true rfl⟩) (pV hS hAlo hlo hP hK (va_Dlo hD hAlo) hZ [3] (by decide) rfl (ci := 6) (q0 := 0) rfl rfl) rfl rfl hl.1 rfl (lv_room (Nat.le_of_ble_eq_true rfl)) dX3_readFrom_94 ⟨Nat.le_of_ble_eq_true rfl, Nat.le_of_ble_eq_true rfl⟩) hS hA hP (fun r_25 H locs hw_25 hP hS => ?_)
          try dsimp only at hw_25
          rcases hw_25 with ⟨rfl, hw_25⟩ | ⟨rfl, rfl⟩
          · refine lv_if_ne (tgt := 116) hx hb dX3_readFrom_97 (by decide) (fun _ => ?_) (fun h => absurd h (by decide))
            have hP9 := hP.sub (ws' := [(u0, .inr (3, [.ref u1, .ref u2, .int r_2, .int (nI rc2_3), .int (nI nb_24)])), (u1, .inl (k 1, 24, .inl rs2_3)), (u2, .inl (k 1, 24, .inl rb2_3)), (x0, .inr (6, [.ref x1, .int (nI tz), .int (nI ta__23), .int na__23, .int fn__23, .int fb__23])), (x1, .inl (k 0, 240, .inl fx))]) [0, 1, 2, 3, 4] rfl
            have hD9 := hD.sub (ws' := [(u0, .inr (3, [.ref u1, .ref u2, .int r_2, .int (nI rc2_3), .int (nI nb_24)])), (u1, .inl (k 1, 24, .inl rs2_3)), (u2, .inl (k 1, 24, .inl rb2_3)), (x0, .inr (6, [.ref x1, .int (nI tz), .int (nI ta__23), .int na__23, .int fn__23, .int fb__23])), (x1, .inl (k 0, 240, .inl fx))]) [0, 1, 2, 3, 4] (by decide) rfl
            exact W.vret hx hb hr (fun t ht hW => ⟨⟨(r_2, rc2_3, nb_24, rs2_3, rb2_3, ta__23, na__23, fn__23, fb__23), rfl, ⟨by omega, by omega, by omega⟩, by rw [ht]; exact hP9, hD9⟩, hS.F ht⟩) hS.2.2 dX3_readFrom_116
          · refine lv_if_ne (tgt := 116) hx hb dX3_readFrom_97 (by decide) (fun h => absurd (by decide) h) (fun _ => ?_)
            refine lv_aload_n hx hb dX3_readFrom_100 rfl (lv_at hl 2 rfl) ?_
            refine rw_i (D := D) (wr := [(u0, .inr (3, [.ref u1, .ref u2, .int r_2, .int (nI rc2_3), .int (nI nb_24)])), (u1, .inl (k 1, 24, .inl rs2_3)), (u2, .inl (k 1, 24, .inl rb2_3))]) (va_runV (As := []) (rest := []) ⟨hx, hb, hml, hown, hts⟩ ((x_isAtEnd l D k st lo x0 x1 tz ta__23 na__23 0 fb__23 fx (by omega) (by omega)) H.size) (cwV 0 hts (gV tw_692 tw_372 tw_373 tw_80 tw_374) rfl rfl rfl (by decide +kernel) ⟨Nat.le_of_ble_eq_true rfl, Nat.le_of_ble_eq_true rfl⟩) (pV hS hAlo hlo hP hK (va_Dlo hD hAlo) hZ [3, 4] (by decide) rfl (ci := 6) (q0 := 0) rfl rfl) rfl rfl hl.1 rfl (lv_room (Nat.le_of_ble_eq_true rfl)) dX3_readFrom_101 ⟨Nat.le_of_ble_eq_true rfl, Nat.le_of_ble_eq_true rfl⟩) hS hA hP hD [3, 4] [0, 1, 2] rfl rfl (by decide) (by decide) (fun r_26 u H locs hw_26 hP hD hS => ?_)
            obtain ⟨ta__26, rfl⟩ : ∃ z, z = u := ⟨_, rfl⟩
            replace hP : va_P D classes [(u0, .inr (3, [.ref u1, .ref u2, .int r_2, .int (nI rc2_3), .int (nI nb_24)])), (u1, .inl (k 1, 24, .inl rs2_3)), (u2, .inl (k 1, 24, .inl rb2_3)), (x0, .inr (6, [.ref x1, .int (nI tz), .int (nI ta__26), .int na__23, .int 0, .int fb__23])), (x1, .inl (k 0, 240, .inl fx))] H := hP
            replace hD : va_D A [(u0, .inr (3, [.ref u1, .ref u2, .int r_2, .int (nI rc2_3), .int (nI nb_24)])), (u1, .inl (k 1, 24, .inl rs2_3)), (u2, .inl (k 1, 24, .inl rb2_3)), (x0, .inr (6, [.ref x1, .int (nI tz), .int (nI ta__26), .int na__23, .int 0, .int fb__23])), (x1, .inl (k 0, 240, .inl fx))] := hD
            try dsimp only at hw_26
            rcases hw_26 with ⟨rfl | rfl, hw_26⟩
            · refine lv_if_ne (tgt := 116) hx hb dX3_readFrom_104 (by decide) (fun _ => ?_) (fun h => absurd h (by decide))
              have hP9 := hP.sub (ws' := [(u0, .inr (3, [.ref u1, .ref u2, .int r_2, .int (nI rc2_3), .int (nI nb_24)])), (u1, .inl (k 1, 24, .inl rs2_3)), (u2, .inl (k 1, 24, .inl rb2_3)), (x0, .inr (6, [.ref x1, .int (nI tz), .int (nI ta__26), .int na__23, .int 0, .int fb__23])), (x1, .inl (k 0, 240, .inl fx))]) [0, 1, 2, 3, 4] rfl
              have hD9 := hD.sub (ws' := [(u0, .inr (3, [.ref u1, .ref u2, .int r_2, .int (nI rc2_3), .int (nI nb_24)])), (u1, .inl (k 1, 24, .inl rs2_3)), (u2, .inl (k 1, 24, .inl rb2_3)), (x0, .inr (6, [.ref x1, .int (nI tz), .int (nI ta__26), .int na__23, .int 0, .int fb__23])), (x1, .inl (k 0, 240, .inl fx))]) [0, 1, 2, 3, 4] (by decide) rfl
              exact W.vret hx hb hr (fun t ht hW => ⟨⟨(r_2, rc2_3, nb_24, rs2_3, rb2_3, ta__26, na__23, 0, fb__23), rfl, ⟨by omega, by omega, by omega⟩, by rw [ht]; exact hP9, hD9⟩, hS.F ht⟩) hS.2.2 dX3_readFrom_116
            · refine lv_if_ne (tgt := 116) hx hb dX3_readFrom_104 (by decide) (fun h => absurd (by decide) h) (fun _ => ?_)
              refine lv_aload_n hx hb dX3_readFrom_107 rfl (lv_at hl 2 rfl) ?_
              refine lv_iconst (v := 1) hx hb dX3_readFrom_108 (by decide) ?_
              refine lv_aload_n hx hb dX3_readFrom_109 rfl (lv_at hl 2 rfl) ?_
              refine va_get (D := D) (ci := 6) (v := .int (nI ta__26)) (C := RX6) (T := TX6) (N := 6) hx hb hts inX6 hown hK hP 3 rfl rfl 2 (by decide) (hts _ tw_114) (fun _ h9 => h9) rfl dX3_readFrom_110 ?_
              refine rw_v (D := D) (wr := [(u0, .inr (3, [.ref u1, .ref u2, .int r_2, .int (nI rc2_3), .int (nI nb_24)])), (u1, .inl (k 1, 24, .inl rs2_3)), (u2, .inl (k 1, 24, .inl rb2_3)), (x1, .inl (k 0, 240, .inl fx))]) (va_runV (As := [.int 1, .int (nI ta__26)]) (rest := []) ⟨hx, hb, hml, hown, hts⟩ ((x_fail l D k st lo x0 x1 tz ta__26 na__23 0 fb__23 1 (nI ta__26) (by decide)) H.size) (cwV 2 hts (gV tw_689 tw_456 tw_457 tw_80 tw_458) rfl rfl rfl (by decide +kernel) ⟨Nat.le_of_ble_eq_true rfl, Nat.le_of_ble_eq_true rfl⟩) (pV hS hAlo hlo hP hK (va_Dlo hD hAlo) hZ [3] (by decide) rfl (ci := 6) (q0 := 0) rfl rfl) rfl rfl hl.1 rfl (lv_room (Nat.le_of_ble_eq_true rfl)) dX3_readFrom_113 ⟨Nat.le_of_ble_eq_true rfl, Nat.le_of_ble_eq_true rfl⟩) hS hA hP hD [3] [0, 1, 2, 4] rfl rfl (by decide) (by decide) (fun u H locs hw_27 hP hD hS => ?_)
              obtain ⟨fn__27, fb__27⟩ := u
              replace hP : va_P D classes [(u0, .inr (3, [.ref u1, .ref u2, .int r_2, .int (nI rc2_3), .int (nI nb_24)])), (u1, .inl (k 1, 24, .inl rs2_3)), (u2, .inl (k 1, 24, .inl rb2_3)), (x1, .inl (k 0, 240, .inl fx)), (x0, .inr (6, [.ref x1, .int (nI tz), .int (nI ta__26), .int na__23, .int fn__27, .int fb__27]))] H := hP
              replace hD : va_D A [(u0, .inr (3, [.ref u1, .ref u2, .int r_2, .int (nI rc2_3), .int (nI nb_24)])), (u1, .inl (k 1, 24, .inl rs2_3)), (u2, .inl (k 1, 24, .inl rb2_3)), (x1, .inl (k 0, 240, .inl fx)), (x0, .inr (6, [.ref x1, .int (nI tz), .int (nI ta__26), .int na__23, .int fn__27, .int fb__27]))] := hD
              try dsimp only at hw_27
              have hP9 := hP.sub (ws' := [(u0, .inr (3, [.ref u1, .ref u2, .int r_2, .int (nI rc2_3), .int (nI nb_24)])), (u1, .inl (k 1, 24, .inl rs2_3)), (u2, .inl (k 1, 24, .inl rb2_3)), (x0, .inr (6, [.ref x1, .int (nI tz), .int (nI ta__26), .int na__23, .int fn__27, .int fb__27])), (x1, .inl (k 0, 240, .inl fx))]) [0, 1, 2, 4, 3] rfl
              have hD9 := hD.sub (ws' := [(u0, .inr (3, [.ref u1, .ref u2, .int r_2, .int (nI rc2_3), .int (nI nb_24)])), (u1, .inl (k 1, 24, .inl rs2_3)), (u2, .inl (k 1, 24, .inl rb2_3)), (x0, .inr (6, [.ref x1, .int (nI tz), .int (nI ta__26), .int na__23, .int fn__27, .int fb__27])), (x1, .inl (k 0, 240, .inl fx))]) [0, 1, 2, 4, 3] (by decide) rfl
              exact W.vret hx hb hr (fun t ht hW => ⟨⟨(r_2, rc2_3, nb_24, rs2_3, rb2_3, ta__26, na__23, fn__27, fb__27), rfl, ⟨by omega, by omega, by omega⟩, by rw [ht]; exact hP9, hD9⟩, hS.F ht⟩) hS.2.2 dX3_readFrom_116
        · refine lv_if_eq (tgt := 93) hx hb dX3_readFrom_75 (by decide) (fun _ => ?_) (fun h => absurd (by decide) h)
          refine lv_aload_n hx hb dX3_readFrom_93 rfl (lv_at hl 2 rfl) ?_
          refine ro_i (D := D) (va_runV (As := []) (rest := []) ⟨hx, hb, hml, hown, hts⟩ ((x_failed l D k st lo x0 x1 tz ta__22 na2_3 0 fb2_3) H.size) (cwV 0 hts (gV tw_682 tw_368 tw_369 tw_80 tw_370) rfl rfl rfl (by decide +kernel) ⟨Nat.le_of_ble_eq_true rfl, Nat.le_of_ble_eq_true rfl⟩) (pV hS hAlo hlo hP hK (va_Dlo hD hAlo) hZ [3] (by decide) rfl (ci := 6) (q0 := 0) rfl rfl) rfl rfl hl.1 rfl (lv_room (Nat.le_of_ble_eq_true rfl)) dX3_readFrom_94 ⟨Nat.le_of_ble_eq_true rfl, Nat.le_of_ble_eq_true rfl⟩) hS hA hP (fun r_28 H locs hw_28 hP hS => ?_)
          try dsimp only at hw_28
          obtain rfl : r_28 = 0 := by rcases hw_28 with ⟨h, h2⟩ | ⟨h, h2⟩ <;> first | exact h | exact absurd rfl h2 | exact absurd h2 (by decide)
          refine lv_if_ne (tgt := 116) hx hb dX3_readFrom_97 (by decide) (fun h => absurd (by decide) h) (fun _ => ?_)
          refine lv_aload_n hx hb dX3_readFrom_100 rfl (lv_at hl 2 rfl) ?_
          refine rw_i (D := D) (wr := [(u0, .inr (3, [.ref u1, .ref u2, .int r_2, .int (nI rc2_3), .int 0])), (u1, .inl (k 1, 24, .inl rs2_3)), (u2, .inl (k 1, 24, .inl rb2_3))]) (va_runV (As := []) (rest := []) ⟨hx, hb, hml, hown, hts⟩ ((x_isAtEnd l D k st lo x0 x1 tz ta__22 na2_3 0 fb2_3 fx (by omega) (by omega)) H.size) (cwV 0 hts (gV tw_692 tw_372 tw_373 tw_80 tw_374) rfl rfl rfl (by decide +kernel) ⟨Nat.le_of_ble_eq_true rfl, Nat.le_of_ble_eq_true rfl⟩) (pV hS hAlo hlo hP hK (va_Dlo hD hAlo) hZ [3, 4] (by decide) rfl (ci := 6) (q0 := 0) rfl rfl) rfl rfl hl.1 rfl (lv_room (Nat.le_of_ble_eq_true rfl)) dX3_readFrom_101 ⟨Nat.le_of_ble_eq_true rfl, Nat.le_of_ble_eq_true rfl⟩) hS hA hP hD [3, 4] [0, 1, 2] rfl rfl (by decide) (by decide) (fun r_29 u H locs hw_29 hP hD hS => ?_)
          obtain ⟨ta__29, rfl⟩ : ∃ z, z = u := ⟨_, rfl⟩
          replace hP : va_P D classes [(u0, .inr (3, [.ref u1, .ref u2, .int r_2, .int (nI rc2_3), .int 0])), (u1, .inl (k 1, 24, .inl rs2_3)), (u2, .inl (k 1, 24, .inl rb2_3)), (x0, .inr (6, [.ref x1, .int (nI tz), .int (nI ta__29), .int na2_3, .int 0, .int fb2_3])), (x1, .inl (k 0, 240, .inl fx))] H := hP
          replace hD : va_D A [(u0, .inr (3, [.ref u1, .ref u2, .int r_2, .int (nI rc2_3), .int 0])), (u1, .inl (k 1, 24, .inl rs2_3)), (u2, .inl (k 1, 24, .inl rb2_3)), (x0, .inr (6, [.ref x1, .int (nI tz), .int (nI ta__29), .int na2_3, .int 0, .int fb2_3])), (x1, .inl (k 0, 240, .inl fx))] := hD
          try dsimp only at hw_29
          rcases hw_29 with ⟨rfl | rfl, hw_29⟩
          · refine lv_if_ne (tgt := 116) hx hb dX3_readFrom_104 (by decide) (fun _ => ?_) (fun h => absurd h (by decide))
            have hP9 := hP.sub (ws' := [(u0, .inr (3, [.ref u1, .ref u2, .int r_2, .int (nI rc2_3), .int 0])), (u1, .inl (k 1, 24, .inl rs2_3)), (u2, .inl (k 1, 24, .inl rb2_3)), (x0, .inr (6, [.ref x1, .int (nI tz), .int (nI ta__29), .int na2_3, .int 0, .int fb2_3])), (x1, .inl (k 0, 240, .inl fx))]) [0, 1, 2, 3, 4] rfl
            have hD9 := hD.sub (ws' := [(u0, .inr (3, [.ref u1, .ref u2, .int r_2, .int (nI rc2_3), .int 0])), (u1, .inl (k 1, 24, .inl rs2_3)), (u2, .inl (k 1, 24, .inl rb2_3)), (x0, .inr (6, [.ref x1, .int (nI tz), .int (nI ta__29), .int na2_3, .int 0, .int fb2_3])), (x1, .inl (k 0, 240, .inl fx))]) [0, 1, 2, 3, 4] (by decide) rfl
            exact W.vret hx hb hr (fun t ht hW => ⟨⟨(r_2, rc2_3, 0, rs2_3, rb2_3, ta__29, na2_3, 0, fb2_3), rfl, ⟨by omega, by omega, by omega⟩, by rw [ht]; exact hP9, hD9⟩, hS.F ht⟩) hS.2.2 dX3_readFrom_116
          · refine lv_if_ne (tgt := 116) hx hb dX3_readFrom_104 (by decide) (fun h => absurd (by decide) h) (fun _ => ?_)
            refine lv_aload_n hx hb dX3_readFrom_107 rfl (lv_at hl 2 rfl) ?_
            refine lv_iconst (v := 1) hx hb dX3_readFrom_108 (by decide) ?_
            refine lv_aload_n hx hb dX3_readFrom_109 rfl (lv_at hl 2 rfl) ?_
            refine va_get (D := D) (ci := 6) (v := .int (nI ta__29)) (C := RX6) (T := TX6) (N := 6) hx hb hts inX6 hown hK hP 3 rfl rfl 2 (by decide) (hts _ tw_114) (fun _ h9 => h9) rfl dX3_readFrom_110 ?_
            refine rw_v (D := D) (wr := [(u0, .inr (3, [.ref u1, .ref u2, .int r_2, .int (nI rc2_3), .int 0])), (u1, .inl (k 1, 24, .inl rs2_3)), (u2, .inl (k 1, 24, .inl rb2_3)), (x1, .inl (k 0, 240, .inl fx))]) (va_runV (As := [.int 1, .int (nI ta__29)]) (rest := []) ⟨hx, hb, hml, hown, hts⟩ ((x_fail l D k st lo x0 x1 tz ta__29 na2_3 0 fb2_3 1 (nI ta__29) (by decide)) H.size) (cwV 2 hts (gV tw_689 tw_456 tw_457 tw_80 tw_458) rfl rfl rfl (by decide +kernel) ⟨Nat.le_of_ble_eq_true rfl, Nat.le_of_ble_eq_true rfl⟩) (pV hS hAlo hlo hP hK (va_Dlo hD hAlo) hZ [3] (by decide) rfl (ci := 6) (q0 := 0) rfl rfl) rfl rfl hl.1 rfl (lv_room (Nat.le_of_ble_eq_true rfl)) dX3_readFrom_113 ⟨Nat.le_of_ble_eq_true rfl, Nat.le_of_ble_eq_true rfl⟩) hS hA hP hD [3] [0, 1, 2, 4] rfl rfl (by decide) (by decide) (fun u H locs hw_30 hP hD hS => ?_)
            obtain ⟨fn__30, fb__30⟩ := u
            replace hP : va_P D classes [(u0, .inr (3, [.ref u1, .ref u2, .int r_2, .int (nI rc2_3), .int 0])), (u1, .inl (k 1, 24, .inl rs2_3)), (u2, .inl (k 1, 24, .inl rb2_3)), (x1, .inl (k 0, 240, .inl fx)), (x0, .inr (6, [.ref x1, .int (nI tz), .int (nI ta__29), .int na2_3, .int fn__30, .int fb__30]))] H := hP
            replace hD : va_D A [(u0, .inr (3, [.ref u1, .ref u2, .int r_2, .int (nI rc2_3), .int 0])), (u1, .inl (k 1, 24, .inl rs2_3)), (u2, .inl (k 1, 24, .inl rb2_3)), (x1, .inl (k 0, 240, .inl fx)), (x0, .inr (6, [.ref x1, .int (nI tz), .int (nI ta__29), .int na2_3, .int fn__30, .int fb__30]))] := hD
            try dsimp only at hw_30
            have hP9 := hP.sub (ws' := [(u0, .inr (3, [.ref u1, .ref u2, .int r_2, .int (nI rc2_3), .int 0])), (u1, .inl (k 1, 24, .inl rs2_3)), (u2, .inl (k 1, 24, .inl rb2_3)), (x0, .inr (6, [.ref x1, .int (nI tz), .int (nI ta__29), .int na2_3, .int fn__30, .int fb__30])), (x1, .inl (k 0, 240, .inl fx))]) [0, 1, 2, 4, 3] rfl
            have hD9 := hD.sub (ws' := [(u0, .inr (3, [.ref u1, .ref u2, .int r_2, .int (nI rc2_3), .int 0])), (u1, .inl (k 1, 24, .inl rs2_3)), (u2, .inl (k 1, 24, .inl rb2_3)), (x0, .inr (6, [.ref x1, .int (nI tz), .int (nI ta__29), .int na2_3, .int fn__30, .int fb__30])), (x1, .inl (k 0, 240, .inl fx))]) [0, 1, 2, 4, 3] (by decide) rfl
            exact W.vret hx hb hr (fun t ht hW => ⟨⟨(r_2, rc2_3, 0, rs2_3, rb2_3, ta__29, na2_3, fn__30, fb__30), rfl, ⟨by omega, by omega, by omega⟩, by rw [ht]; exact hP9, hD9⟩, hS.F ht⟩) hS.2.2 dX3_readFrom_116


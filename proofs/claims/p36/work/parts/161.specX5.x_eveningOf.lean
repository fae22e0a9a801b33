theorem dX2_eveningOf_0 : decode cX2_eveningOf 0 = .ok (.aload_n 2, 1) := by decide +kernel
theorem dX2_eveningOf_1 : decode cX2_eveningOf 1 = .ok (.aload_n 1, 1) := by decide +kernel
theorem dX2_eveningOf_2 : decode cX2_eveningOf 2 = .ok (.invokevirtual 28, 3) := by decide +kernel
theorem dX2_eveningOf_5 : decode cX2_eveningOf 5 = .ok (.istore 4, 2) := by decide +kernel
theorem dX2_eveningOf_7 : decode cX2_eveningOf 7 = .ok (.iconst 0, 1) := by decide +kernel
theorem dX2_eveningOf_8 : decode cX2_eveningOf 8 = .ok (.istore 5, 2) := by decide +kernel
theorem dX2_eveningOf_10 : decode cX2_eveningOf 10 = .ok (.iconst 0, 1) := by decide +kernel
theorem dX2_eveningOf_11 : decode cX2_eveningOf 11 = .ok (.istore 6, 2) := by decide +kernel
theorem dX2_eveningOf_13 : decode cX2_eveningOf 13 = .ok (.iload 6, 2) := by decide +kernel
theorem dX2_eveningOf_15 : decode cX2_eveningOf 15 = .ok (.iload 4, 2) := by decide +kernel
theorem dX2_eveningOf_17 : decode cX2_eveningOf 17 = .ok (.if_icmp .gt 127, 3) := by decide +kernel
theorem dX2_eveningOf_20 : decode cX2_eveningOf 20 = .ok (.iconst 0, 1) := by decide +kernel
theorem dX2_eveningOf_21 : decode cX2_eveningOf 21 = .ok (.istore 7, 2) := by decide +kernel
theorem dX2_eveningOf_23 : decode cX2_eveningOf 23 = .ok (.iconst 0, 1) := by decide +kernel
theorem dX2_eveningOf_24 : decode cX2_eveningOf 24 = .ok (.istore 8, 2) := by decide +kernel
theorem dX2_eveningOf_26 : decode cX2_eveningOf 26 = .ok (.iconst 0, 1) := by decide +kernel
theorem dX2_eveningOf_27 : decode cX2_eveningOf 27 = .ok (.istore 9, 2) := by decide +kernel
theorem dX2_eveningOf_29 : decode cX2_eveningOf 29 = .ok (.iload 9, 2) := by decide +kernel
theorem dX2_eveningOf_31 : decode cX2_eveningOf 31 = .ok (.aload_n 1, 1) := by decide +kernel
theorem dX2_eveningOf_32 : decode cX2_eveningOf 32 = .ok (.invokevirtual 61, 3) := by decide +kernel
theorem dX2_eveningOf_35 : decode cX2_eveningOf 35 = .ok (.if_icmp .ge 87, 3) := by decide +kernel
theorem dX2_eveningOf_38 : decode cX2_eveningOf 38 = .ok (.aload_n 3, 1) := by decide +kernel
theorem dX2_eveningOf_39 : decode cX2_eveningOf 39 = .ok (.invokevirtual 109, 3) := by decide +kernel
theorem dX2_eveningOf_42 : decode cX2_eveningOf 42 = .ok (.aload_n 1, 1) := by decide +kernel
theorem dX2_eveningOf_43 : decode cX2_eveningOf 43 = .ok (.iload 9, 2) := by decide +kernel
theorem dX2_eveningOf_45 : decode cX2_eveningOf 45 = .ok (.iload 8, 2) := by decide +kernel
theorem dX2_eveningOf_47 : decode cX2_eveningOf 47 = .ok (.invokevirtual 74, 3) := by decide +kernel
theorem dX2_eveningOf_50 : decode cX2_eveningOf 50 = .ok (.if_icmp .ge 7, 3) := by decide +kernel
theorem dX2_eveningOf_53 : decode cX2_eveningOf 53 = .ok (.iconst 1, 1) := by decide +kernel
theorem dX2_eveningOf_54 : decode cX2_eveningOf 54 = .ok (.goto 4, 3) := by decide +kernel
theorem dX2_eveningOf_57 : decode cX2_eveningOf 57 = .ok (.iconst 0, 1) := by decide +kernel
theorem dX2_eveningOf_58 : decode cX2_eveningOf 58 = .ok (.istore 10, 2) := by decide +kernel
theorem dX2_eveningOf_60 : decode cX2_eveningOf 60 = .ok (.iload 10, 2) := by decide +kernel
theorem dX2_eveningOf_62 : decode cX2_eveningOf 62 = .ok (.ifCond .eq 26, 3) := by decide +kernel
theorem dX2_eveningOf_65 : decode cX2_eveningOf 65 = .ok (.iload 9, 2) := by decide +kernel
theorem dX2_eveningOf_67 : decode cX2_eveningOf 67 = .ok (.aload_n 2, 1) := by decide +kernel
theorem dX2_eveningOf_68 : decode cX2_eveningOf 68 = .ok (.iload 7, 2) := by decide +kernel
theorem dX2_eveningOf_70 : decode cX2_eveningOf 70 = .ok (.invokevirtual 71, 3) := by decide +kernel
theorem dX2_eveningOf_73 : decode cX2_eveningOf 73 = .ok (.if_icmp .lt 15, 3) := by decide +kernel
theorem dX2_eveningOf_76 : decode cX2_eveningOf 76 = .ok (.iload 5, 2) := by decide +kernel
theorem dX2_eveningOf_78 : decode cX2_eveningOf 78 = .ok (.aload_n 1, 1) := by decide +kernel
theorem dX2_eveningOf_79 : decode cX2_eveningOf 79 = .ok (.iload 6, 2) := by decide +kernel
theorem dX2_eveningOf_81 : decode cX2_eveningOf 81 = .ok (.iload 9, 2) := by decide +kernel
theorem dX2_eveningOf_83 : decode cX2_eveningOf 83 = .ok (.invokevirtual 57, 3) := by decide +kernel
theorem dX2_eveningOf_86 : decode cX2_eveningOf 86 = .ok (.iadd, 1) := by decide +kernel
theorem dX2_eveningOf_87 : decode cX2_eveningOf 87 = .ok (.ireturn, 1) := by decide +kernel
theorem dX2_eveningOf_88 : decode cX2_eveningOf 88 = .ok (.iload 5, 2) := by decide +kernel
theorem dX2_eveningOf_90 : decode cX2_eveningOf 90 = .ok (.aload_n 1, 1) := by decide +kernel
theorem dX2_eveningOf_91 : decode cX2_eveningOf 91 = .ok (.invokevirtual 64, 3) := by decide +kernel
theorem dX2_eveningOf_94 : decode cX2_eveningOf 94 = .ok (.iadd, 1) := by decide +kernel
theorem dX2_eveningOf_95 : decode cX2_eveningOf 95 = .ok (.istore 5, 2) := by decide +kernel
theorem dX2_eveningOf_97 : decode cX2_eveningOf 97 = .ok (.iload 7, 2) := by decide +kernel
theorem dX2_eveningOf_99 : decode cX2_eveningOf 99 = .ok (.iload 10, 2) := by decide +kernel
theorem dX2_eveningOf_101 : decode cX2_eveningOf 101 = .ok (.ifCond .eq 7, 3) := by decide +kernel
theorem dX2_eveningOf_104 : decode cX2_eveningOf 104 = .ok (.iconst 1, 1) := by decide +kernel
theorem dX2_eveningOf_105 : decode cX2_eveningOf 105 = .ok (.goto 4, 3) := by decide +kernel
theorem dX2_eveningOf_108 : decode cX2_eveningOf 108 = .ok (.iconst 0, 1) := by decide +kernel
theorem dX2_eveningOf_109 : decode cX2_eveningOf 109 = .ok (.iadd, 1) := by decide +kernel
theorem dX2_eveningOf_110 : decode cX2_eveningOf 110 = .ok (.istore 7, 2) := by decide +kernel
theorem dX2_eveningOf_112 : decode cX2_eveningOf 112 = .ok (.iload 10, 2) := by decide +kernel
theorem dX2_eveningOf_114 : decode cX2_eveningOf 114 = .ok (.istore 8, 2) := by decide +kernel
theorem dX2_eveningOf_116 : decode cX2_eveningOf 116 = .ok (.iinc 9 1, 3) := by decide +kernel
theorem dX2_eveningOf_119 : decode cX2_eveningOf 119 = .ok (.goto (-90), 3) := by decide +kernel
theorem dX2_eveningOf_122 : decode cX2_eveningOf 122 = .ok (.iload 6, 2) := by decide +kernel
theorem dX2_eveningOf_124 : decode cX2_eveningOf 124 = .ok (.iload 4, 2) := by decide +kernel
theorem dX2_eveningOf_126 : decode cX2_eveningOf 126 = .ok (.if_icmp .ge 12, 3) := by decide +kernel
theorem dX2_eveningOf_129 : decode cX2_eveningOf 129 = .ok (.iload 5, 2) := by decide +kernel
theorem dX2_eveningOf_131 : decode cX2_eveningOf 131 = .ok (.aload_n 1, 1) := by decide +kernel
theorem dX2_eveningOf_132 : decode cX2_eveningOf 132 = .ok (.invokevirtual 42, 3) := by decide +kernel
theorem dX2_eveningOf_135 : decode cX2_eveningOf 135 = .ok (.iadd, 1) := by decide +kernel
theorem dX2_eveningOf_136 : decode cX2_eveningOf 136 = .ok (.istore 5, 2) := by decide +kernel
theorem dX2_eveningOf_138 : decode cX2_eveningOf 138 = .ok (.iinc 6 1, 3) := by decide +kernel
theorem dX2_eveningOf_141 : decode cX2_eveningOf 141 = .ok (.goto (-128), 3) := by decide +kernel
theorem dX2_eveningOf_144 : decode cX2_eveningOf 144 = .ok (.iload 5, 2) := by decide +kernel
theorem dX2_eveningOf_146 : decode cX2_eveningOf 146 = .ok (.aload_n 1, 1) := by decide +kernel
theorem dX2_eveningOf_147 : decode cX2_eveningOf 147 = .ok (.iload 4, 2) := by decide +kernel
theorem dX2_eveningOf_149 : decode cX2_eveningOf 149 = .ok (.invokevirtual 48, 3) := by decide +kernel
theorem dX2_eveningOf_152 : decode cX2_eveningOf 152 = .ok (.iadd, 1) := by decide +kernel
theorem dX2_eveningOf_153 : decode cX2_eveningOf 153 = .ok (.ireturn, 1) := by decide +kernel
set_option maxHeartbeats 4000000 in
set_option maxRecDepth 100000 in
theorem x_eveningOf (l : Launch) (D : va_G) (k : Nat → ClassId) (st : Nat → Nat) (lo : Nat) (y0 : Nat) (y1 : Nat) (y2 : Nat) (y3 : Nat) (wt : Int32) (wc : Int32) (h0 : Nat) (h1 : Nat) (h2 : Nat) (h3 : Nat) (h4 : Nat) (n : Nat) (see : Nat) (tm : Nat) (g : Nat → Int32) (ff : Nat → Int32) (fp : Nat → Int32) (fl : Nat → Int32) (u0 : Nat) (u1 : Nat) (u2 : Nat) (rf : Int32) (rc : Nat) (rr : Nat) (rs : Nat → Int32) (rb : Nat → Int32) (c0 : Nat) (c1 : Nat) (c2 : Nat) (cc : Nat) (rz : Nat) (ro : Int32) (sd : Int32) (hn : n ≤ 24) (hrc : rc ≤ 24) (hrr : rr ≤ 3) (htm9 : tm ≤ 3) : CWi l D k st lo yX2_eveningOf cX2_eveningOf 11 (some .int) ({ frames := 2, cells := 0, slots := 0, locals := 83 }) 0 0 [.ref y0, .ref h0, .ref u0, .ref c0] [(y0, .inr (2, [.ref y1, .ref y2, .ref y3, .int wt, .int wc])), (h0, .inr (5, [.ref h1, .ref h2, .ref h3, .ref h4])), (h1, .inl (k 1, 10, .inl (vv n see tm g))), (h2, .inl (k 1, 24, .inl ff)), (h3, .inl (k 1, 24, .inl fp)), (h4, .inl (k 1, 4, .inl fl)), (u0, .inr (3, [.ref u1, .ref u2, .int rf, .int (nI rc), .int (nI rr)])), (u1, .inl (k 1, 24, .inl rs)), (u2, .inl (k 1, 24, .inl rb)), (c0, .inr (4, [.ref c1, .ref c2, .int (nI cc), .int (nI rz), .int ro, .int sd]))] (fun (r : Int32) (sd_ : Int32) => True) (fun (sd_ : Int32) => [(y0, .inr (2, [.ref y1, .ref y2, .ref y3, .int wt, .int wc])), (h0, .inr (5, [.ref h1, .ref h2, .ref h3, .ref h4])), (h1, .inl (k 1, 10, .inl (vv n see tm g))), (h2, .inl (k 1, 24, .inl ff)), (h3, .inl (k 1, 24, .inl fp)), (h4, .inl (k 1, 4, .inl fl)), (u0, .inr (3, [.ref u1, .ref u2, .int rf, .int (nI rc), .int (nI rr)])), (u1, .inl (k 1, 24, .inl rs)), (u2, .inl (k 1, 24, .inl rb)), (c0, .inr (4, [.ref c1, .ref c2, .int (nI cc), .int (nI rz), .int ro, .int sd_]))]) := by
  intro sz
  refine Met.ofW (cc := cX2_eveningOf) (maxL := 11) (ret := (some .int)) (by decide) rfl ?_
  intro p e s m args below meth c s₁ B hml hv
  obtain ⟨rfl, hsz, hlo, hP, hK, hDL, hZ⟩ := hv
  have hx := B.exec
  have hb := B.bytes
  have hr := B.returns
  have hts := WS_ts B.pre
  have hown : s.vm.findClass RX2 = some m.cls := findClass_of_methodNamed B.named
  have hlocks := B.notSynchronized
  subst hsz
  have hD := hDL.self (sz := s.heap.size)
  have hAlo := A_lo hDL hlo
  generalize hAe : va_A [(y0, .inr (2, [.ref y1, .ref y2, .ref y3, .int wt, .int wc])), (h0, .inr (5, [.ref h1, .ref h2, .ref h3, .ref h4])), (h1, .inl (k 1, 10, .inl (vv n see tm g))), (h2, .inl (k 1, 24, .inl ff)), (h3, .inl (k 1, 24, .inl fp)), (h4, .inl (k 1, 4, .inl fl)), (u0, .inr (3, [.ref u1, .ref u2, .int rf, .int (nI rc), .int (nI rr)])), (u1, .inl (k 1, 24, .inl rs)), (u2, .inl (k 1, 24, .inl rb)), (c0, .inr (4, [.ref c1, .ref c2, .int (nI cc), .int (nI rz), .int ro, .int sd]))] s.heap.size = A at hD hAlo ⊢
  have hA : ∀ q : Nat, s.heap.size ≤ q → A q := fun q h => by rw [← hAe]; exact Or.inr h
  have hS : va_S A s.heap s.heap [] := va_S.rf
  have hl := lv_entry ([.ref y0, .ref h0, .ref u0, .ref c0]) (n := 11) (Nat.le_of_ble_eq_true rfl)
  rw [lg_entry_eq]
  generalize (lg_sl ([.ref y0, .ref h0, .ref u0, .ref c0]) ++ List.replicate (11 - (lg_sl ([.ref y0, .ref h0, .ref u0, .ref c0])).length) Slot.unset).toArray = ls at hl ⊢
  have hl : lv_has ls 11 [(0, .ref y0), (1, .ref h0), (2, .ref u0), (3, .ref c0)] := hl
  refine lv_aload_n hx hb dX2_eveningOf_0 rfl (lv_at hl 2 rfl) ?_
  refine lv_aload_n hx hb dX2_eveningOf_1 rfl (lv_at hl 1 rfl) ?_
  refine ro_i (D := D) (va_runV (As := [.ref h0]) (rest := []) ⟨hx, hb, hml, hown, hts⟩ ((x_roundsIn l D k st lo u0 u1 u2 rf rc rr h0 h1 h2 h3 h4 n see tm g (by omega) (by omega)) s.heap.size) (cwV 1 hts (gV tw_705 tw_706 tw_707 tw_86 tw_708) rfl rfl rfl (by decide +kernel) ⟨Nat.le_of_ble_eq_true rfl, Nat.le_of_ble_eq_true rfl⟩) (pV hS hAlo hlo hP hK (va_Dlo hD hAlo) hZ [6, 1, 2] (by decide) rfl (ci := 3) (q0 := 0) rfl rfl) rfl rfl hl.1 rfl (lv_room (Nat.le_of_ble_eq_true rfl)) dX2_eveningOf_2 ⟨Nat.le_of_ble_eq_true rfl, Nat.le_of_ble_eq_true rfl⟩) hS hA hP (fun r_1 H locs hw_1 hP hS => ?_)
  try dsimp only at hw_1
  subst hw_1
  refine lv_istore (lv' := [(4, .int (nI (min rr tm))), (0, .ref y0), (1, .ref h0), (2, .ref u0), (3, .ref c0)]) hx hb dX2_eveningOf_5 hl (by decide) rfl (fun ls hl => ?_)
  refine lv_iconst (v := 0) hx hb dX2_eveningOf_7 (by decide) ?_
  refine lv_istore (lv' := [(5, .int 0), (4, .int (nI (min rr tm))), (0, .ref y0), (1, .ref h0), (2, .ref u0), (3, .ref c0)]) hx hb dX2_eveningOf_8 hl (by decide) rfl (fun ls hl => ?_)
  refine lv_iconst (v := 0) hx hb dX2_eveningOf_10 (by decide) ?_
  refine lv_istore (lv' := [(6, .int 0), (5, .int 0), (4, .int (nI (min rr tm))), (0, .ref y0), (1, .ref h0), (2, .ref u0), (3, .ref c0)]) hx hb dX2_eveningOf_11 hl (by decide) rfl (fun ls hl => ?_)
  refine W_loop (σ := Nat × Int32 × Int32) (fun (n_ : Nat) (x_ : Nat × Int32 × Int32) (H : Heap) (locs : List Loc) (ls : Array Slot) => match x_ with | (rn2_2, co_2, sd2_2) => n_ = 5 - rn2_2 ∧ (rn2_2 ≤ 4) ∧ va_P D classes [(y0, .inr (2, [.ref y1, .ref y2, .ref y3, .int wt, .int wc])), (h0, .inr (5, [.ref h1, .ref h2, .ref h3, .ref h4])), (h1, .inl (k 1, 10, .inl (vv n see tm g))), (h2, .inl (k 1, 24, .inl ff)), (h3, .inl (k 1, 24, .inl fp)), (h4, .inl (k 1, 4, .inl fl)), (u0, .inr (3, [.ref u1, .ref u2, .int rf, .int (nI rc), .int (nI rr)])), (u1, .inl (k 1, 24, .inl rs)), (u2, .inl (k 1, 24, .inl rb)), (c0, .inr (4, [.ref c1, .ref c2, .int (nI cc), .int (nI rz), .int ro, .int sd2_2]))] H ∧ va_D A [(y0, .inr (2, [.ref y1, .ref y2, .ref y3, .int wt, .int wc])), (h0, .inr (5, [.ref h1, .ref h2, .ref h3, .ref h4])), (h1, .inl (k 1, 10, .inl (vv n see tm g))), (h2, .inl (k 1, 24, .inl ff)), (h3, .inl (k 1, 24, .inl fp)), (h4, .inl (k 1, 4, .inl fl)), (u0, .inr (3, [.ref u1, .ref u2, .int rf, .int (nI rc), .int (nI rr)])), (u1, .inl (k 1, 24, .inl rs)), (u2, .inl (k 1, 24, .inl rb)), (c0, .inr (4, [.ref c1, .ref c2, .int (nI cc), .int (nI rz), .int ro, .int sd2_2]))] ∧ va_S A s.heap H locs ∧ lv_has ls 11 [(6, .int (nI rn2_2)), (5, .int co_2), (4, .int (nI (min rr tm))), (0, .ref y0), (1, .ref h0), (2, .ref u0), (3, .ref c0)]) (fun n_2 x_2 H locs ls hI ih_2 => ?_) _ (0, 0, sd) ⟨rfl, (by omega), hP, hD, hS, (lv_sub hl [0, 1, 2, 3, 4, 5, 6] rfl)⟩
  obtain ⟨rn2_2, co_2, sd2_2⟩ := x_2
  obtain ⟨hm_2, hv_2, hP, hD, hS, hl⟩ := hI
  subst hm_2
  refine lv_iload hx hb dX2_eveningOf_13 (lv_at hl 0 rfl) ?_
  refine lv_iload hx hb dX2_eveningOf_15 (lv_at hl 2 rfl) ?_
  refine lv_icmp_gt (tgt := 144) hx hb dX2_eveningOf_17 (by decide) (fun c_3 => ?_) (fun c_3 => ?_)
  · have c_3 := (nI_ltI (a := (min rr tm)) (b := rn2_2) (by omega) (by omega)).mp c_3
    refine lv_iload hx hb dX2_eveningOf_144 (lv_at hl 1 rfl) ?_
    refine lv_aload_n hx hb dX2_eveningOf_146 rfl (lv_at hl 4 rfl) ?_
    refine lv_iload hx hb dX2_eveningOf_147 (lv_at hl 2 rfl) ?_
    refine ro_i (D := D) (va_runV (As := [.int (nI (min rr tm))]) (rest := [.int co_2]) ⟨hx, hb, hml, hown, hts⟩ ((x_garageOf l D k st lo h0 h1 h2 h3 h4 n see tm g fl (min rr tm) (by omega)) H.size) (cwV 1 hts (gV tw_713 tw_521 tw_522 tw_81 tw_523) rfl rfl rfl (by decide +kernel) ⟨Nat.le_of_ble_eq_true rfl, Nat.le_of_ble_eq_true rfl⟩) (pV hS hAlo hlo hP hK (va_Dlo hD hAlo) hZ [1, 2, 5] (by decide) rfl (ci := 5) (q0 := 0) rfl rfl) rfl rfl hl.1 rfl (lv_room (Nat.le_of_ble_eq_true rfl)) dX2_eveningOf_149 ⟨Nat.le_of_ble_eq_true rfl, Nat.le_of_ble_eq_true rfl⟩) hS hA hP (fun r_4 H locs hw_4 hP hS => ?_)
    try dsimp only at hw_4
    refine lv_iadd hx hb dX2_eveningOf_152 ?_
    refine lv_topi (fun x_5 ex_5 => ?_)
    have hP9 := hP.sub (ws' := [(y0, .inr (2, [.ref y1, .ref y2, .ref y3, .int wt, .int wc])), (h0, .inr (5, [.ref h1, .ref h2, .ref h3, .ref h4])), (h1, .inl (k 1, 10, .inl (vv n see tm g))), (h2, .inl (k 1, 24, .inl ff)), (h3, .inl (k 1, 24, .inl fp)), (h4, .inl (k 1, 4, .inl fl)), (u0, .inr (3, [.ref u1, .ref u2, .int rf, .int (nI rc), .int (nI rr)])), (u1, .inl (k 1, 24, .inl rs)), (u2, .inl (k 1, 24, .inl rb)), (c0, .inr (4, [.ref c1, .ref c2, .int (nI cc), .int (nI rz), .int ro, .int sd2_2]))]) [0, 1, 2, 3, 4, 5, 6, 7, 8, 9] rfl
    have hD9 := hD.sub (ws' := [(y0, .inr (2, [.ref y1, .ref y2, .ref y3, .int wt, .int wc])), (h0, .inr (5, [.ref h1, .ref h2, .ref h3, .ref h4])), (h1, .inl (k 1, 10, .inl (vv n see tm g))), (h2, .inl (k 1, 24, .inl ff)), (h3, .inl (k 1, 24, .inl fp)), (h4, .inl (k 1, 4, .inl fl)), (u0, .inr (3, [.ref u1, .ref u2, .int rf, .int (nI rc), .int (nI rr)])), (u1, .inl (k 1, 24, .inl rs)), (u2, .inl (k 1, 24, .inl rb)), (c0, .inr (4, [.ref c1, .ref c2, .int (nI cc), .int (nI rz), .int ro, .int sd2_2]))]) [0, 1, 2, 3, 4, 5, 6, 7, 8, 9] (by decide) rfl
    exact W.iret (v := x_5) hx hb hr (fun t ht hW => ⟨⟨x_5, sd2_2, rfl, trivial, by rw [ht]; exact hP9, hD9⟩, hS.F ht⟩) hS.2.2 dX2_eveningOf_153
  · have c_3 : ¬ ((min rr tm) < rn2_2) := fun h => c_3 ((nI_ltI (a := (min rr tm)) (b := rn2_2) (by omega) (by omega)).mpr h)
    refine lv_iconst (v := 0) hx hb dX2_eveningOf_20 (by decide) ?_
    refine lv_istore (lv' := [(7, .int 0), (6, .int (nI rn2_2)), (5, .int co_2), (4, .int (nI (min rr tm))), (0, .ref y0), (1, .ref h0), (2, .ref u0), (3, .ref c0)]) hx hb dX2_eveningOf_21 hl (by decide) rfl (fun ls hl => ?_)
    refine lv_iconst (v := 0) hx hb dX2_eveningOf_23 (by decide) ?_
    refine lv_istore (lv' := [(8, .int 0), (7, .int 0), (6, .int (nI rn2_2)), (5, .int co_2), (4, .int (nI (min rr tm))), (0, .ref y0), (1, .ref h0), (2, .ref u0), (3, .ref c0)]) hx hb dX2_eveningOf_24 hl (by decide) rfl (fun ls hl => ?_)
    refine lv_iconst (v := 0) hx hb dX2_eveningOf_26 (by decide) ?_
    refine lv_istore (lv' := [(9, .int 0), (8, .int 0), (7, .int 0), (6, .int (nI rn2_2)), (5, .int co_2), (4, .int (nI (min rr tm))), (0, .ref y0), (1, .ref h0), (2, .ref u0), (3, .ref c0)]) hx hb dX2_eveningOf_27 hl (by decide) rfl (fun ls hl => ?_)
    refine W_loop (σ := Nat × Int32 × Int32 × Int32 × Int32) (fun (n_ : Nat) (x_ : Nat × Int32 × Int32 × Int32 × Int32) (H : Heap) (locs : List Loc) (ls : Array Slot) => match x_ with | (ii_6, co_6, pa_6, ah_6, sd2_6) => n_ = 25 - ii_6 ∧ (ii_6 ≤ 24) ∧ va_P D classes [(y0, .inr (2, [.ref y1, .ref y2, .ref y3, .int wt, .int wc])), (h0, .inr (5, [.ref h1, .ref h2, .ref h3, .ref h4])), (h1, .inl (k 1, 10, .inl (vv n see tm g))), (h2, .inl (k 1, 24, .inl ff)), (h3, .inl (k 1, 24, .inl fp)), (h4, .inl (k 1, 4, .inl fl)), (u0, .inr (3, [.ref u1, .ref u2, .int rf, .int (nI rc), .int (nI rr)])), (u1, .inl (k 1, 24, .inl rs)), (u2, .inl (k 1, 24, .inl rb)), (c0, .inr (4, [.ref c1, .ref c2, .int (nI cc), .int (nI rz), .int ro, .int sd2_6]))] H ∧ va_D A [(y0, .inr (2, [.ref y1, .ref y2, .ref y3, .int wt, .int wc])), (h0, .inr (5, [.ref h1, .ref h2, .ref h3, .ref h4])), (h1, .inl (k 1, 10, .inl (vv n see tm g))), (h2, .inl (k 1, 24, .inl ff)), (h3, .inl (k 1, 24, .inl fp)), (h4, .inl (k 1, 4, .inl fl)), (u0, .inr (3, [.ref u1, .ref u2, .int rf, .int (nI rc), .int (nI rr)])), (u1, .inl (k 1, 24, .inl rs)), (u2, .inl (k 1, 24, .inl rb)), (c0, .inr (4, [.ref c1, .ref c2, .int (nI cc), .int (nI rz), .int ro, .int sd2_6]))] ∧ va_S A s.heap H locs ∧ lv_has ls 11 [(9, .int (nI ii_6)), (8, .int ah_6), (7, .int pa_6), (6, .int (nI rn2_2)), (5, .int co_6), (4, .int (nI (min rr tm))), (0, .ref y0), (1, .ref h0), (2, .ref u0), (3, .ref c0)]) (fun n_6 x_6 H locs ls hI ih_6 => ?_) _ (0, co_2, 0, 0, sd2_2) ⟨rfl, (by omega), hP, hD, hS, (lv_sub hl [0, 1, 2, 3, 4, 5, 6, 7, 8, 9] rfl)⟩
    obtain ⟨ii_6, co_6, pa_6, ah_6, sd2_6⟩ := x_6
    obtain ⟨hm_6, hv_6, hP, hD, hS, hl⟩ := hI
    subst hm_6
    refine lv_iload hx hb dX2_eveningOf_29 (lv_at hl 0 rfl) ?_
    refine lv_aload_n hx hb dX2_eveningOf_31 rfl (lv_at hl 7 rfl) ?_
    refine ro_i (D := D) (va_runV (As := []) (rest := [.int (nI ii_6)]) ⟨hx, hb, hml, hown, hts⟩ ((x_doors l D k st lo h0 h1 h2 h3 h4 n see tm g) H.size) (cwV 0 hts (gV tw_723 tw_478 tw_479 tw_81 tw_480) rfl rfl rfl (by decide +kernel) ⟨Nat.le_of_ble_eq_true rfl, Nat.le_of_ble_eq_true rfl⟩) (pV hS hAlo hlo hP hK (va_Dlo hD hAlo) hZ [1, 2] (by decide) rfl (ci := 5) (q0 := 0) rfl rfl) rfl rfl hl.1 rfl (lv_room (Nat.le_of_ble_eq_true rfl)) dX2_eveningOf_32 ⟨Nat.le_of_ble_eq_true rfl, Nat.le_of_ble_eq_true rfl⟩) hS hA hP (fun r_7 H locs hw_7 hP hS => ?_)
    try dsimp only at hw_7
    subst hw_7
    refine lv_icmp_ge (tgt := 122) hx hb dX2_eveningOf_35 (by decide) (fun c_8 => ?_) (fun c_8 => ?_)
    · have c_8 := (nI_leI (a := n) (b := ii_6) (by omega) (by omega)).mp c_8
      refine lv_iload hx hb dX2_eveningOf_122 (lv_at hl 3 rfl) ?_
      refine lv_iload hx hb dX2_eveningOf_124 (lv_at hl 5 rfl) ?_
      refine lv_icmp_ge (tgt := 138) hx hb dX2_eveningOf_126 (by decide) (fun c_9 => ?_) (fun c_9 => ?_)
      · have c_9 := (nI_leI (a := (min rr tm)) (b := rn2_2) (by omega) (by omega)).mp c_9
        refine lv_iinc (v := (nI (rn2_2 + 1))) (lv' := [(6, .int (nI (rn2_2 + 1))), (9, .int (nI ii_6)), (8, .int ah_6), (7, .int pa_6), (5, .int co_6), (4, .int (nI (min rr tm))), (0, .ref y0), (1, .ref h0), (2, .ref u0), (3, .ref c0)]) hx hb dX2_eveningOf_138 hl (k := 3) rfl (nI_add rn2_2 1) (by decide) rfl (fun ls hl => ?_)
        refine lv_goto (tgt := 13) hx hb dX2_eveningOf_141 (by decide) ?_
        exact ih_2 _ (rn2_2 + 1, co_6, sd2_6) _ _ _ (by omega) ⟨rfl, (by omega), hP, hD, hS, (lv_sub hl [0, 4, 5, 6, 7, 8, 9] rfl)⟩
      · have c_9 : ¬ ((min rr tm) ≤ rn2_2) := fun h => c_9 ((nI_leI (a := (min rr tm)) (b := rn2_2) (by omega) (by omega)).mpr h)
        refine lv_iload hx hb dX2_eveningOf_129 (lv_at hl 4 rfl) ?_
        refine lv_aload_n hx hb dX2_eveningOf_131 rfl (lv_at hl 7 rfl) ?_
        refine ro_i (D := D) (va_runV (As := []) (rest := [.int co_6]) ⟨hx, hb, hml, hown, hts⟩ ((x_roundDrive l D k st lo h0 h1 h2 h3 h4 n see tm g) H.size) (cwV 0 hts (gV tw_735 tw_525 tw_526 tw_81 tw_527) rfl rfl rfl (by decide +kernel) ⟨Nat.le_of_ble_eq_true rfl, Nat.le_of_ble_eq_true rfl⟩) (pV hS hAlo hlo hP hK (va_Dlo hD hAlo) hZ [1, 2] (by decide) rfl (ci := 5) (q0 := 0) rfl rfl) rfl rfl hl.1 rfl (lv_room (Nat.le_of_ble_eq_true rfl)) dX2_eveningOf_132 ⟨Nat.le_of_ble_eq_true rfl, Nat.le_of_ble_eq_true rfl⟩) hS hA hP (fun r_10 H locs hw_10 hP hS => ?_)
        try dsimp only at hw_10
        refine lv_iadd hx hb dX2_eveningOf_135 ?_
        refine lv_topi (fun x_11 ex_11 => ?_)
        refine lv_istore (lv' := [(5, .int x_11), (9, .int (nI ii_6)), (8, .int ah_6), (7, .int pa_6), (6, .int (nI rn2_2)), (4, .int (nI (min rr tm))), (0, .ref y0), (1, .ref h0), (2, .ref u0), (3, .ref c0)]) hx hb dX2_eveningOf_136 hl (by decide) rfl (fun ls hl => ?_)
        refine lv_iinc (v := (nI (rn2_2 + 1))) (lv' := [(6, .int (nI (rn2_2 + 1))), (5, .int x_11), (9, .int (nI ii_6)), (8, .int ah_6), (7, .int pa_6), (4, .int (nI (min rr tm))), (0, .ref y0), (1, .ref h0), (2, .ref u0), (3, .ref c0)]) hx hb dX2_eveningOf_138 hl (k := 4) rfl (nI_add rn2_2 1) (by decide) rfl (fun ls hl => ?_)
        refine lv_goto (tgt := 13) hx hb dX2_eveningOf_141 (by decide) ?_
        exact ih_2 _ (rn2_2 + 1, x_11, sd2_6) _ _ _ (by omega) ⟨rfl, (by omega), hP, hD, hS, (lv_sub hl [0, 1, 5, 6, 7, 8, 9] rfl)⟩
    · have c_8 : ¬ (n ≤ ii_6) := fun h => c_8 ((nI_leI (a := n) (b := ii_6) (by omega) (by omega)).mpr h)
      refine lv_aload_n hx hb dX2_eveningOf_38 rfl (lv_at hl 9 rfl) ?_
      refine rw_i (D := D) (wr := [(y0, .inr (2, [.ref y1, .ref y2, .ref y3, .int wt, .int wc])), (h0, .inr (5, [.ref h1, .ref h2, .ref h3, .ref h4])), (h1, .inl (k 1, 10, .inl (vv n see tm g))), (h2, .inl (k 1, 24, .inl ff)), (h3, .inl (k 1, 24, .inl fp)), (h4, .inl (k 1, 4, .inl fl)), (u0, .inr (3, [.ref u1, .ref u2, .int rf, .int (nI rc), .int (nI rr)])), (u1, .inl (k 1, 24, .inl rs)), (u2, .inl (k 1, 24, .inl rb))]) (va_runV (As := []) (rest := []) ⟨hx, hb, hml, hown, hts⟩ ((x_draw l D k st lo c0 c1 c2 cc rz ro sd2_6) H.size) (cwV 0 hts (gV tw_932 tw_933 tw_934 tw_82 tw_935) rfl rfl rfl (by decide +kernel) ⟨Nat.le_of_ble_eq_true rfl, Nat.le_of_ble_eq_true rfl⟩) (pV hS hAlo hlo hP hK (va_Dlo hD hAlo) hZ [9] (by decide) rfl (ci := 4) (q0 := 0) rfl rfl) rfl rfl hl.1 rfl (lv_room (Nat.le_of_ble_eq_true rfl)) dX2_eveningOf_39 ⟨Nat.le_of_ble_eq_true rfl, Nat.le_of_ble_eq_true rfl⟩) hS hA hP hD [9] [0, 1, 2, 3, 4, 5, 6, 7, 8] rfl rfl (by decide) (by decide) (fun r_12 u H locs hw_12 hP hD hS => ?_)
      obtain ⟨sd__12, rfl⟩ : ∃ z, z = u := ⟨_, rfl⟩
      replace hP : va_P D classes [(y0, .inr (2, [.ref y1, .ref y2, .ref y3, .int wt, .int wc])), (h0, .inr (5, [.ref h1, .ref h2, .ref h3, .ref h4])), (h1, .inl (k 1, 10, .inl (vv n see tm g))), (h2, .inl (k 1, 24, .inl ff)), (h3, .inl (k 1, 24, .inl fp)), (h4, .inl (k 1, 4, .inl fl)), (u0, .inr (3, [.ref u1, .ref u2, .int rf, .int (nI rc), .int (nI rr)])), (u1, .inl (k 1, 24, .inl rs)), (u2, .inl (k 1, 24, .inl rb)), (c0, .inr (4, [.ref c1, .ref c2, .int (nI cc), .int (nI rz), .int ro, .int sd__12]))] H := hP
      replace hD : va_D A [(y0, .inr (2, [.ref y1, .ref y2, .ref y3, .int wt, .int wc])), (h0, .inr (5, [.ref h1, .ref h2, .ref h3, .ref h4])), (h1, .inl (k 1, 10, .inl (vv n see tm g))), (h2, .inl (k 1, 24, .inl ff)), (h3, .inl (k 1, 24, .inl fp)), (h4, .inl (k 1, 4, .inl fl)), (u0, .inr (3, [.ref u1, .ref u2, .int rf, .int (nI rc), .int (nI rr)])), (u1, .inl (k 1, 24, .inl rs)), (u2, .inl (k 1, 24, .inl rb)), (c0, .inr (4, [.ref c1, .ref c2, .int (nI cc), .int (nI rz), .int ro, .int sd__12]))] := hD
      try dsimp only at hw_12
      refine lv_aload_n hx hb dX2_eveningOf_42 rfl (lv_at hl 7 rfl) ?_
      refine lv_iload hx hb dX2_eveningOf_43 (lv_at hl 0 rfl) ?_
      refine lv_iload hx hb dX2_eveningOf_45 (lv_at hl 1 rfl) ?_
      refine ro_i (D := D) (va_runV (As := [.int (nI ii_6), .int ah_6]) (rest := [.int r_12]) ⟨hx, hb, hml, hown, hts⟩ ((x_chanceOf l D k st lo h0 h1 h2 h3 h4 n see tm g ff ii_6 ah_6 (by omega)) H.size) (cwV 2 hts (gV tw_733 tw_565 tw_566 tw_81 tw_567) rfl rfl rfl (by decide +kernel) ⟨Nat.le_of_ble_eq_true rfl, Nat.le_of_ble_eq_true rfl⟩) (pV hS hAlo hlo hP hK (va_Dlo hD hAlo) hZ [1, 2, 3] (by decide) rfl (ci := 5) (q0 := 0) rfl rfl) rfl rfl hl.1 rfl (lv_room (Nat.le_of_ble_eq_true rfl)) dX2_eveningOf_47 ⟨Nat.le_of_ble_eq_true rfl, Nat.le_of_ble_eq_true rfl⟩) hS hA hP (fun r_13 H locs hw_13 hP hS => ?_)
      try dsimp only at hw_13
      refine lv_icmp_ge (tgt := 57) hx hb dX2_eveningOf_50 (by decide) (fun c_14 => ?_) (fun c_14 => ?_)
      · refine lv_iconst (v := 0) hx hb dX2_eveningOf_57 (by decide) ?_
        refine lv_istore (lv' := [(10, .int 0), (9, .int (nI ii_6)), (8, .int ah_6), (7, .int pa_6), (6, .int (nI rn2_2)), (5, .int co_6), (4, .int (nI (min rr tm))), (0, .ref y0), (1, .ref h0), (2, .ref u0), (3, .ref c0)]) hx hb dX2_eveningOf_58 hl (by decide) rfl (fun ls hl => ?_)
        refine lv_iload hx hb dX2_eveningOf_60 (lv_at hl 0 rfl) ?_
        refine lv_if_eq (tgt := 88) hx hb dX2_eveningOf_62 (by decide) (fun _ => ?_) (fun h => absurd (by decide) h)
        refine lv_iload hx hb dX2_eveningOf_88 (lv_at hl 5 rfl) ?_
        refine lv_aload_n hx hb dX2_eveningOf_90 rfl (lv_at hl 8 rfl) ?_
        refine ro_i (D := D) (va_runV (As := []) (rest := [.int co_6]) ⟨hx, hb, hml, hown, hts⟩ ((x_passing l D k st lo h0 h1 h2 h3 h4 n see tm g) H.size) (cwV 0 hts (gV tw_724 tw_573 tw_574 tw_81 tw_575) rfl rfl rfl (by decide +kernel) ⟨Nat.le_of_ble_eq_true rfl, Nat.le_of_ble_eq_true rfl⟩) (pV hS hAlo hlo hP hK (va_Dlo hD hAlo) hZ [1, 2] (by decide) rfl (ci := 5) (q0 := 0) rfl rfl) rfl rfl hl.1 rfl (lv_room (Nat.le_of_ble_eq_true rfl)) dX2_eveningOf_91 ⟨Nat.le_of_ble_eq_true rfl, Nat.le_of_ble_eq_true rfl⟩) hS hA hP (fun r_15 H locs hw_15 hP hS => ?_)
        try dsimp only at hw_15
        refine lv_iadd hx hb dX2_eveningOf_94 ?_
        refine lv_topi (fun x_16 ex_16 => ?_)
        refine lv_istore (lv' := [(5, .int x_16), (10, .int 0), (9, .int (nI ii_6)), (8, .int ah_6), (7, .int pa_6), (6, .int (nI rn2_2)), (4, .int (nI (min rr tm))), (0, .ref y0), (1, .ref h0), (2, .ref u0), (3, .ref c0)]) hx hb dX2_eveningOf_95 hl (by decide) rfl (fun ls hl => ?_)
        refine lv_iload hx hb dX2_eveningOf_97 (lv_at hl 4 rfl) ?_
        refine lv_iload hx hb dX2_eveningOf_99 (lv_at hl 1 rfl) ?_
        refine lv_if_eq (tgt := 108) hx hb dX2_eveningOf_101 (by decide) (fun _ => ?_) (fun h => absurd (by decide) h)
        refine lv_iconst (v := 0) hx hb dX2_eveningOf_108 (by decide) ?_
        refine lv_iadd hx hb dX2_eveningOf_109 ?_
        refine lv_topi (fun x_17 ex_17 => ?_)
        refine lv_istore (lv' := [(7, .int x_17), (5, .int x_16), (10, .int 0), (9, .int (nI ii_6)), (8, .int ah_6), (6, .int (nI rn2_2)), (4, .int (nI (min rr tm))), (0, .ref y0), (1, .ref h0), (2, .ref u0), (3, .ref c0)]) hx hb dX2_eveningOf_110 hl (by decide) rfl (fun ls hl => ?_)
        refine lv_iload hx hb dX2_eveningOf_112 (lv_at hl 2 rfl) ?_
        refine lv_istore (lv' := [(8, .int 0), (7, .int x_17), (5, .int x_16), (10, .int 0), (9, .int (nI ii_6)), (6, .int (nI rn2_2)), (4, .int (nI (min rr tm))), (0, .ref y0), (1, .ref h0), (2, .ref u0), (3, .ref c0)]) hx hb dX2_eveningOf_114 hl (by decide) rfl (fun ls hl => ?_)
        refine lv_iinc (v := (nI (ii_6 + 1))) (lv' := [(9, .int (nI (ii_6 + 1))), (8, .int 0), (7, .int x_17), (5, .int x_16), (10, .int 0), (6, .int (nI rn2_2)), (4, .int (nI (min rr tm))), (0, .ref y0), (1, .ref h0), (2, .ref u0), (3, .ref c0)]) hx hb dX2_eveningOf_116 hl (k := 4) rfl (nI_add ii_6 1) (by decide) rfl (fun ls hl => ?_)
        refine lv_goto (tgt := 29) hx hb dX2_eveningOf_119 (by decide) ?_
        exact ih_6 _ (ii_6 + 1, x_16, x_17, 0, sd__12) _ _ _ (by omega) ⟨rfl, (by omega), hP, hD, hS, (lv_sub hl [0, 1, 2, 5, 3, 6, 7, 8, 9, 10] rfl)⟩
      · refine lv_iconst (v := 1) hx hb dX2_eveningOf_53 (by decide) ?_
        refine lv_goto (tgt := 58) hx hb dX2_eveningOf_54 (by decide) ?_
        refine lv_istore (lv' := [(10, .int 1), (9, .int (nI ii_6)), (8, .int ah_6), (7, .int pa_6), (6, .int (nI rn2_2)), (5, .int co_6), (4, .int (nI (min rr tm))), (0, .ref y0), (1, .ref h0), (2, .ref u0), (3, .ref c0)]) hx hb dX2_eveningOf_58 hl (by decide) rfl (fun ls hl => ?_)
        refine lv_iload hx hb dX2_eveningOf_60 (lv_at hl 0 rfl) ?_
        refine lv_if_eq (tgt := 88) hx hb dX2_eveningOf_62 (by decide) (fun h => absurd h (by decide)) (fun _ => ?_)
        refine lv_iload hx hb dX2_eveningOf_65 (lv_at hl 1 rfl) ?_
        refine lv_aload_n hx hb dX2_eveningOf_67 rfl (lv_at hl 9 rfl) ?_
        refine lv_iload hx hb dX2_eveningOf_68 (lv_at hl 3 rfl) ?_
        refine ro_i (D := D) (va_runV (As := [.int pa_6]) (rest := [.int (nI ii_6)]) ⟨hx, hb, hml, hown, hts⟩ ((x_barAfter l D k st lo u0 u1 u2 rf rc rr rs rb pa_6 (by omega)) H.size) (cwV 1 hts (gV tw_729 tw_730 tw_731 tw_86 tw_732) rfl rfl rfl (by decide +kernel) ⟨Nat.le_of_ble_eq_true rfl, Nat.le_of_ble_eq_true rfl⟩) (pV hS hAlo hlo hP hK (va_Dlo hD hAlo) hZ [6, 7, 8] (by decide) rfl (ci := 3) (q0 := 0) rfl rfl) rfl rfl hl.1 rfl (lv_room (Nat.le_of_ble_eq_true rfl)) dX2_eveningOf_70 ⟨Nat.le_of_ble_eq_true rfl, Nat.le_of_ble_eq_true rfl⟩) hS hA hP (fun r_18 H locs hw_18 hP hS => ?_)
        try dsimp only at hw_18
        refine lv_icmp_lt (tgt := 88) hx hb dX2_eveningOf_73 (by decide) (fun c_19 => ?_) (fun c_19 => ?_)
        · refine lv_iload hx hb dX2_eveningOf_88 (lv_at hl 5 rfl) ?_
          refine lv_aload_n hx hb dX2_eveningOf_90 rfl (lv_at hl 8 rfl) ?_
          refine ro_i (D := D) (va_runV (As := []) (rest := [.int co_6]) ⟨hx, hb, hml, hown, hts⟩ ((x_passing l D k st lo h0 h1 h2 h3 h4 n see tm g) H.size) (cwV 0 hts (gV tw_724 tw_573 tw_574 tw_81 tw_575) rfl rfl rfl (by decide +kernel) ⟨Nat.le_of_ble_eq_true rfl, Nat.le_of_ble_eq_true rfl⟩) (pV hS hAlo hlo hP hK (va_Dlo hD hAlo) hZ [1, 2] (by decide) rfl (ci := 5) (q0 := 0) rfl rfl) rfl rfl hl.1 rfl (lv_room (Nat.le_of_ble_eq_true rfl)) dX2_eveningOf_91 ⟨Nat.le_of_ble_eq_true rfl, Nat.le_of_ble_eq_true rfl⟩) hS hA hP (fun r_20 H locs hw_20 hP hS => ?_)
          try dsimp only at hw_20
          refine lv_iadd hx hb dX2_eveningOf_94 ?_
          refine lv_topi (fun x_21 ex_21 => ?_)
          refine lv_istore (lv' := [(5, .int x_21), (10, .int 1), (9, .int (nI ii_6)), (8, .int ah_6), (7, .int pa_6), (6, .int (nI rn2_2)), (4, .int (nI (min rr tm))), (0, .ref y0), (1, .ref h0), (2, .ref u0), (3, .ref c0)]) hx hb dX2_eveningOf_95 hl (by decide) rfl (fun ls hl => ?_)
          refine lv_iload hx hb dX2_eveningOf_97 (lv_at hl 4 rfl) ?_
          refine lv_iload hx hb dX2_eveningOf_99 (lv_at hl 1 rfl) ?_
          refine lv_if_eq (tgt := 108) hx hb dX2_eveningOf_101 (by decide) (fun h => absurd h (by decide)) (fun _ => ?_)
          refine lv_iconst (v := 1) hx hb dX2_eveningOf_104 (by decide) ?_
          refine lv_goto (tgt := 109) hx hb dX2_eveningOf_105 (by decide) ?_
          refine lv_iadd hx hb dX2_eveningOf_109 ?_
          refine lv_topi (fun x_22 ex_22 => ?_)
          refine lv_istore (lv' := [(7, .int x_22), (5, .int x_21), (10, .int 1), (9, .int (nI ii_6)), (8, .int ah_6), (6, .int (nI rn2_2)), (4, .int (nI (min rr tm))), (0, .ref y0), (1, .ref h0), (2, .ref u0), (3, .ref c0)]) hx hb dX2_eveningOf_110 hl (by decide) rfl (fun ls hl => ?_)
          refine lv_iload hx hb dX2_eveningOf_112 (lv_at hl 2 rfl) ?_
          refine lv_istore (lv' := [(8, .int 1), (7, .int x_22), (5, .int x_21), (10, .int 1), (9, .int (nI ii_6)), (6, .int (nI rn2_2)), (4, .int (nI (min rr tm))), (0, .ref y0), (1, .ref h0), (2, .ref u0), (3, .ref c0)]) hx hb dX2_eveningOf_114 hl (by decide) rfl (fun ls hl => ?_)
          refine lv_iinc (v := (nI (ii_6 + 1))) (lv' := [(9, .int (nI (ii_6 + 1))), (8, .int 1), (7, .int x_22), (5, .int x_21), (10, .int 1), (6, .int (nI rn2_2)), (4, .int (nI (min rr tm))), (0, .ref y0), (1, .ref h0), (2, .ref u0), (3, .ref c0)]) hx hb dX2_eveningOf_116 hl (k := 4) rfl (nI_add ii_6 1) (by decide) rfl (fun ls hl => ?_)
          refine lv_goto (tgt := 29) hx hb dX2_eveningOf_119 (by decide) ?_
          exact ih_6 _ (ii_6 + 1, x_21, x_22, 1, sd__12) _ _ _ (by omega) ⟨rfl, (by omega), hP, hD, hS, (lv_sub hl [0, 1, 2, 5, 3, 6, 7, 8, 9, 10] rfl)⟩
        · refine lv_iload hx hb dX2_eveningOf_76 (lv_at hl 5 rfl) ?_
          refine lv_aload_n hx hb dX2_eveningOf_78 rfl (lv_at hl 8 rfl) ?_
          refine lv_iload hx hb dX2_eveningOf_79 (lv_at hl 4 rfl) ?_
          refine lv_iload hx hb dX2_eveningOf_81 (lv_at hl 1 rfl) ?_
          refine ro_i (D := D) (va_runV (As := [.int (nI rn2_2), .int (nI ii_6)]) (rest := [.int co_6]) ⟨hx, hb, hml, hown, hts⟩ ((x_takingOf l D k st lo h0 h1 h2 h3 h4 n see tm g fp fl rn2_2 ii_6 (by omega) (by omega)) H.size) (cwV 2 hts (gV tw_728 tw_557 tw_558 tw_81 tw_559) rfl rfl rfl (by decide +kernel) ⟨Nat.le_of_ble_eq_true rfl, Nat.le_of_ble_eq_true rfl⟩) (pV hS hAlo hlo hP hK (va_Dlo hD hAlo) hZ [1, 2, 4, 5] (by decide) rfl (ci := 5) (q0 := 0) rfl rfl) rfl rfl hl.1 rfl (lv_room (Nat.le_of_ble_eq_true rfl)) dX2_eveningOf_83 ⟨Nat.le_of_ble_eq_true rfl, Nat.le_of_ble_eq_true rfl⟩) hS hA hP (fun r_23 H locs hw_23 hP hS => ?_)
          try dsimp only at hw_23
          refine lv_iadd hx hb dX2_eveningOf_86 ?_
          refine lv_topi (fun x_24 ex_24 => ?_)
          have hP9 := hP.sub (ws' := [(y0, .inr (2, [.ref y1, .ref y2, .ref y3, .int wt, .int wc])), (h0, .inr (5, [.ref h1, .ref h2, .ref h3, .ref h4])), (h1, .inl (k 1, 10, .inl (vv n see tm g))), (h2, .inl (k 1, 24, .inl ff)), (h3, .inl (k 1, 24, .inl fp)), (h4, .inl (k 1, 4, .inl fl)), (u0, .inr (3, [.ref u1, .ref u2, .int rf, .int (nI rc), .int (nI rr)])), (u1, .inl (k 1, 24, .inl rs)), (u2, .inl (k 1, 24, .inl rb)), (c0, .inr (4, [.ref c1, .ref c2, .int (nI cc), .int (nI rz), .int ro, .int sd__12]))]) [0, 1, 2, 3, 4, 5, 6, 7, 8, 9] rfl
          have hD9 := hD.sub (ws' := [(y0, .inr (2, [.ref y1, .ref y2, .ref y3, .int wt, .int wc])), (h0, .inr (5, [.ref h1, .ref h2, .ref h3, .ref h4])), (h1, .inl (k 1, 10, .inl (vv n see tm g))), (h2, .inl (k 1, 24, .inl ff)), (h3, .inl (k 1, 24, .inl fp)), (h4, .inl (k 1, 4, .inl fl)), (u0, .inr (3, [.ref u1, .ref u2, .int rf, .int (nI rc), .int (nI rr)])), (u1, .inl (k 1, 24, .inl rs)), (u2, .inl (k 1, 24, .inl rb)), (c0, .inr (4, [.ref c1, .ref c2, .int (nI cc), .int (nI rz), .int ro, .int sd__12]))]) [0, 1, 2, 3, 4, 5, 6, 7, 8, 9] (by decide) rfl
          exact W.iret (v := x_24) hx hb hr (fun t ht hW => ⟨⟨x_24, sd__12, rfl, trivial, by rw [ht]; exact hP9, hD9⟩, hS.F ht⟩) hS.2.2 dX2_eveningOf_87


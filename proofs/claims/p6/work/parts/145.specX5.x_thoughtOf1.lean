theorem dX2_thoughtOf_0 : decode cX2_thoughtOf 0 = .ok (.ldc2_w 82, 3) := by decide +kernel
theorem dX2_thoughtOf_3 : decode cX2_thoughtOf 3 = .ok (.lstore 4, 2) := by decide +kernel
theorem dX2_thoughtOf_5 : decode cX2_thoughtOf 5 = .ok (.ldc2_w 82, 3) := by decide +kernel
theorem dX2_thoughtOf_8 : decode cX2_thoughtOf 8 = .ok (.lstore 6, 2) := by decide +kernel
theorem dX2_thoughtOf_10 : decode cX2_thoughtOf 10 = .ok (.aload_n 3, 1) := by decide +kernel
theorem dX2_thoughtOf_11 : decode cX2_thoughtOf 11 = .ok (.getfield 84, 3) := by decide +kernel
theorem dX2_thoughtOf_14 : decode cX2_thoughtOf 14 = .ok (.aload_n 1, 1) := by decide +kernel
theorem dX2_thoughtOf_15 : decode cX2_thoughtOf 15 = .ok (.invokevirtual 61, 3) := by decide +kernel
theorem dX2_thoughtOf_18 : decode cX2_thoughtOf 18 = .ok (.aload_n 2, 1) := by decide +kernel
theorem dX2_thoughtOf_19 : decode cX2_thoughtOf 19 = .ok (.invokevirtual 61, 3) := by decide +kernel
theorem dX2_thoughtOf_22 : decode cX2_thoughtOf 22 = .ok (.invokestatic 89, 3) := by decide +kernel
theorem dX2_thoughtOf_25 : decode cX2_thoughtOf 25 = .ok (.invokestatic 89, 3) := by decide +kernel
theorem dX2_thoughtOf_28 : decode cX2_thoughtOf 28 = .ok (.istore 8, 2) := by decide +kernel
theorem dX2_thoughtOf_30 : decode cX2_thoughtOf 30 = .ok (.iconst 0, 1) := by decide +kernel
theorem dX2_thoughtOf_31 : decode cX2_thoughtOf 31 = .ok (.istore 9, 2) := by decide +kernel
theorem dX2_thoughtOf_33 : decode cX2_thoughtOf 33 = .ok (.iconst 0, 1) := by decide +kernel
theorem dX2_thoughtOf_34 : decode cX2_thoughtOf 34 = .ok (.istore 10, 2) := by decide +kernel
theorem dX2_thoughtOf_36 : decode cX2_thoughtOf 36 = .ok (.iload 10, 2) := by decide +kernel
theorem dX2_thoughtOf_38 : decode cX2_thoughtOf 38 = .ok (.iload 8, 2) := by decide +kernel
theorem dX2_thoughtOf_40 : decode cX2_thoughtOf 40 = .ok (.if_icmp .ge 99, 3) := by decide +kernel
theorem dX2_thoughtOf_43 : decode cX2_thoughtOf 43 = .ok (.aload_n 3, 1) := by decide +kernel
theorem dX2_thoughtOf_44 : decode cX2_thoughtOf 44 = .ok (.iload 10, 2) := by decide +kernel
theorem dX2_thoughtOf_46 : decode cX2_thoughtOf 46 = .ok (.invokevirtual 94, 3) := by decide +kernel
theorem dX2_thoughtOf_49 : decode cX2_thoughtOf 49 = .ok (.istore 11, 2) := by decide +kernel
theorem dX2_thoughtOf_51 : decode cX2_thoughtOf 51 = .ok (.lload 4, 2) := by decide +kernel
theorem dX2_thoughtOf_53 : decode cX2_thoughtOf 53 = .ok (.aload_n 1, 1) := by decide +kernel
theorem dX2_thoughtOf_54 : decode cX2_thoughtOf 54 = .ok (.iload 10, 2) := by decide +kernel
theorem dX2_thoughtOf_56 : decode cX2_thoughtOf 56 = .ok (.iload 9, 2) := by decide +kernel
theorem dX2_thoughtOf_58 : decode cX2_thoughtOf 58 = .ok (.iload 11, 2) := by decide +kernel
theorem dX2_thoughtOf_60 : decode cX2_thoughtOf 60 = .ok (.invokestatic 97, 3) := by decide +kernel
theorem dX2_thoughtOf_63 : decode cX2_thoughtOf 63 = .ok (.i2l, 1) := by decide +kernel
theorem dX2_thoughtOf_64 : decode cX2_thoughtOf 64 = .ok (.lmul, 1) := by decide +kernel
theorem dX2_thoughtOf_65 : decode cX2_thoughtOf 65 = .ok (.ldc2_w 101, 3) := by decide +kernel
theorem dX2_thoughtOf_68 : decode cX2_thoughtOf 68 = .ok (.ldiv, 1) := by decide +kernel
theorem dX2_thoughtOf_69 : decode cX2_thoughtOf 69 = .ok (.lstore 4, 2) := by decide +kernel
theorem dX2_thoughtOf_71 : decode cX2_thoughtOf 71 = .ok (.lload 6, 2) := by decide +kernel
theorem dX2_thoughtOf_73 : decode cX2_thoughtOf 73 = .ok (.aload_n 2, 1) := by decide +kernel
theorem dX2_thoughtOf_74 : decode cX2_thoughtOf 74 = .ok (.iload 10, 2) := by decide +kernel
theorem dX2_thoughtOf_76 : decode cX2_thoughtOf 76 = .ok (.iload 9, 2) := by decide +kernel
theorem dX2_thoughtOf_78 : decode cX2_thoughtOf 78 = .ok (.iload 11, 2) := by decide +kernel
theorem dX2_thoughtOf_80 : decode cX2_thoughtOf 80 = .ok (.invokestatic 97, 3) := by decide +kernel
theorem dX2_thoughtOf_83 : decode cX2_thoughtOf 83 = .ok (.i2l, 1) := by decide +kernel
theorem dX2_thoughtOf_84 : decode cX2_thoughtOf 84 = .ok (.lmul, 1) := by decide +kernel
theorem dX2_thoughtOf_85 : decode cX2_thoughtOf 85 = .ok (.ldc2_w 101, 3) := by decide +kernel
theorem dX2_thoughtOf_88 : decode cX2_thoughtOf 88 = .ok (.ldiv, 1) := by decide +kernel
theorem dX2_thoughtOf_89 : decode cX2_thoughtOf 89 = .ok (.lstore 6, 2) := by decide +kernel
theorem dX2_thoughtOf_91 : decode cX2_thoughtOf 91 = .ok (.lload 4, 2) := by decide +kernel
theorem dX2_thoughtOf_93 : decode cX2_thoughtOf 93 = .ok (.lload 6, 2) := by decide +kernel
theorem dX2_thoughtOf_95 : decode cX2_thoughtOf 95 = .ok (.invokestatic 103, 3) := by decide +kernel
theorem dX2_thoughtOf_98 : decode cX2_thoughtOf 98 = .ok (.lstore 12, 2) := by decide +kernel
theorem dX2_thoughtOf_100 : decode cX2_thoughtOf 100 = .ok (.lload 12, 2) := by decide +kernel
theorem dX2_thoughtOf_102 : decode cX2_thoughtOf 102 = .ok (.lconst 0, 1) := by decide +kernel
theorem dX2_thoughtOf_103 : decode cX2_thoughtOf 103 = .ok (.lcmp, 1) := by decide +kernel
theorem dX2_thoughtOf_104 : decode cX2_thoughtOf 104 = .ok (.ifCond .le 25, 3) := by decide +kernel
theorem dX2_thoughtOf_107 : decode cX2_thoughtOf 107 = .ok (.lload 4, 2) := by decide +kernel
theorem dX2_thoughtOf_109 : decode cX2_thoughtOf 109 = .ok (.ldc2_w 107, 3) := by decide +kernel
theorem dX2_thoughtOf_112 : decode cX2_thoughtOf 112 = .ok (.lmul, 1) := by decide +kernel
theorem dX2_thoughtOf_113 : decode cX2_thoughtOf 113 = .ok (.lload 12, 2) := by decide +kernel
theorem dX2_thoughtOf_115 : decode cX2_thoughtOf 115 = .ok (.ldiv, 1) := by decide +kernel
theorem dX2_thoughtOf_116 : decode cX2_thoughtOf 116 = .ok (.lstore 4, 2) := by decide +kernel
theorem dX2_thoughtOf_118 : decode cX2_thoughtOf 118 = .ok (.lload 6, 2) := by decide +kernel
theorem dX2_thoughtOf_120 : decode cX2_thoughtOf 120 = .ok (.ldc2_w 107, 3) := by decide +kernel
theorem dX2_thoughtOf_123 : decode cX2_thoughtOf 123 = .ok (.lmul, 1) := by decide +kernel
theorem dX2_thoughtOf_124 : decode cX2_thoughtOf 124 = .ok (.lload 12, 2) := by decide +kernel
theorem dX2_thoughtOf_126 : decode cX2_thoughtOf 126 = .ok (.ldiv, 1) := by decide +kernel
theorem dX2_thoughtOf_127 : decode cX2_thoughtOf 127 = .ok (.lstore 6, 2) := by decide +kernel
theorem dX2_thoughtOf_129 : decode cX2_thoughtOf 129 = .ok (.iload 11, 2) := by decide +kernel
theorem dX2_thoughtOf_131 : decode cX2_thoughtOf 131 = .ok (.istore 9, 2) := by decide +kernel
theorem dX2_thoughtOf_133 : decode cX2_thoughtOf 133 = .ok (.iinc 10 1, 3) := by decide +kernel
theorem dX2_thoughtOf_136 : decode cX2_thoughtOf 136 = .ok (.goto (-100), 3) := by decide +kernel
theorem dX2_thoughtOf_139 : decode cX2_thoughtOf 139 = .ok (.lload 4, 2) := by decide +kernel
theorem dX2_thoughtOf_141 : decode cX2_thoughtOf 141 = .ok (.lload 6, 2) := by decide +kernel
theorem dX2_thoughtOf_143 : decode cX2_thoughtOf 143 = .ok (.ladd, 1) := by decide +kernel
theorem dX2_thoughtOf_144 : decode cX2_thoughtOf 144 = .ok (.lstore 10, 2) := by decide +kernel
theorem dX2_thoughtOf_146 : decode cX2_thoughtOf 146 = .ok (.lload 10, 2) := by decide +kernel
theorem dX2_thoughtOf_148 : decode cX2_thoughtOf 148 = .ok (.lconst 0, 1) := by decide +kernel
theorem dX2_thoughtOf_149 : decode cX2_thoughtOf 149 = .ok (.lcmp, 1) := by decide +kernel
theorem dX2_thoughtOf_150 : decode cX2_thoughtOf 150 = .ok (.ifCond .le 16, 3) := by decide +kernel
theorem dX2_thoughtOf_153 : decode cX2_thoughtOf 153 = .ok (.lload 4, 2) := by decide +kernel
theorem dX2_thoughtOf_155 : decode cX2_thoughtOf 155 = .ok (.ldc2_w 107, 3) := by decide +kernel
theorem dX2_thoughtOf_158 : decode cX2_thoughtOf 158 = .ok (.lmul, 1) := by decide +kernel
theorem dX2_thoughtOf_159 : decode cX2_thoughtOf 159 = .ok (.lload 10, 2) := by decide +kernel
theorem dX2_thoughtOf_161 : decode cX2_thoughtOf 161 = .ok (.ldiv, 1) := by decide +kernel
theorem dX2_thoughtOf_162 : decode cX2_thoughtOf 162 = .ok (.l2i, 1) := by decide +kernel
theorem dX2_thoughtOf_163 : decode cX2_thoughtOf 163 = .ok (.goto 4, 3) := by decide +kernel
theorem dX2_thoughtOf_166 : decode cX2_thoughtOf 166 = .ok (.iconst 0, 1) := by decide +kernel
theorem dX2_thoughtOf_167 : decode cX2_thoughtOf 167 = .ok (.ireturn, 1) := by decide +kernel
set_option maxHeartbeats 4000000 in
set_option maxRecDepth 100000 in
theorem x_thoughtOf1 (l : Launch) (D : va_G) (k : Nat → ClassId) (st : Nat → Nat) (lo : Nat) (y0 : Nat) (y1 : Nat) (y2 : Nat) (y3 : Nat) (wt : Int32) (wc : Int32) (h0 : Nat) (h1 : Nat) (h2 : Nat) (h3 : Nat) (h4 : Nat) (n : Nat) (see : Nat) (tm : Nat) (g : Nat → Int32) (ff : Nat → Int32) (c0 : Nat) (c1 : Nat) (c2 : Nat) (cc : Nat) (rz : Nat) (ro : Int32) (sd : Int32) (hn : n ≤ 24) (hrz : rz ≤ 24) : CRi l D k st lo yX2_thoughtOf cX2_thoughtOf 14 (some .int) ({ frames := 3, cells := 0, slots := 0, locals := 107 }) [.ref y0, .ref h0, .ref h0, .ref c0] [(y0, .inr (2, (fX2 y1 y2 y3 wt wc))), (h0, .inr (5, (fX5 h1 h2 h3 h4))), (aI k h1 10 (vv n see tm g)), (aI k h2 24 ff), (c0, .inr (4, (fX4 c1 c2 (nI cc) (nI rz) ro sd)))] (fun _ => True) := by
  intro sz
  refine Met.ofW (cc := cX2_thoughtOf) (maxL := 14) (ret := (some .int)) (by decide) rfl ?_
  intro p e s m args below meth c s₁ B hml hv
  obtain ⟨rfl, hsz, hlo, hP, hK, hDL, hZ⟩ := hv
  have hx := B.exec
  have hb := B.bytes
  have hr := B.returns
  have hts := WS_ts B.pre
  have hown : s.vm.findClass RX2 = some m.cls := findClass_of_methodNamed B.named
  have hlocks := B.notSynchronized
  subst hsz
  have hA : ∀ q : Nat, s.heap.size ≤ q → (fun q : Nat => s.heap.size ≤ q) q := fun _ h => h
  have hAlo : ∀ q : Nat, (fun q : Nat => s.heap.size ≤ q) q → lo ≤ q := fun q h => Nat.le_trans hlo h
  have hS : va_S (fun q : Nat => s.heap.size ≤ q) s.heap s.heap [] := va_S.rf
  have hl := lv_entry ([.ref y0, .ref h0, .ref h0, .ref c0]) (n := 14) (Nat.le_of_ble_eq_true rfl)
  rw [lg_entry_eq]
  generalize (lg_sl ([.ref y0, .ref h0, .ref h0, .ref c0]) ++ List.replicate (14 - (lg_sl ([.ref y0, .ref h0, .ref h0, .ref c0])).length) Slot.unset).toArray = ls at hl ⊢
  have hl : lv_has ls 14 [(0, .ref y0), (1, .ref h0), (2, .ref h0), (3, .ref c0)] := hl
  refine lv_ldc2 hx hb hown (hts _ tw_769) dX2_thoughtOf_0 ?_
  refine lv_lstore (lv' := [(4, .long 500000), (0, .ref y0), (1, .ref h0), (2, .ref h0), (3, .ref c0)]) hx hb dX2_thoughtOf_3 hl (by decide) rfl (fun ls hl => ?_)
  refine lv_ldc2 hx hb hown (hts _ tw_769) dX2_thoughtOf_5 ?_
  refine lv_lstore (lv' := [(6, .long 500000), (4, .long 500000), (0, .ref y0), (1, .ref h0), (2, .ref h0), (3, .ref c0)]) hx hb dX2_thoughtOf_8 hl (by decide) rfl (fun ls hl => ?_)
  refine lv_aload_n hx hb dX2_thoughtOf_10 rfl (lv_at hl 5 rfl) ?_
  refine va_get (D := D) (ci := 4) (v := .int (nI rz)) (C := RX4) (T := TX4) (N := 6) hx hb hts inX4 hown hK hP 4 rfl rfl 3 (by decide) (hts _ tw_182) (fun _ h9 => h9) rfl dX2_thoughtOf_11 ?_
  refine lv_aload_n hx hb dX2_thoughtOf_14 rfl (lv_at hl 3 rfl) ?_
  refine ro_i (D := D) (va_runV (As := []) (rest := [.int (nI rz)]) ⟨hx, hb, hml, hown, hts⟩ ((x_doors l D k st lo h0 h1 h2 h3 h4 n see tm g) s.heap.size) (cwV 0 hts (gV tw_723 tw_478 tw_479 tw_81 tw_480) rfl rfl rfl (by decide +kernel) ⟨Nat.le_of_ble_eq_true rfl, Nat.le_of_ble_eq_true rfl⟩) (pV hS hAlo hlo hP hK hDL hZ [1, 2] (by decide) rfl (ci := 5) (q := (RX5, TX5, 4)) (q0 := 0) rfl rfl) rfl rfl hl.1 rfl (lv_room (Nat.le_of_ble_eq_true rfl)) dX2_thoughtOf_15 ⟨Nat.le_of_ble_eq_true rfl, Nat.le_of_ble_eq_true rfl⟩) hS hA hP (fun r_1 H locs hw_1 hP hS => ?_)
  try dsimp only at hw_1
  subst hw_1
  refine lv_aload_n hx hb dX2_thoughtOf_18 rfl (lv_at hl 4 rfl) ?_
  refine ro_i (D := D) (va_runV (As := []) (rest := [.int (nI n), .int (nI rz)]) ⟨hx, hb, hml, hown, hts⟩ ((x_doors l D k st lo h0 h1 h2 h3 h4 n see tm g) H.size) (cwV 0 hts (gV tw_723 tw_478 tw_479 tw_81 tw_480) rfl rfl rfl (by decide +kernel) ⟨Nat.le_of_ble_eq_true rfl, Nat.le_of_ble_eq_true rfl⟩) (pV hS hAlo hlo hP hK hDL hZ [1, 2] (by decide) rfl (ci := 5) (q := (RX5, TX5, 4)) (q0 := 0) rfl rfl) rfl rfl hl.1 rfl (lv_room (Nat.le_of_ble_eq_true rfl)) dX2_thoughtOf_19 ⟨Nat.le_of_ble_eq_true rfl, Nat.le_of_ble_eq_true rfl⟩) hS hA hP (fun r_2 H locs hw_2 hP hS => ?_)
  try dsimp only at hw_2
  subst hw_2
  refine va_mmin hx hb (by rw [hml]; exact hl.1.symm) hown (hts _ tw_770) (hts _ tw_529) (hts _ tw_93) (hts _ tw_530) (Nat.le_of_ble_eq_true rfl) (Nat.le_of_ble_eq_true rfl) (Nat.le_of_ble_eq_true rfl) (Nat.le_of_ble_eq_true rfl) dX2_thoughtOf_22 ?_
  refine lv_ti (y := (nI (min n n))) (mminN (by omega) (by omega)) ?_
  refine va_mmin hx hb (by rw [hml]; exact hl.1.symm) hown (hts _ tw_770) (hts _ tw_529) (hts _ tw_93) (hts _ tw_530) (Nat.le_of_ble_eq_true rfl) (Nat.le_of_ble_eq_true rfl) (Nat.le_of_ble_eq_true rfl) (Nat.le_of_ble_eq_true rfl) dX2_thoughtOf_25 ?_
  refine lv_ti (y := (nI (min rz (min n n)))) (mminN (by omega) (by omega)) ?_
  refine lv_istore (lv' := [(8, .int (nI (min rz (min n n)))), (6, .long 500000), (4, .long 500000), (0, .ref y0), (1, .ref h0), (2, .ref h0), (3, .ref c0)]) hx hb dX2_thoughtOf_28 hl (by decide) rfl (fun ls hl => ?_)
  refine lv_iconst (v := 0) hx hb dX2_thoughtOf_30 (by decide) ?_
  refine lv_istore (lv' := [(9, .int 0), (8, .int (nI (min rz (min n n)))), (6, .long 500000), (4, .long 500000), (0, .ref y0), (1, .ref h0), (2, .ref h0), (3, .ref c0)]) hx hb dX2_thoughtOf_31 hl (by decide) rfl (fun ls hl => ?_)
  refine lv_iconst (v := 0) hx hb dX2_thoughtOf_33 (by decide) ?_
  refine lv_istore (lv' := [(10, .int 0), (9, .int 0), (8, .int (nI (min rz (min n n)))), (6, .long 500000), (4, .long 500000), (0, .ref y0), (1, .ref h0), (2, .ref h0), (3, .ref c0)]) hx hb dX2_thoughtOf_34 hl (by decide) rfl (fun ls hl => ?_)
  refine W_loop (σ := Nat × Int64 × Int64 × Int32) (fun (n_ : Nat) (x_ : Nat × Int64 × Int64 × Int32) (H : Heap) (locs : List Loc) (ls : Array Slot) => match x_ with | (ii_5, w2_5, v2_5, ah_5) => n_ = 25 - ii_5 ∧ (ii_5 ≤ 24) ∧ va_P D classes [(y0, .inr (2, (fX2 y1 y2 y3 wt wc))), (h0, .inr (5, (fX5 h1 h2 h3 h4))), (aI k h1 10 (vv n see tm g)), (aI k h2 24 ff), (c0, .inr (4, (fX4 c1 c2 (nI cc) (nI rz) ro sd)))] H ∧ va_S (fun q : Nat => s.heap.size ≤ q) s.heap H locs ∧ lv_has ls 14 [(10, .int (nI ii_5)), (9, .int ah_5), (8, .int (nI (min rz (min n n)))), (6, .long v2_5), (4, .long w2_5), (0, .ref y0), (1, .ref h0), (2, .ref h0), (3, .ref c0)]) (fun n_5 x_5 H locs ls hI ih_5 => ?_) _ (0, 500000, 500000, 0) ⟨rfl, (by omega), hP, hS, (lv_sub hl [0, 1, 2, 3, 4, 5, 6, 7, 8] rfl)⟩
  obtain ⟨ii_5, w2_5, v2_5, ah_5⟩ := x_5
  obtain ⟨hm_5, hv_5, hP, hS, hl⟩ := hI
  subst hm_5
  refine lv_iload hx hb dX2_thoughtOf_36 (lv_at hl 0 rfl) ?_
  refine lv_iload hx hb dX2_thoughtOf_38 (lv_at hl 2 rfl) ?_
  refine lv_icmp_ge (tgt := 139) hx hb dX2_thoughtOf_40 (by decide) (fun c_6 => ?_) (fun c_6 => ?_)
  · have c_6 := (nI_leI (a := (min rz (min n n))) (b := ii_5) (by omega) (by omega)).mp c_6
    refine lv_lload hx hb dX2_thoughtOf_139 (lv_at hl 4 rfl) ?_
    refine lv_lload hx hb dX2_thoughtOf_141 (lv_at hl 3 rfl) ?_
    refine lv_ladd hx hb dX2_thoughtOf_143 ?_
    refine lv_topl (fun x_7 ex_7 => ?_)
    refine lv_lstore (lv' := [(10, .long x_7), (9, .int ah_5), (8, .int (nI (min rz (min n n)))), (6, .long v2_5), (4, .long w2_5), (0, .ref y0), (1, .ref h0), (2, .ref h0), (3, .ref c0)]) hx hb dX2_thoughtOf_144 hl (by decide) rfl (fun ls hl => ?_)
    refine lv_lload hx hb dX2_thoughtOf_146 (lv_at hl 0 rfl) ?_
    refine lv_lconst (v := 0) hx hb dX2_thoughtOf_148 (by decide) ?_
    refine W.lcmp hx hb dX2_thoughtOf_149 ?_
    refine lv_if_le (tgt := 166) hx hb dX2_thoughtOf_150 (by decide) (fun c_8 => ?_) (fun c_8 => ?_)
    · refine lv_iconst (v := 0) hx hb dX2_thoughtOf_166 (by decide) ?_
      exact W.iret (v := 0) hx hb hr (fun t ht hW => ⟨⟨0, (), rfl, trivial, trivial⟩, hS.F ht⟩) hS.2.2 dX2_thoughtOf_167
    · refine lv_lload hx hb dX2_thoughtOf_153 (lv_at hl 4 rfl) ?_
      refine lv_ldc2 hx hb hown (hts _ tw_779) dX2_thoughtOf_155 ?_
      refine lv_lmul hx hb dX2_thoughtOf_158 ?_
      refine lv_topl (fun x_9 ex_9 => ?_)
      refine lv_lload hx hb dX2_thoughtOf_159 (lv_at hl 0 rfl) ?_
      refine lv_ldiv hx hb dX2_thoughtOf_161 (fun h => c_8 (by rw [h]; decide)) ?_
      refine lv_topl (fun x_10 ex_10 => ?_)
      refine lv_l2i hx hb dX2_thoughtOf_162 rfl ?_
      refine lv_topi (fun x_11 ex_11 => ?_)
      refine lv_goto (tgt := 167) hx hb dX2_thoughtOf_163 (by decide) ?_
      exact W.iret (v := x_11) hx hb hr (fun t ht hW => ⟨⟨x_11, (), rfl, trivial, trivial⟩, hS.F ht⟩) hS.2.2 dX2_thoughtOf_167
  · have c_6 : ¬ ((min rz (min n n)) ≤ ii_5) := fun h => c_6 ((nI_leI (a := (min rz (min n n))) (b := ii_5) (by omega) (by omega)).mpr h)
    refine lv_aload_n hx hb dX2_thoughtOf_43 rfl (lv_at hl 8 rfl) ?_
    refine lv_iload hx hb dX2_thoughtOf_44 (lv_at hl 0 rfl) ?_
    refine ro_i (D := D) (va_runV (As := [.int (nI ii_5)]) (rest := []) ⟨hx, hb, hml, hown, hts⟩ ((x_sawFree l D k st lo c0 c1 c2 cc rz ro sd (nI ii_5)) H.size) (cwV 1 hts (gV tw_771 tw_753 tw_754 tw_82 tw_755) rfl rfl rfl (by decide +kernel) ⟨Nat.le_of_ble_eq_true rfl, Nat.le_of_ble_eq_true rfl⟩) (pV hS hAlo hlo hP hK hDL hZ [4] (by decide) rfl (ci := 4) (q := (RX4, TX4, 6)) (q0 := 0) rfl rfl) rfl rfl hl.1 rfl (lv_room (Nat.le_of_ble_eq_true rfl)) dX2_thoughtOf_46 ⟨Nat.le_of_ble_eq_true rfl, Nat.le_of_ble_eq_true rfl⟩) hS hA hP (fun r_12 H locs hw_12 hP hS => ?_)
    try dsimp only at hw_12
    rcases hw_12 with rfl | rfl
    · refine lv_istore (lv' := [(11, .int 1), (10, .int (nI ii_5)), (9, .int ah_5), (8, .int (nI (min rz (min n n)))), (6, .long v2_5), (4, .long w2_5), (0, .ref y0), (1, .ref h0), (2, .ref h0), (3, .ref c0)]) hx hb dX2_thoughtOf_49 hl (by decide) rfl (fun ls hl => ?_)
      refine lv_lload hx hb dX2_thoughtOf_51 (lv_at hl 5 rfl) ?_
      refine lv_aload_n hx hb dX2_thoughtOf_53 rfl (lv_at hl 7 rfl) ?_
      refine lv_iload hx hb dX2_thoughtOf_54 (lv_at hl 1 rfl) ?_
      refine lv_iload hx hb dX2_thoughtOf_56 (lv_at hl 2 rfl) ?_
      refine lv_iload hx hb dX2_thoughtOf_58 (lv_at hl 0 rfl) ?_
      refine ro_i (D := D) (va_runS (As := [.ref h0, .int (nI ii_5), .int ah_5, .int 1]) (rest := [.long w2_5]) ⟨hx, hb, hml, hown, hts⟩ ((x_likelihood l D k st lo h0 h1 h2 h3 h4 n see tm g ff ii_5 ah_5 1 (by omega)) H.size) (va_cwS 4 hts (gS tw_772 tw_773 tw_83 tw_774) rfl rfl rfl (by decide +kernel) ⟨Nat.le_of_ble_eq_true rfl, Nat.le_of_ble_eq_true rfl⟩) (pS hS hAlo hlo hP hK hDL hZ [1, 2, 3] (by decide) rfl) rfl rfl hl.1 rfl (lv_room (Nat.le_of_ble_eq_true rfl)) dX2_thoughtOf_60 ⟨Nat.le_of_ble_eq_true rfl, Nat.le_of_ble_eq_true rfl⟩) hS hA hP (fun r_13 H locs hw_13 hP hS => ?_)
      try dsimp only at hw_13
      refine lv_i2l (v := r_13.toInt64) hx hb dX2_thoughtOf_63 rfl ?_
      refine lv_lmul hx hb dX2_thoughtOf_64 ?_
      refine lv_topl (fun x_14 ex_14 => ?_)
      refine lv_ldc2 hx hb hown (hts _ tw_775) dX2_thoughtOf_65 ?_
      refine lv_ldiv hx hb dX2_thoughtOf_68 (by decide) ?_
      refine lv_topl (fun x_15 ex_15 => ?_)
      refine lv_lstore (lv' := [(4, .long x_15), (11, .int 1), (10, .int (nI ii_5)), (9, .int ah_5), (8, .int (nI (min rz (min n n)))), (6, .long v2_5), (0, .ref y0), (1, .ref h0), (2, .ref h0), (3, .ref c0)]) hx hb dX2_thoughtOf_69 hl (by decide) rfl (fun ls hl => ?_)
      refine lv_lload hx hb dX2_thoughtOf_71 (lv_at hl 5 rfl) ?_
      refine lv_aload_n hx hb dX2_thoughtOf_73 rfl (lv_at hl 8 rfl) ?_
      refine lv_iload hx hb dX2_thoughtOf_74 (lv_at hl 2 rfl) ?_
      refine lv_iload hx hb dX2_thoughtOf_76 (lv_at hl 3 rfl) ?_
      refine lv_iload hx hb dX2_thoughtOf_78 (lv_at hl 1 rfl) ?_
      refine ro_i (D := D) (va_runS (As := [.ref h0, .int (nI ii_5), .int ah_5, .int 1]) (rest := [.long v2_5]) ⟨hx, hb, hml, hown, hts⟩ ((x_likelihood l D k st lo h0 h1 h2 h3 h4 n see tm g ff ii_5 ah_5 1 (by omega)) H.size) (va_cwS 4 hts (gS tw_772 tw_773 tw_83 tw_774) rfl rfl rfl (by decide +kernel) ⟨Nat.le_of_ble_eq_true rfl, Nat.le_of_ble_eq_true rfl⟩) (pS hS hAlo hlo hP hK hDL hZ [1, 2, 3] (by decide) rfl) rfl rfl hl.1 rfl (lv_room (Nat.le_of_ble_eq_true rfl)) dX2_thoughtOf_80 ⟨Nat.le_of_ble_eq_true rfl, Nat.le_of_ble_eq_true rfl⟩) hS hA hP (fun r_16 H locs hw_16 hP hS => ?_)
      try dsimp only at hw_16
      refine lv_i2l (v := r_16.toInt64) hx hb dX2_thoughtOf_83 rfl ?_
      refine lv_lmul hx hb dX2_thoughtOf_84 ?_
      refine lv_topl (fun x_17 ex_17 => ?_)
      refine lv_ldc2 hx hb hown (hts _ tw_775) dX2_thoughtOf_85 ?_
      refine lv_ldiv hx hb dX2_thoughtOf_88 (by decide) ?_
      refine lv_topl (fun x_18 ex_18 => ?_)
      refine lv_lstore (lv' := [(6, .long x_18), (4, .long x_15), (11, .int 1), (10, .int (nI ii_5)), (9, .int ah_5), (8, .int (nI (min rz (min n n)))), (0, .ref y0), (1, .ref h0), (2, .ref h0), (3, .ref c0)]) hx hb dX2_thoughtOf_89 hl (by decide) rfl (fun ls hl => ?_)
      refine lv_lload hx hb dX2_thoughtOf_91 (lv_at hl 1 rfl) ?_
      refine lv_lload hx hb dX2_thoughtOf_93 (lv_at hl 0 rfl) ?_
      refine va_mmax_long hx hb (by rw [hml]; exact hl.1.symm) hown (hts _ tw_776) (hts _ tw_777) (hts _ tw_93) (hts _ tw_778) (Nat.le_of_ble_eq_true rfl) (Nat.le_of_ble_eq_true rfl) (Nat.le_of_ble_eq_true rfl) (Nat.le_of_ble_eq_true rfl) dX2_thoughtOf_95 ?_
      refine lv_topl (fun x_19 ex_19 => ?_)
      refine lv_lstore (lv' := [(12, .long x_19), (6, .long x_18), (4, .long x_15), (11, .int 1), (10, .int (nI ii_5)), (9, .int ah_5), (8, .int (nI (min rz (min n n)))), (0, .ref y0), (1, .ref h0), (2, .ref h0), (3, .ref c0)]) hx hb dX2_thoughtOf_98 hl (by decide) rfl (fun ls hl => ?_)
      refine lv_lload hx hb dX2_thoughtOf_100 (lv_at hl 0 rfl) ?_
      refine lv_lconst (v := 0) hx hb dX2_thoughtOf_102 (by decide) ?_
      refine W.lcmp hx hb dX2_thoughtOf_103 ?_
      refine lv_if_le (tgt := 129) hx hb dX2_thoughtOf_104 (by decide) (fun c_20 => ?_) (fun c_20 => ?_)
      · refine lv_iload hx hb dX2_thoughtOf_129 (lv_at hl 3 rfl) ?_
        refine lv_istore (lv' := [(9, .int 1), (12, .long x_19), (6, .long x_18), (4, .long x_15), (11, .int 1), (10, .int (nI ii_5)), (8, .int (nI (min rz (min n n)))), (0, .ref y0), (1, .ref h0), (2, .ref h0), (3, .ref c0)]) hx hb dX2_thoughtOf_131 hl (by decide) rfl (fun ls hl => ?_)
        refine lv_iinc (v := (nI (ii_5 + 1))) (lv' := [(10, .int (nI (ii_5 + 1))), (9, .int 1), (12, .long x_19), (6, .long x_18), (4, .long x_15), (11, .int 1), (8, .int (nI (min rz (min n n)))), (0, .ref y0), (1, .ref h0), (2, .ref h0), (3, .ref c0)]) hx hb dX2_thoughtOf_133 hl (k := 5) rfl (nI_add ii_5 1) (by decide) rfl (fun ls hl => ?_)
        refine lv_goto (tgt := 36) hx hb dX2_thoughtOf_136 (by decide) ?_
        exact ih_5 _ (ii_5 + 1, x_15, x_18, 1) _ _ _ (by omega) ⟨rfl, (by omega), hP, hS, (lv_sub hl [0, 1, 6, 3, 4, 7, 8, 9, 10] rfl)⟩
      · refine lv_lload hx hb dX2_thoughtOf_107 (lv_at hl 2 rfl) ?_
        refine lv_ldc2 hx hb hown (hts _ tw_779) dX2_thoughtOf_109 ?_
        refine lv_lmul hx hb dX2_thoughtOf_112 ?_
        refine lv_topl (fun x_21 ex_21 => ?_)
        refine lv_lload hx hb dX2_thoughtOf_113 (lv_at hl 0 rfl) ?_
        refine lv_ldiv hx hb dX2_thoughtOf_115 (fun h => c_20 (by rw [h]; decide)) ?_
        refine lv_topl (fun x_22 ex_22 => ?_)
        refine lv_lstore (lv' := [(4, .long x_22), (12, .long x_19), (6, .long x_18), (11, .int 1), (10, .int (nI ii_5)), (9, .int ah_5), (8, .int (nI (min rz (min n n)))), (0, .ref y0), (1, .ref h0), (2, .ref h0), (3, .ref c0)]) hx hb dX2_thoughtOf_116 hl (by decide) rfl (fun ls hl => ?_)
        refine lv_lload hx hb dX2_thoughtOf_118 (lv_at hl 2 rfl) ?_
        refine lv_ldc2 hx hb hown (hts _ tw_779) dX2_thoughtOf_120 ?_
        refine lv_lmul hx hb dX2_thoughtOf_123 ?_
        refine lv_topl (fun x_23 ex_23 => ?_)
        refine lv_lload hx hb dX2_thoughtOf_124 (lv_at hl 1 rfl) ?_
        refine lv_ldiv hx hb dX2_thoughtOf_126 (fun h => c_20 (by rw [h]; decide)) ?_
        refine lv_topl (fun x_24 ex_24 => ?_)
        refine lv_lstore (lv' := [(6, .long x_24), (4, .long x_22), (12, .long x_19), (11, .int 1), (10, .int (nI ii_5)), (9, .int ah_5), (8, .int (nI (min rz (min n n)))), (0, .ref y0), (1, .ref h0), (2, .ref h0), (3, .ref c0)]) hx hb dX2_thoughtOf_127 hl (by decide) rfl (fun ls hl => ?_)
        refine lv_iload hx hb dX2_thoughtOf_129 (lv_at hl 3 rfl) ?_
        refine lv_istore (lv' := [(9, .int 1), (6, .long x_24), (4, .long x_22), (12, .long x_19), (11, .int 1), (10, .int (nI ii_5)), (8, .int (nI (min rz (min n n)))), (0, .ref y0), (1, .ref h0), (2, .ref h0), (3, .ref c0)]) hx hb dX2_thoughtOf_131 hl (by decide) rfl (fun ls hl => ?_)
        refine lv_iinc (v := (nI (ii_5 + 1))) (lv' := [(10, .int (nI (ii_5 + 1))), (9, .int 1), (6, .long x_24), (4, .long x_22), (12, .long x_19), (11, .int 1), (8, .int (nI (min rz (min n n)))), (0, .ref y0), (1, .ref h0), (2, .ref h0), (3, .ref c0)]) hx hb dX2_thoughtOf_133 hl (k := 5) rfl (nI_add ii_5 1) (by decide) rfl (fun ls hl => ?_)
        refine lv_goto (tgt := 36) hx hb dX2_thoughtOf_136 (by decide) ?_
        exact ih_5 _ (ii_5 + 1, x_22, x_24, 1) _ _ _ (by omega) ⟨rfl, (by omega), hP, hS, (lv_sub hl [0, 1, 6, 2, 3, 7, 8, 9, 10] rfl)⟩
    · refine lv_istore (lv' := [(11, .int 0), (10, .int (nI ii_5)), (9, .int ah_5), (8, .int (nI (min rz (min n n)))), (6, .long v2_5), (4, .long w2_5), (0, .ref y0), (1, .ref h0), (2, .ref h0), (3, .ref c0)]) hx hb dX2_thoughtOf_49 hl (by decide) rfl (fun ls hl => ?_)
      refine lv_lload hx hb dX2_thoughtOf_51 (lv_at hl 5 rfl) ?_
      refine lv_aload_n hx hb dX2_thoughtOf_53 rfl (lv_at hl 7 rfl) ?_
      refine lv_iload hx hb dX2_thoughtOf_54 (lv_at hl 1 rfl) ?_
      refine lv_iload hx hb dX2_thoughtOf_56 (lv_at hl 2 rfl) ?_
      refine lv_iload hx hb dX2_thoughtOf_58 (lv_at hl 0 rfl) ?_
      refine ro_i (D := D) (va_runS (As := [.ref h0, .int (nI ii_5), .int ah_5, .int 0]) (rest := [.long w2_5]) ⟨hx, hb, hml, hown, hts⟩ ((x_likelihood l D k st lo h0 h1 h2 h3 h4 n see tm g ff ii_5 ah_5 0 (by omega)) H.size) (va_cwS 4 hts (gS tw_772 tw_773 tw_83 tw_774) rfl rfl rfl (by decide +kernel) ⟨Nat.le_of_ble_eq_true rfl, Nat.le_of_ble_eq_true rfl⟩) (pS hS hAlo hlo hP hK hDL hZ [1, 2, 3] (by decide) rfl) rfl rfl hl.1 rfl (lv_room (Nat.le_of_ble_eq_true rfl)) dX2_thoughtOf_60 ⟨Nat.le_of_ble_eq_true rfl, Nat.le_of_ble_eq_true rfl⟩) hS hA hP (fun r_25 H locs hw_25 hP hS => ?_)
      try dsimp only at hw_25
      refine lv_i2l (v := r_25.toInt64) hx hb dX2_thoughtOf_63 rfl ?_
      refine lv_lmul hx hb dX2_thoughtOf_64 ?_
      refine lv_topl (fun x_26 ex_26 => ?_)
      refine lv_ldc2 hx hb hown (hts _ tw_775) dX2_thoughtOf_65 ?_
      refine lv_ldiv hx hb dX2_thoughtOf_68 (by decide) ?_
      refine lv_topl (fun x_27 ex_27 => ?_)
      refine lv_lstore (lv' := [(4, .long x_27), (11, .int 0), (10, .int (nI ii_5)), (9, .int ah_5), (8, .int (nI (min rz (min n n)))), (6, .long v2_5), (0, .ref y0), (1, .ref h0), (2, .ref h0), (3, .ref c0)]) hx hb dX2_thoughtOf_69 hl (by decide) rfl (fun ls hl => ?_)
      refine lv_lload hx hb dX2_thoughtOf_71 (lv_at hl 5 rfl) ?_
      refine lv_aload_n hx hb dX2_thoughtOf_73 rfl (lv_at hl 8 rfl) ?_
      refine lv_iload hx hb dX2_thoughtOf_74 (lv_at hl 2 rfl) ?_
      refine lv_iload hx hb dX2_thoughtOf_76 (lv_at hl 3 rfl) ?_
      refine lv_iload hx hb dX2_thoughtOf_78 (lv_at hl 1 rfl) ?_
      refine ro_i (D := D) (va_runS (As := [.ref h0, .int (nI ii_5), .int ah_5, .int 0]) (rest := [.long v2_5]) ⟨hx, hb, hml, hown, hts⟩ ((x_likelihood l D k st lo h0 h1 h2 h3 h4 n see tm g ff ii_5 ah_5 0 (by omega)) H.size) (va_cwS 4 hts (gS tw_772 tw_773 tw_83 tw_774) rfl rfl rfl (by decide +kernel) ⟨Nat.le_of_ble_eq_true rfl, Nat.le_of_ble_eq_true rfl⟩) (pS hS hAlo hlo hP hK hDL hZ [1, 2, 3] (by decide) rfl) rfl rfl hl.1 rfl (lv_room (Nat.le_of_ble_eq_true rfl)) dX2_thoughtOf_80 ⟨Nat.le_of_ble_eq_true rfl, Nat.le_of_ble_eq_true rfl⟩) hS hA hP (fun r_28 H locs hw_28 hP hS => ?_)
      try dsimp only at hw_28
      refine lv_i2l (v := r_28.toInt64) hx hb dX2_thoughtOf_83 rfl ?_
      refine lv_lmul hx hb dX2_thoughtOf_84 ?_
      refine lv_topl (fun x_29 ex_29 => ?_)
      refine lv_ldc2 hx hb hown (hts _ tw_775) dX2_thoughtOf_85 ?_
      refine lv_ldiv hx hb dX2_thoughtOf_88 (by decide) ?_
      refine lv_topl (fun x_30 ex_30 => ?_)
      refine lv_lstore (lv' := [(6, .long x_30), (4, .long x_27), (11, .int 0), (10, .int (nI ii_5)), (9, .int ah_5), (8, .int (nI (min rz (min n n)))), (0, .ref y0), (1, .ref h0), (2, .ref h0), (3, .ref c0)]) hx hb dX2_thoughtOf_89 hl (by decide) rfl (fun ls hl => ?_)
      refine lv_lload hx hb dX2_thoughtOf_91 (lv_at hl 1 rfl) ?_
      refine lv_lload hx hb dX2_thoughtOf_93 (lv_at hl 0 rfl) ?_
      refine va_mmax_long hx hb (by rw [hml]; exact hl.1.symm) hown (hts _ tw_776) (hts _ tw_777) (hts _ tw_93) (hts _ tw_778) (Nat.le_of_ble_eq_true rfl) (Nat.le_of_ble_eq_true rfl) (Nat.le_of_ble_eq_true rfl) (Nat.le_of_ble_eq_true rfl) dX2_thoughtOf_95 ?_
      refine lv_topl (fun x_31 ex_31 => ?_)
      refine lv_lstore (lv' := [(12, .long x_31), (6, .long x_30), (4, .long x_27), (11, .int 0), (10, .int (nI ii_5)), (9, .int ah_5), (8, .int (nI (min rz (min n n)))), (0, .ref y0), (1, .ref h0), (2, .ref h0), (3, .ref c0)]) hx hb dX2_thoughtOf_98 hl (by decide) rfl (fun ls hl => ?_)
      refine lv_lload hx hb dX2_thoughtOf_100 (lv_at hl 0 rfl) ?_
      refine lv_lconst (v := 0) hx hb dX2_thoughtOf_102 (by decide) ?_
      refine W.lcmp hx hb dX2_thoughtOf_103 ?_
      refine lv_if_le (tgt := 129) hx hb dX2_thoughtOf_104 (by decide) (fun c_32 => ?_) (fun c_32 => ?_)
      · refine lv_iload hx hb dX2_thoughtOf_129 (lv_at hl 3 rfl) ?_
        refine lv_istore (lv' := [(9, .int 0), (12, .long x_31), (6, .long x_30), (4, .long x_27), (11, .int 0), (10, .int (nI ii_5)), (8, .int (nI (min rz (min n n)))), (0, .ref y0), (1, .ref h0), (2, .ref h0), (3, .ref c0)]) hx hb dX2_thoughtOf_131 hl (by decide) rfl (fun ls hl => ?_)
        refine lv_iinc (v := (nI (ii_5 + 1))) (lv' := [(10, .int (nI (ii_5 + 1))), (9, .int 0), (12, .long x_31), (6, .long x_30), (4, .long x_27), (11, .int 0), (8, .int (nI (min rz (min n n)))), (0, .ref y0), (1, .ref h0), (2, .ref h0), (3, .ref c0)]) hx hb dX2_thoughtOf_133 hl (k := 5) rfl (nI_add ii_5 1) (by decide) rfl (fun ls hl => ?_)
        refine lv_goto (tgt := 36) hx hb dX2_thoughtOf_136 (by decide) ?_
        exact ih_5 _ (ii_5 + 1, x_27, x_30, 0) _ _ _ (by omega) ⟨rfl, (by omega), hP, hS, (lv_sub hl [0, 1, 6, 3, 4, 7, 8, 9, 10] rfl)⟩
      · refine lv_lload hx hb dX2_thoughtOf_107 (lv_at hl 2 rfl) ?_
        refine lv_ldc2 hx hb hown (hts _ tw_779) dX2_thoughtOf_109 ?_
        refine lv_lmul hx hb dX2_thoughtOf_112 ?_
        refine lv_topl (fun x_33 ex_33 => ?_)
        refine lv_lload hx hb dX2_thoughtOf_113 (lv_at hl 0 rfl) ?_
        refine lv_ldiv hx hb dX2_thoughtOf_115 (fun h => c_32 (by rw [h]; decide)) ?_
        refine lv_topl (fun x_34 ex_34 => ?_)
        refine lv_lstore (lv' := [(4, .long x_34), (12, .long x_31), (6, .long x_30), (11, .int 0), (10, .int (nI ii_5)), (9, .int ah_5), (8, .int (nI (min rz (min n n)))), (0, .ref y0), (1, .ref h0), (2, .ref h0), (3, .ref c0)]) hx hb dX2_thoughtOf_116 hl (by decide) rfl (fun ls hl => ?_)
        refine lv_lload hx hb dX2_thoughtOf_118 (lv_at hl 2 rfl) ?_
        refine lv_ldc2 hx hb hown (hts _ tw_779) dX2_thoughtOf_120 ?_
        refine lv_lmul hx hb dX2_thoughtOf_123 ?_
        refine lv_topl (fun x_35 ex_35 => ?_)
        refine lv_lload hx hb dX2_thoughtOf_124 (lv_at hl 1 rfl) ?_
        refine lv_ldiv hx hb dX2_thoughtOf_126 (fun h => c_32 (by rw [h]; decide)) ?_
        refine lv_topl (fun x_36 ex_36 => ?_)
        refine lv_lstore (lv' := [(6, .long x_36), (4, .long x_34), (12, .long x_31), (11, .int 0), (10, .int (nI ii_5)), (9, .int ah_5), (8, .int (nI (min rz (min n n)))), (0, .ref y0), (1, .ref h0), (2, .ref h0), (3, .ref c0)]) hx hb dX2_thoughtOf_127 hl (by decide) rfl (fun ls hl => ?_)
        refine lv_iload hx hb dX2_thoughtOf_129 (lv_at hl 3 rfl) ?_
        refine lv_istore (lv' := [(9, .int 0), (6, .long x_36), (4, .long x_34), (12, .long x_31), (11, .int 0), (10, .int (nI ii_5)), (8, .int (nI (min rz (min n n)))), (0, .ref y0), (1, .ref h0), (2, .ref h0), (3, .ref c0)]) hx hb dX2_thoughtOf_131 hl (by decide) rfl (fun ls hl => ?_)
        refine lv_iinc (v := (nI (ii_5 + 1))) (lv' := [(10, .int (nI (ii_5 + 1))), (9, .int 0), (6, .long x_36), (4, .long x_34), (12, .long x_31), (11, .int 0), (8, .int (nI (min rz (min n n)))), (0, .ref y0), (1, .ref h0), (2, .ref h0), (3, .ref c0)]) hx hb dX2_thoughtOf_133 hl (k := 5) rfl (nI_add ii_5 1) (by decide) rfl (fun ls hl => ?_)
        refine lv_goto (tgt := 36) hx hb dX2_thoughtOf_136 (by decide) ?_
        exact ih_5 _ (ii_5 + 1, x_34, x_36, 0) _ _ _ (by omega) ⟨rfl, (by omega), hP, hS, (lv_sub hl [0, 1, 6, 2, 3, 7, 8, 9, 10] rfl)⟩


set_option maxHeartbeats 4000000 in
set_option maxRecDepth 100000 in
theorem x_thoughtOf (l : Launch) (D : va_G) (k : Nat → ClassId) (st : Nat → Nat) (lo : Nat) (y0 : Nat) (y1 : Nat) (y2 : Nat) (y3 : Nat) (wt : Int32) (wc : Int32) (h0 : Nat) (h1 : Nat) (h2 : Nat) (h3 : Nat) (h4 : Nat) (n : Nat) (see : Nat) (tm : Nat) (g : Nat → Int32) (ff : Nat → Int32) (d0 : Nat) (d1 : Nat) (d2 : Nat) (d3 : Nat) (d4 : Nat) (nq : Nat) (seeq : Nat) (tmq : Nat) (gq : Nat → Int32) (ffq : Nat → Int32) (c0 : Nat) (c1 : Nat) (c2 : Nat) (cc : Nat) (rz : Nat) (ro : Int32) (sd : Int32) (hn : n ≤ 24) (hnq : nq ≤ 24) (hrz : rz ≤ 24) : CRi l D k st lo yX2_thoughtOf cX2_thoughtOf 14 (some .int) ({ frames := 3, cells := 0, slots := 0, locals := 107 }) [.ref y0, .ref h0, .ref d0, .ref c0] [(y0, .inr (2, (fX2 y1 y2 y3 wt wc))), (h0, .inr (5, (fX5 h1 h2 h3 h4))), (aI k h1 10 (vv n see tm g)), (aI k h2 24 ff), (d0, .inr (5, (fX5 d1 d2 d3 d4))), (aI k d1 10 (vv nq seeq tmq gq)), (aI k d2 24 ffq), (c0, .inr (4, (fX4 c1 c2 (nI cc) (nI rz) ro sd)))] (fun _ => True) := by
  intro sz
  refine Met.ofW (cc := cX2_thoughtOf) (maxL := 14) (ret := (some .int)) (by decide) rfl ?_
  intro p e s m args below meth c s₁ B hml hv
  obtain ⟨rfl, hsz, hlo, hP, hK, hDL, hZ⟩ := hv
  have hx := B.exec
  have hb := B.bytes
  have hr := B.returns
  have hts := WS_ts B.pre
  have hown : s.vm.findClass RX2 = some m.cls := findClass_of_methodNamed B.named
  have hlocks := B.notSynchronized
  subst hsz
  have hA : ∀ q : Nat, s.heap.size ≤ q → (fun q : Nat => s.heap.size ≤ q) q := fun _ h => h
  have hAlo : ∀ q : Nat, (fun q : Nat => s.heap.size ≤ q) q → lo ≤ q := fun q h => Nat.le_trans hlo h
  have hS : va_S (fun q : Nat => s.heap.size ≤ q) s.heap s.heap [] := va_S.rf
  have hl := lv_entry ([.ref y0, .ref h0, .ref d0, .ref c0]) (n := 14) (Nat.le_of_ble_eq_true rfl)
  rw [lg_entry_eq]
  generalize (lg_sl ([.ref y0, .ref h0, .ref d0, .ref c0]) ++ List.replicate (14 - (lg_sl ([.ref y0, .ref h0, .ref d0, .ref c0])).length) Slot.unset).toArray = ls at hl ⊢
  have hl : lv_has ls 14 [(0, .ref y0), (1, .ref h0), (2, .ref d0), (3, .ref c0)] := hl
  refine lv_ldc2 hx hb hown (hts _ tw_769) dX2_thoughtOf_0 ?_
  refine lv_lstore (lv' := [(4, .long 500000), (0, .ref y0), (1, .ref h0), (2, .ref d0), (3, .ref c0)]) hx hb dX2_thoughtOf_3 hl (by decide) rfl (fun ls hl => ?_)
  refine lv_ldc2 hx hb hown (hts _ tw_769) dX2_thoughtOf_5 ?_
  refine lv_lstore (lv' := [(6, .long 500000), (4, .long 500000), (0, .ref y0), (1, .ref h0), (2, .ref d0), (3, .ref c0)]) hx hb dX2_thoughtOf_8 hl (by decide) rfl (fun ls hl => ?_)
  refine lv_aload_n hx hb dX2_thoughtOf_10 rfl (lv_at hl 5 rfl) ?_
  refine va_get (D := D) (ci := 4) (v := .int (nI rz)) (C := RX4) (T := TX4) (N := 6) hx hb hts inX4 hown hK hP 7 rfl rfl 3 (by decide) (hts _ tw_182) (fun _ h9 => h9) rfl dX2_thoughtOf_11 ?_
  refine lv_aload_n hx hb dX2_thoughtOf_14 rfl (lv_at hl 3 rfl) ?_
  refine ro_i (D := D) (va_runV (As := []) (rest := [.int (nI rz)]) ⟨hx, hb, hml, hown, hts⟩ ((x_doors l D k st lo h0 h1 h2 h3 h4 n see tm g) s.heap.size) (cwV 0 hts (gV tw_723 tw_478 tw_479 tw_81 tw_480) rfl rfl rfl (by decide +kernel) ⟨Nat.le_of_ble_eq_true rfl, Nat.le_of_ble_eq_true rfl⟩) (pV hS hAlo hlo hP hK hDL hZ [1, 2] (by decide) rfl (ci := 5) (q := (RX5, TX5, 4)) (q0 := 0) rfl rfl) rfl rfl hl.1 rfl (lv_room (Nat.le_of_ble_eq_true rfl)) dX2_thoughtOf_15 ⟨Nat.le_of_ble_eq_true rfl, Nat.le_of_ble_eq_true rfl⟩) hS hA hP (fun r_1 H locs hw_1 hP hS => ?_)
  try dsimp only at hw_1
  subst hw_1
  refine lv_aload_n hx hb dX2_thoughtOf_18 rfl (lv_at hl 4 rfl) ?_
  refine ro_i (D := D) (va_runV (As := []) (rest := [.int (nI n), .int (nI rz)]) ⟨hx, hb, hml, hown, hts⟩ ((x_doors l D k st lo d0 d1 d2 d3 d4 nq seeq tmq gq) H.size) (cwV 0 hts (gV tw_723 tw_478 tw_479 tw_81 tw_480) rfl rfl rfl (by decide +kernel) ⟨Nat.le_of_ble_eq_true rfl, Nat.le_of_ble_eq_true rfl⟩) (pV hS hAlo hlo hP hK hDL hZ [4, 5] (by decide) rfl (ci := 5) (q := (RX5, TX5, 4)) (q0 := 0) rfl rfl) rfl rfl hl.1 rfl (lv_room (Nat.le_of_ble_eq_true rfl)) dX2_thoughtOf_19 ⟨Nat.le_of_ble_eq_true rfl, Nat.le_of_ble_eq_true rfl⟩) hS hA hP (fun r_2 H locs hw_2 hP hS => ?_)
  try dsimp only at hw_2
  subst hw_2
  refine va_mmin hx hb (by rw [hml]; exact hl.1.symm) hown (hts _ tw_770) (hts _ tw_529) (hts _ tw_93) (hts _ tw_530) (Nat.le_of_ble_eq_true rfl) (Nat.le_of_ble_eq_true rfl) (Nat.le_of_ble_eq_true rfl) (Nat.le_of_ble_eq_true rfl) dX2_thoughtOf_22 ?_
  refine lv_ti (y := (nI (min n nq))) (mminN (by omega) (by omega)) ?_
  refine va_mmin hx hb (by rw [hml]; exact hl.1.symm) hown (hts _ tw_770) (hts _ tw_529) (hts _ tw_93) (hts _ tw_530) (Nat.le_of_ble_eq_true rfl) (Nat.le_of_ble_eq_true rfl) (Nat.le_of_ble_eq_true rfl) (Nat.le_of_ble_eq_true rfl) dX2_thoughtOf_25 ?_
  refine lv_ti (y := (nI (min rz (min n nq)))) (mminN (by omega) (by omega)) ?_
  refine lv_istore (lv' := [(8, .int (nI (min rz (min n nq)))), (6, .long 500000), (4, .long 500000), (0, .ref y0), (1, .ref h0), (2, .ref d0), (3, .ref c0)]) hx hb dX2_thoughtOf_28 hl (by decide) rfl (fun ls hl => ?_)
  refine lv_iconst (v := 0) hx hb dX2_thoughtOf_30 (by decide) ?_
  refine lv_istore (lv' := [(9, .int 0), (8, .int (nI (min rz (min n nq)))), (6, .long 500000), (4, .long 500000), (0, .ref y0), (1, .ref h0), (2, .ref d0), (3, .ref c0)]) hx hb dX2_thoughtOf_31 hl (by decide) rfl (fun ls hl => ?_)
  refine lv_iconst (v := 0) hx hb dX2_thoughtOf_33 (by decide) ?_
  refine lv_istore (lv' := [(10, .int 0), (9, .int 0), (8, .int (nI (min rz (min n nq)))), (6, .long 500000), (4, .long 500000), (0, .ref y0), (1, .ref h0), (2, .ref d0), (3, .ref c0)]) hx hb dX2_thoughtOf_34 hl (by decide) rfl (fun ls hl => ?_)
  refine W_loop (σ := Nat × Int64 × Int64 × Int32) (fun (n_ : Nat) (x_ : Nat × Int64 × Int64 × Int32) (H : Heap) (locs : List Loc) (ls : Array Slot) => match x_ with | (ii_5, w2_5, v2_5, ah_5) => n_ = 25 - ii_5 ∧ (ii_5 ≤ 24) ∧ va_P D classes [(y0, .inr (2, (fX2 y1 y2 y3 wt wc))), (h0, .inr (5, (fX5 h1 h2 h3 h4))), (aI k h1 10 (vv n see tm g)), (aI k h2 24 ff), (d0, .inr (5, (fX5 d1 d2 d3 d4))), (aI k d1 10 (vv nq seeq tmq gq)), (aI k d2 24 ffq), (c0, .inr (4, (fX4 c1 c2 (nI cc) (nI rz) ro sd)))] H ∧ va_S (fun q : Nat => s.heap.size ≤ q) s.heap H locs ∧ lv_has ls 14 [(10, .int (nI ii_5)), (9, .int ah_5), (8, .int (nI (min rz (min n nq)))), (6, .long v2_5), (4, .long w2_5), (0, .ref y0), (1, .ref h0), (2, .ref d0), (3, .ref c0)]) (fun n_5 x_5 H locs ls hI ih_5 => ?_) _ (0, 500000, 500000, 0) ⟨rfl, (by omega), hP, hS, (lv_sub hl [0, 1, 2, 3, 4, 5, 6, 7, 8] rfl)⟩
  obtain ⟨ii_5, w2_5, v2_5, ah_5⟩ := x_5
  obtain ⟨hm_5, hv_5, hP, hS, hl⟩ := hI
  subst hm_5
  refine lv_iload hx hb dX2_thoughtOf_36 (lv_at hl 0 rfl) ?_
  refine lv_iload hx hb dX2_thoughtOf_38 (lv_at hl 2 rfl) ?_
  refine lv_icmp_ge (tgt := 139) hx hb dX2_thoughtOf_40 (by decide) (fun c_6 => ?_) (fun c_6 => ?_)
  · have c_6 := (nI_leI (a := (min rz (min n nq))) (b := ii_5) (by omega) (by omega)).mp c_6
    refine lv_lload hx hb dX2_thoughtOf_139 (lv_at hl 4 rfl) ?_
    refine lv_lload hx hb dX2_thoughtOf_141 (lv_at hl 3 rfl) ?_
    refine lv_ladd hx hb dX2_thoughtOf_143 ?_
    refine lv_topl (fun x_7 ex_7 => ?_)
    refine lv_lstore (lv' := [(10, .long x_7), (9, .int ah_5), (8, .int (nI (min rz (min n nq)))), (6, .long v2_5), (4, .long w2_5), (0, .ref y0), (1, .ref h0), (2, .ref d0), (3, .ref c0)]) hx hb dX2_thoughtOf_144 hl (by decide) rfl (fun ls hl => ?_)
    refine lv_lload hx hb dX2_thoughtOf_146 (lv_at hl 0 rfl) ?_
    refine lv_lconst (v := 0) hx hb dX2_thoughtOf_148 (by decide) ?_
    refine W.lcmp hx hb dX2_thoughtOf_149 ?_
    refine lv_if_le (tgt := 166) hx hb dX2_thoughtOf_150 (by decide) (fun c_8 => ?_) (fun c_8 => ?_)
    · refine lv_iconst (v := 0) hx hb dX2_thoughtOf_166 (by decide) ?_
      exact W.iret (v := 0) hx hb hr (fun t ht hW => ⟨⟨0, (), rfl, trivial, trivial⟩, hS.F ht⟩) hS.2.2 dX2_thoughtOf_167
    · refine lv_lload hx hb dX2_thoughtOf_153 (lv_at hl 4 rfl) ?_
      refine lv_ldc2 hx hb hown (hts _ tw_779) dX2_thoughtOf_155 ?_
      refine lv_lmul hx hb dX2_thoughtOf_158 ?_
      refine lv_topl (fun x_9 ex_9 => ?_)
      refine lv_lload hx hb dX2_thoughtOf_159 (lv_at hl 0 rfl) ?_
      refine lv_ldiv hx hb dX2_thoughtOf_161 (fun h => c_8 (by rw [h]; decide)) ?_
      refine lv_topl (fun x_10 ex_10 => ?_)
      refine lv_l2i hx hb dX2_thoughtOf_162 rfl ?_
      refine lv_topi (fun x_11 ex_11 => ?_)
      refine lv_goto (tgt := 167) hx hb dX2_thoughtOf_163 (by decide) ?_
      exact W.iret (v := x_11) hx hb hr (fun t ht hW => ⟨⟨x_11, (), rfl, trivial, trivial⟩, hS.F ht⟩) hS.2.2 dX2_thoughtOf_167
  · have c_6 : ¬ ((min rz (min n nq)) ≤ ii_5) := fun h => c_6 ((nI_leI (a := (min rz (min n nq))) (b := ii_5) (by omega) (by omega)).mpr h)
    refine lv_aload_n hx hb dX2_thoughtOf_43 rfl (lv_at hl 8 rfl) ?_
    refine lv_iload hx hb dX2_thoughtOf_44 (lv_at hl 0 rfl) ?_
    refine ro_i (D := D) (va_runV (As := [.int (nI ii_5)]) (rest := []) ⟨hx, hb, hml, hown, hts⟩ ((x_sawFree l D k st lo c0 c1 c2 cc rz ro sd (nI ii_5)) H.size) (cwV 1 hts (gV tw_771 tw_753 tw_754 tw_82 tw_755) rfl rfl rfl (by decide +kernel) ⟨Nat.le_of_ble_eq_true rfl, Nat.le_of_ble_eq_true rfl⟩) (pV hS hAlo hlo hP hK hDL hZ [7] (by decide) rfl (ci := 4) (q := (RX4, TX4, 6)) (q0 := 0) rfl rfl) rfl rfl hl.1 rfl (lv_room (Nat.le_of_ble_eq_true rfl)) dX2_thoughtOf_46 ⟨Nat.le_of_ble_eq_true rfl, Nat.le_of_ble_eq_true rfl⟩) hS hA hP (fun r_12 H locs hw_12 hP hS => ?_)
    try dsimp only at hw_12
    rcases hw_12 with rfl | rfl
    · refine lv_istore (lv' := [(11, .int 1), (10, .int (nI ii_5)), (9, .int ah_5), (8, .int (nI (min rz (min n nq)))), (6, .long v2_5), (4, .long w2_5), (0, .ref y0), (1, .ref h0), (2, .ref d0), (3, .ref c0)]) hx hb dX2_thoughtOf_49 hl (by decide) rfl (fun ls hl => ?_)
      refine lv_lload hx hb dX2_thoughtOf_51 (lv_at hl 5 rfl) ?_
      refine lv_aload_n hx hb dX2_thoughtOf_53 rfl (lv_at hl 7 rfl) ?_
      refine lv_iload hx hb dX2_thoughtOf_54 (lv_at hl 1 rfl) ?_
      refine lv_iload hx hb dX2_thoughtOf_56 (lv_at hl 2 rfl) ?_
      refine lv_iload hx hb dX2_thoughtOf_58 (lv_at hl 0 rfl) ?_
      refine ro_i (D := D) (va_runS (As := [.ref h0, .int (nI ii_5), .int ah_5, .int 1]) (rest := [.long w2_5]) ⟨hx, hb, hml, hown, hts⟩ ((x_likelihood l D k st lo h0 h1 h2 h3 h4 n see tm g ff ii_5 ah_5 1 (by omega)) H.size) (va_cwS 4 hts (gS tw_772 tw_773 tw_83 tw_774) rfl rfl rfl (by decide +kernel) ⟨Nat.le_of_ble_eq_true rfl, Nat.le_of_ble_eq_true rfl⟩) (pS hS hAlo hlo hP hK hDL hZ [1, 2, 3] (by decide) rfl) rfl rfl hl.1 rfl (lv_room (Nat.le_of_ble_eq_true rfl)) dX2_thoughtOf_60 ⟨Nat.le_of_ble_eq_true rfl, Nat.le_of_ble_eq_true rfl⟩) hS hA hP (fun r_13 H locs hw_13 hP hS => ?_)
      try dsimp only at hw_13
      refine lv_i2l (v := r_13.toInt64) hx hb dX2_thoughtOf_63 rfl ?_
      refine lv_lmul hx hb dX2_thoughtOf_64 ?_
      refine lv_topl (fun x_14 ex_14 => ?_)
      refine lv_ldc2 hx hb hown (hts _ tw_775) dX2_thoughtOf_65 ?_
      refine lv_ldiv hx hb dX2_thoughtOf_68 (by decide) ?_
      refine lv_topl (fun x_15 ex_15 => ?_)
      refine lv_lstore (lv' := [(4, .long x_15), (11, .int 1), (10, .int (nI ii_5)), (9, .int ah_5), (8, .int (nI (min rz (min n nq)))), (6, .long v2_5), (0, .ref y0), (1, .ref h0), (2, .ref d0), (3, .ref c0)]) hx hb dX2_thoughtOf_69 hl (by decide) rfl (fun ls hl => ?_)
      refine lv_lload hx hb dX2_thoughtOf_71 (lv_at hl 5 rfl) ?_
      refine lv_aload_n hx hb dX2_thoughtOf_73 rfl (lv_at hl 8 rfl) ?_
      refine lv_iload hx hb dX2_thoughtOf_74 (lv_at hl 2 rfl) ?_
      refine lv_iload hx hb dX2_thoughtOf_76 (lv_at hl 3 rfl) ?_
      refine lv_iload hx hb dX2_thoughtOf_78 (lv_at hl 1 rfl) ?_
      refine ro_i (D := D) (va_runS (As := [.ref d0, .int (nI ii_5), .int ah_5, .int 1]) (rest := [.long v2_5]) ⟨hx, hb, hml, hown, hts⟩ ((x_likelihood l D k st lo d0 d1 d2 d3 d4 nq seeq tmq gq ffq ii_5 ah_5 1 (by omega)) H.size) (va_cwS 4 hts (gS tw_772 tw_773 tw_83 tw_774) rfl rfl rfl (by decide +kernel) ⟨Nat.le_of_ble_eq_true rfl, Nat.le_of_ble_eq_true rfl⟩) (pS hS hAlo hlo hP hK hDL hZ [4, 5, 6] (by decide) rfl) rfl rfl hl.1 rfl (lv_room (Nat.le_of_ble_eq_true rfl)) dX2_thoughtOf_80 ⟨Nat.le_of_ble_eq_true rfl, Nat.le_of_ble_eq_true rfl⟩) hS hA hP (fun r_16 H locs hw_16 hP hS => ?_)
      try dsimp only at hw_16
      refine lv_i2l (v := r_16.toInt64) hx hb dX2_thoughtOf_83 rfl ?_
      refine lv_lmul hx hb dX2_thoughtOf_84 ?_
      refine lv_topl (fun x_17 ex_17 => ?_)
      refine lv_ldc2 hx hb hown (hts _ tw_775) dX2_thoughtOf_85 ?_
      refine lv_ldiv hx hb dX2_thoughtOf_88 (by decide) ?_
      refine lv_topl (fun x_18 ex_18 => ?_)
      refine lv_lstore (lv' := [(6, .long x_18), (4, .long x_15), (11, .int 1), (10, .int (nI ii_5)), (9, .int ah_5), (8, .int (nI (min rz (min n nq)))), (0, .ref y0), (1, .ref h0), (2, .ref d0), (3, .ref c0)]) hx hb dX2_thoughtOf_89 hl (by decide) rfl (fun ls hl => ?_)
      refine lv_lload hx hb dX2_thoughtOf_91 (lv_at hl 1 rfl) ?_
      refine lv_lload hx hb dX2_thoughtOf_93 (lv_at hl 0 rfl) ?_
      refine va_mmax_long hx hb (by rw [hml]; exact hl.1.symm) hown (hts _ tw_776) (hts _ tw_777) (hts _ tw_93) (hts _ tw_778) (Nat.le_of_ble_eq_true rfl) (Nat.le_of_ble_eq_true rfl) (Nat.le_of_ble_eq_true rfl) (Nat.le_of_ble_eq_true rfl) dX2_thoughtOf_95 ?_
      refine lv_topl (fun x_19 ex_19 => ?_)
      refine lv_lstore (lv' := [(12, .long x_19), (6, .long x_18), (4, .long x_15), (11, .int 1), (10, .int (nI ii_5)), (9, .int ah_5), (8, .int (nI (min rz (min n nq)))), (0, .ref y0), (1, .ref h0), (2, .ref d0), (3, .ref c0)]) hx hb dX2_thoughtOf_98 hl (by decide) rfl (fun ls hl => ?_)
      refine lv_lload hx hb dX2_thoughtOf_100 (lv_at hl 0 rfl) ?_
      refine lv_lconst (v := 0) hx hb dX2_thoughtOf_102 (by decide) ?_
      refine W.lcmp hx hb dX2_thoughtOf_103 ?_
      refine lv_if_le (tgt := 129) hx hb dX2_thoughtOf_104 (by decide) (fun c_20 => ?_) (fun c_20 => ?_)
      · refine lv_iload hx hb dX2_thoughtOf_129 (lv_at hl 3 rfl) ?_
        refine lv_istore (lv' := [(9, .int 1), (12, .long x_19), (6, .long x_18), (4, .long x_15), (11, .int 1), (10, .int (nI ii_5)), (8, .int (nI (min rz (min n nq)))), (0, .ref y0), (1, .ref h0), (2, .ref d0), (3, .ref c0)]) hx hb dX2_thoughtOf_131 hl (by decide) rfl (fun ls hl => ?_)
        refine lv_iinc (v := (nI (ii_5 + 1))) (lv' := [(10, .int (nI (ii_5 + 1))), (9, .int 1), (12, .long x_19), (6, .long x_18), (4, .long x_15), (11, .int 1), (8, .int (nI (min rz (min n nq)))), (0, .ref y0), (1, .ref h0), (2, .ref d0), (3, .ref c0)]) hx hb dX2_thoughtOf_133 hl (k := 5) rfl (nI_add ii_5 1) (by decide) rfl (fun ls hl => ?_)
        refine lv_goto (tgt := 36) hx hb dX2_thoughtOf_136 (by decide) ?_
        exact ih_5 _ (ii_5 + 1, x_15, x_18, 1) _ _ _ (by omega) ⟨rfl, (by omega), hP, hS, (lv_sub hl [0, 1, 6, 3, 4, 7, 8, 9, 10] rfl)⟩
      · refine lv_lload hx hb dX2_thoughtOf_107 (lv_at hl 2 rfl) ?_
        refine lv_ldc2 hx hb hown (hts _ tw_779) dX2_thoughtOf_109 ?_
        refine lv_lmul hx hb dX2_thoughtOf_112 ?_
        refine lv_topl (fun x_21 ex_21 => ?_)
        refine lv_lload hx hb dX2_thoughtOf_113 (lv_at hl 0 rfl) ?_
        refine lv_ldiv hx hb dX2_thoughtOf_115 (fun h => c_20 (by rw [h]; decide)) ?_
        refine lv_topl (fun x_22 ex_22 => ?_)
        refine lv_lstore (lv' := [(4, .long x_22), (12, .long x_19), (6, .long x_18), (11, .int 1), (10, .int (nI ii_5)), (9, .int ah_5), (8, .int (nI (min rz (min n nq)))), (0, .ref y0), (1, .ref h0), (2, .ref d0), (3, .ref c0)]) hx hb dX2_thoughtOf_116 hl (by decide) rfl (fun ls hl => ?_)
        refine lv_lload hx hb dX2_thoughtOf_118 (lv_at hl 2 rfl) ?_
        refine lv_ldc2 hx hb hown (hts _ tw_779) dX2_thoughtOf_120 ?_
        refine lv_lmul hx hb dX2_thoughtOf_123 ?_
        refine lv_topl (fun x_23 ex_23 => ?_)
        refine lv_lload hx hb dX2_thoughtOf_124 (lv_at hl 1 rfl) ?_
        refine lv_ldiv hx hb dX2_thoughtOf_126 (fun h => c_20 (by rw [h]; decide)) ?_
        refine lv_topl (fun x_24 ex_24 => ?_)
        refine lv_lstore (lv' := [(6, .long x_24), (4, .long x_22), (12, .long x_19), (11, .int 1), (10, .int (nI ii_5)), (9, .int ah_5), (8, .int (nI (min rz (min n nq)))), (0, .ref y0), (1, .ref h0), (2, .ref d0), (3, .ref c0)]) hx hb dX2_thoughtOf_127 hl (by decide) rfl (fun ls hl => ?_)
        refine lv_iload hx hb dX2_thoughtOf_129 (lv_at hl 3 rfl) ?_
        refine lv_istore (lv' := [(9, .int 1), (6, .long x_24), (4, .long x_22), (12, .long x_19), (11, .int 1), (10, .int (nI ii_5)), (8, .int (nI (min rz (min n nq)))), (0, .ref y0), (1, .ref h0), (2, .ref d0), (3, .ref c0)]) hx hb dX2_thoughtOf_131 hl (by decide) rfl (fun ls hl => ?_)
        refine lv_iinc (v := (nI (ii_5 + 1))) (lv' := [(10, .int (nI (ii_5 + 1))), (9, .int 1), (6, .long x_24), (4, .long x_22), (12, .long x_19), (11, .int 1), (8, .int (nI (min rz (min n nq)))), (0, .ref y0), (1, .ref h0), (2, .ref d0), (3, .ref c0)]) hx hb dX2_thoughtOf_133 hl (k := 5) rfl (nI_add ii_5 1) (by decide) rfl (fun ls hl => ?_)
        refine lv_goto (tgt := 36) hx hb dX2_thoughtOf_136 (by decide) ?_
        exact ih_5 _ (ii_5 + 1, x_22, x_24, 1) _ _ _ (by omega) ⟨rfl, (by omega), hP, hS, (lv_sub hl [0, 1, 6, 2, 3, 7, 8, 9, 10] rfl)⟩
    · refine lv_istore (lv' := [(11, .int 0), (10, .int (nI ii_5)), (9, .int ah_5), (8, .int (nI (min rz (min n nq)))), (6, .long v2_5), (4, .long w2_5), (0, .ref y0), (1, .ref h0), (2, .ref d0), (3, .ref c0)]) hx hb dX2_thoughtOf_49 hl (by decide) rfl (fun ls hl => ?_)
      refine lv_lload hx hb dX2_thoughtOf_51 (lv_at hl 5 rfl) ?_
      refine lv_aload_n hx hb dX2_thoughtOf_53 rfl (lv_at hl 7 rfl) ?_
      refine lv_iload hx hb dX2_thoughtOf_54 (lv_at hl 1 rfl) ?_
      refine lv_iload hx hb dX2_thoughtOf_56 (lv_at hl 2 rfl) ?_
      refine lv_iload hx hb dX2_thoughtOf_58 (lv_at hl 0 rfl) ?_
      refine ro_i (D := D) (va_runS (As := [.ref h0, .int (nI ii_5), .int ah_5, .int 0]) (rest := [.long w2_5]) ⟨hx, hb, hml, hown, hts⟩ ((x_likelihood l D k st lo h0 h1 h2 h3 h4 n see tm g ff ii_5 ah_5 0 (by omega)) H.size) (va_cwS 4 hts (gS tw_772 tw_773 tw_83 tw_774) rfl rfl rfl (by decide +kernel) ⟨Nat.le_of_ble_eq_true rfl, Nat.le_of_ble_eq_true rfl⟩) (pS hS hAlo hlo hP hK hDL hZ [1, 2, 3] (by decide) rfl) rfl rfl hl.1 rfl (lv_room (Nat.le_of_ble_eq_true rfl)) dX2_thoughtOf_60 ⟨Nat.le_of_ble_eq_true rfl, Nat.le_of_ble_eq_true rfl⟩) hS hA hP (fun r_25 H locs hw_25 hP hS => ?_)
      try dsimp only at hw_25
      refine lv_i2l (v := r_25.toInt64) hx hb dX2_thoughtOf_63 rfl ?_
      refine lv_lmul hx hb dX2_thoughtOf_64 ?_
      refine lv_topl (fun x_26 ex_26 => ?_)
      refine lv_ldc2 hx hb hown (hts _ tw_775) dX2_thoughtOf_65 ?_
      refine lv_ldiv hx hb dX2_thoughtOf_68 (by decide) ?_
      refine lv_topl (fun x_27 ex_27 => ?_)
      refine lv_lstore (lv' := [(4, .long x_27), (11, .int 0), (10, .int (nI ii_5)), (9, .int ah_5), (8, .int (nI (min rz (min n nq)))), (6, .long v2_5), (0, .ref y0), (1, .ref h0), (2, .ref d0), (3, .ref c0)]) hx hb dX2_thoughtOf_69 hl (by decide) rfl (fun ls hl => ?_)
      refine lv_lload hx hb dX2_thoughtOf_71 (lv_at hl 5 rfl) ?_
      refine lv_aload_n hx hb dX2_thoughtOf_73 rfl (lv_at hl 8 rfl) ?_
      refine lv_iload hx hb dX2_thoughtOf_74 (lv_at hl 2 rfl) ?_
      refine lv_iload hx hb dX2_thoughtOf_76 (lv_at hl 3 rfl) ?_
      refine lv_iload hx hb dX2_thoughtOf_78 (lv_at hl 1 rfl) ?_
      refine ro_i (D := D) (va_runS (As := [.ref d0, .int (nI ii_5), .int ah_5, .int 0]) (rest := [.long v2_5]) ⟨hx, hb, hml, hown, hts⟩ ((x_likelihood l D k st lo d0 d1 d2 d3 d4 nq seeq tmq gq ffq ii_5 ah_5 0 (by omega)) H.size) (va_cwS 4 hts (gS tw_772 tw_773 tw_83 tw_774) rfl rfl rfl (by decide +kernel) ⟨Nat.le_of_ble_eq_true rfl, Nat.le_of_ble_eq_true rfl⟩) (pS hS hAlo hlo hP hK hDL hZ [4, 5, 6] (by decide) rfl) rfl rfl hl.1 rfl (lv_room (Nat.le_of_ble_eq_true rfl)) dX2_thoughtOf_80 ⟨Nat.le_of_ble_eq_true rfl, Nat.le_of_ble_eq_true rfl⟩) hS hA hP (fun r_28 H locs hw_28 hP hS => ?_)
      try dsimp only at hw_28
      refine lv_i2l (v := r_28.toInt64) hx hb dX2_thoughtOf_83 rfl ?_
      refine lv_lmul hx hb dX2_thoughtOf_84 ?_
      refine lv_topl (fun x_29 ex_29 => ?_)
      refine lv_ldc2 hx hb hown (hts _ tw_775) dX2_thoughtOf_85 ?_
      refine lv_ldiv hx hb dX2_thoughtOf_88 (by decide) ?_
      refine lv_topl (fun x_30 ex_30 => ?_)
      refine lv_lstore (lv' := [(6, .long x_30), (4, .long x_27), (11, .int 0), (10, .int (nI ii_5)), (9, .int ah_5), (8, .int (nI (min rz (min n nq)))), (0, .ref y0), (1, .ref h0), (2, .ref d0), (3, .ref c0)]) hx hb dX2_thoughtOf_89 hl (by decide) rfl (fun ls hl => ?_)
      refine lv_lload hx hb dX2_thoughtOf_91 (lv_at hl 1 rfl) ?_
      refine lv_lload hx hb dX2_thoughtOf_93 (lv_at hl 0 rfl) ?_
      refine va_mmax_long hx hb (by rw [hml]; exact hl.1.symm) hown (hts _ tw_776) (hts _ tw_777) (hts _ tw_93) (hts _ tw_778) (Nat.le_of_ble_eq_true rfl) (Nat.le_of_ble_eq_true rfl) (Nat.le_of_ble_eq_true rfl) (Nat.le_of_ble_eq_true rfl) dX2_thoughtOf_95 ?_
      refine lv_topl (fun x_31 ex_31 => ?_)
      refine lv_lstore (lv' := [(12, .long x_31), (6, .long x_30), (4, .long x_27), (11, .int 0), (10, .int (nI ii_5)), (9, .int ah_5), (8, .int (nI (min rz (min n nq)))), (0, .ref y0), (1, .ref h0), (2, .ref d0), (3, .ref c0)]) hx hb dX2_thoughtOf_98 hl (by decide) rfl (fun ls hl => ?_)
      refine lv_lload hx hb dX2_thoughtOf_100 (lv_at hl 0 rfl) ?_
      refine lv_lconst (v := 0) hx hb dX2_thoughtOf_102 (by decide) ?_
      refine W.lcmp hx hb dX2_thoughtOf_103 ?_
      refine lv_if_le (tgt := 129) hx hb dX2_thoughtOf_104 (by decide) (fun c_32 => ?_) (fun c_32 => ?_)
      · refine lv_iload hx hb dX2_thoughtOf_129 (lv_at hl 3 rfl) ?_
        refine lv_istore (lv' := [(9, .int 0), (12, .long x_31), (6, .long x_30), (4, .long x_27), (11, .int 0), (10, .int (nI ii_5)), (8, .int (nI (min rz (min n nq)))), (0, .ref y0), (1, .ref h0), (2, .ref d0), (3, .ref c0)]) hx hb dX2_thoughtOf_131 hl (by decide) rfl (fun ls hl => ?_)
        refine lv_iinc (v := (nI (ii_5 + 1))) (lv' := [(10, .int (nI (ii_5 + 1))), (9, .int 0), (12, .long x_31), (6, .long x_30), (4, .long x_27), (11, .int 0), (8, .int (nI (min rz (min n nq)))), (0, .ref y0), (1, .ref h0), (2, .ref d0), (3, .ref c0)]) hx hb dX2_thoughtOf_133 hl (k := 5) rfl (nI_add ii_5 1) (by decide) rfl (fun ls hl => ?_)
        refine lv_goto (tgt := 36) hx hb dX2_thoughtOf_136 (by decide) ?_
        exact ih_5 _ (ii_5 + 1, x_27, x_30, 0) _ _ _ (by omega) ⟨rfl, (by omega), hP, hS, (lv_sub hl [0, 1, 6, 3, 4, 7, 8, 9, 10] rfl)⟩
      · refine lv_lload hx hb dX2_thoughtOf_107 (lv_at hl 2 rfl) ?_
        refine lv_ldc2 hx hb hown (hts _ tw_779) dX2_thoughtOf_109 ?_
        refine lv_lmul hx hb dX2_thoughtOf_112 ?_
        refine lv_topl (fun x_33 ex_33 => ?_)
        refine lv_lload hx hb dX2_thoughtOf_113 (lv_at hl 0 rfl) ?_
        refine lv_ldiv hx hb dX2_thoughtOf_115 (fun h => c_32 (by rw [h]; decide)) ?_
        refine lv_topl (fun x_34 ex_34 => ?_)
        refine lv_lstore (lv' := [(4, .long x_34), (12, .long x_31), (6, .long x_30), (11, .int 0), (10, .int (nI ii_5)), (9, .int ah_5), (8, .int (nI (min rz (min n nq)))), (0, .ref y0), (1, .ref h0), (2, .ref d0), (3, .ref c0)]) hx hb dX2_thoughtOf_116 hl (by decide) rfl (fun ls hl => ?_)
        refine lv_lload hx hb dX2_thoughtOf_118 (lv_at hl 2 rfl) ?_
        refine lv_ldc2 hx hb hown (hts _ tw_779) dX2_thoughtOf_120 ?_
        refine lv_lmul hx hb dX2_thoughtOf_123 ?_
        refine lv_topl (fun x_35 ex_35 => ?_)
        refine lv_lload hx hb dX2_thoughtOf_124 (lv_at hl 1 rfl) ?_
        refine lv_ldiv hx hb dX2_thoughtOf_126 (fun h => c_32 (by rw [h]; decide)) ?_
        refine lv_topl (fun x_36 ex_36 => ?_)
        refine lv_lstore (lv' := [(6, .long x_36), (4, .long x_34), (12, .long x_31), (11, .int 0), (10, .int (nI ii_5)), (9, .int ah_5), (8, .int (nI (min rz (min n nq)))), (0, .ref y0), (1, .ref h0), (2, .ref d0), (3, .ref c0)]) hx hb dX2_thoughtOf_127 hl (by decide) rfl (fun ls hl => ?_)
        refine lv_iload hx hb dX2_thoughtOf_129 (lv_at hl 3 rfl) ?_
        refine lv_istore (lv' := [(9, .int 0), (6, .long x_36), (4, .long x_34), (12, .long x_31), (11, .int 0), (10, .int (nI ii_5)), (8, .int (nI (min rz (min n nq)))), (0, .ref y0), (1, .ref h0), (2, .ref d0), (3, .ref c0)]) hx hb dX2_thoughtOf_131 hl (by decide) rfl (fun ls hl => ?_)
        refine lv_iinc (v := (nI (ii_5 + 1))) (lv' := [(10, .int (nI (ii_5 + 1))), (9, .int 0), (6, .long x_36), (4, .long x_34), (12, .long x_31), (11, .int 0), (8, .int (nI (min rz (min n nq)))), (0, .ref y0), (1, .ref h0), (2, .ref d0), (3, .ref c0)]) hx hb dX2_thoughtOf_133 hl (k := 5) rfl (nI_add ii_5 1) (by decide) rfl (fun ls hl => ?_)
        refine lv_goto (tgt := 36) hx hb dX2_thoughtOf_136 (by decide) ?_
        exact ih_5 _ (ii_5 + 1, x_34, x_36, 0) _ _ _ (by omega) ⟨rfl, (by omega), hP, hS, (lv_sub hl [0, 1, 6, 2, 3, 7, 8, 9, 10] rfl)⟩

theorem dX2_eveningOf_0 : decode cX2_eveningOf 0 = .ok (.aload_n 2, 1) := by decide +kernel
theorem dX2_eveningOf_1 : decode cX2_eveningOf 1 = .ok (.aload_n 1, 1) := by decide +kernel
theorem dX2_eveningOf_2 : decode cX2_eveningOf 2 = .ok (.invokevirtual 28, 3) := by decide +kernel
theorem dX2_eveningOf_5 : decode cX2_eveningOf 5 = .ok (.istore 4, 2) := by decide +kernel
theorem dX2_eveningOf_7 : decode cX2_eveningOf 7 = .ok (.iconst 0, 1) := by decide +kernel
theorem dX2_eveningOf_8 : decode cX2_eveningOf 8 = .ok (.istore 5, 2) := by decide +kernel
theorem dX2_eveningOf_10 : decode cX2_eveningOf 10 = .ok (.iconst 0, 1) := by decide +kernel
theorem dX2_eveningOf_11 : decode cX2_eveningOf 11 = .ok (.istore 6, 2) := by decide +kernel
theorem dX2_eveningOf_13 : decode cX2_eveningOf 13 = .ok (.iload 6, 2) := by decide +kernel
theorem dX2_eveningOf_15 : decode cX2_eveningOf 15 = .ok (.iload 4, 2) := by decide +kernel
theorem dX2_eveningOf_17 : decode cX2_eveningOf 17 = .ok (.if_icmp .gt 127, 3) := by decide +kernel
theorem dX2_eveningOf_20 : decode cX2_eveningOf 20 = .ok (.iconst 0, 1) := by decide +kernel
theorem dX2_eveningOf_21 : decode cX2_eveningOf 21 = .ok (.istore 7, 2) := by decide +kernel
theorem dX2_eveningOf_23 : decode cX2_eveningOf 23 = .ok (.iconst 0, 1) := by decide +kernel
theorem dX2_eveningOf_24 : decode cX2_eveningOf 24 = .ok (.istore 8, 2) := by decide +kernel
theorem dX2_eveningOf_26 : decode cX2_eveningOf 26 = .ok (.iconst 0, 1) := by decide +kernel
theorem dX2_eveningOf_27 : decode cX2_eveningOf 27 = .ok (.istore 9, 2) := by decide +kernel
theorem dX2_eveningOf_29 : decode cX2_eveningOf 29 = .ok (.iload 9, 2) := by decide +kernel
theorem dX2_eveningOf_31 : decode cX2_eveningOf 31 = .ok (.aload_n 1, 1) := by decide +kernel
theorem dX2_eveningOf_32 : decode cX2_eveningOf 32 = .ok (.invokevirtual 61, 3) := by decide +kernel
theorem dX2_eveningOf_35 : decode cX2_eveningOf 35 = .ok (.if_icmp .ge 87, 3) := by decide +kernel
theorem dX2_eveningOf_38 : decode cX2_eveningOf 38 = .ok (.aload_n 3, 1) := by decide +kernel
theorem dX2_eveningOf_39 : decode cX2_eveningOf 39 = .ok (.invokevirtual 109, 3) := by decide +kernel
theorem dX2_eveningOf_42 : decode cX2_eveningOf 42 = .ok (.aload_n 1, 1) := by decide +kernel
theorem dX2_eveningOf_43 : decode cX2_eveningOf 43 = .ok (.iload 9, 2) := by decide +kernel
theorem dX2_eveningOf_45 : decode cX2_eveningOf 45 = .ok (.iload 8, 2) := by decide +kernel
theorem dX2_eveningOf_47 : decode cX2_eveningOf 47 = .ok (.invokevirtual 74, 3) := by decide +kernel
theorem dX2_eveningOf_50 : decode cX2_eveningOf 50 = .ok (.if_icmp .ge 7, 3) := by decide +kernel
theorem dX2_eveningOf_53 : decode cX2_eveningOf 53 = .ok (.iconst 1, 1) := by decide +kernel
theorem dX2_eveningOf_54 : decode cX2_eveningOf 54 = .ok (.goto 4, 3) := by decide +kernel
theorem dX2_eveningOf_57 : decode cX2_eveningOf 57 = .ok (.iconst 0, 1) := by decide +kernel
theorem dX2_eveningOf_58 : decode cX2_eveningOf 58 = .ok (.istore 10, 2) := by decide +kernel
theorem dX2_eveningOf_60 : decode cX2_eveningOf 60 = .ok (.iload 10, 2) := by decide +kernel
theorem dX2_eveningOf_62 : decode cX2_eveningOf 62 = .ok (.ifCond .eq 26, 3) := by decide +kernel
theorem dX2_eveningOf_65 : decode cX2_eveningOf 65 = .ok (.iload 9, 2) := by decide +kernel
theorem dX2_eveningOf_67 : decode cX2_eveningOf 67 = .ok (.aload_n 2, 1) := by decide +kernel
theorem dX2_eveningOf_68 : decode cX2_eveningOf 68 = .ok (.iload 7, 2) := by decide +kernel
theorem dX2_eveningOf_70 : decode cX2_eveningOf 70 = .ok (.invokevirtual 71, 3) := by decide +kernel
theorem dX2_eveningOf_73 : decode cX2_eveningOf 73 = .ok (.if_icmp .lt 15, 3) := by decide +kernel
theorem dX2_eveningOf_76 : decode cX2_eveningOf 76 = .ok (.iload 5, 2) := by decide +kernel
theorem dX2_eveningOf_78 : decode cX2_eveningOf 78 = .ok (.aload_n 1, 1) := by decide +kernel
theorem dX2_eveningOf_79 : decode cX2_eveningOf 79 = .ok (.iload 6, 2) := by decide +kernel
theorem dX2_eveningOf_81 : decode cX2_eveningOf 81 = .ok (.iload 9, 2) := by decide +kernel
theorem dX2_eveningOf_83 : decode cX2_eveningOf 83 = .ok (.invokevirtual 57, 3) := by decide +kernel
theorem dX2_eveningOf_86 : decode cX2_eveningOf 86 = .ok (.iadd, 1) := by decide +kernel
theorem dX2_eveningOf_87 : decode cX2_eveningOf 87 = .ok (.ireturn, 1) := by decide +kernel
theorem dX2_eveningOf_88 : decode cX2_eveningOf 88 = .ok (.iload 5, 2) := by decide +kernel
theorem dX2_eveningOf_90 : decode cX2_eveningOf 90 = .ok (.aload_n 1, 1) := by decide +kernel
theorem dX2_eveningOf_91 : decode cX2_eveningOf 91 = .ok (.invokevirtual 64, 3) := by decide +kernel
theorem dX2_eveningOf_94 : decode cX2_eveningOf 94 = .ok (.iadd, 1) := by decide +kernel
theorem dX2_eveningOf_95 : decode cX2_eveningOf 95 = .ok (.istore 5, 2) := by decide +kernel
theorem dX2_eveningOf_97 : decode cX2_eveningOf 97 = .ok (.iload 7, 2) := by decide +kernel
theorem dX2_eveningOf_99 : decode cX2_eveningOf 99 = .ok (.iload 10, 2) := by decide +kernel
theorem dX2_eveningOf_101 : decode cX2_eveningOf 101 = .ok (.ifCond .eq 7, 3) := by decide +kernel
theorem dX2_eveningOf_104 : decode cX2_eveningOf 104 = .ok (.iconst 1, 1) := by decide +kernel
theorem dX2_eveningOf_105 : decode cX2_eveningOf 105 = .ok (.goto 4, 3) := by decide +kernel
theorem dX2_eveningOf_108 : decode cX2_eveningOf 108 = .ok (.iconst 0, 1) := by decide +kernel
theorem dX2_eveningOf_109 : decode cX2_eveningOf 109 = .ok (.iadd, 1) := by decide +kernel
theorem dX2_eveningOf_110 : decode cX2_eveningOf 110 = .ok (.istore 7, 2) := by decide +kernel
theorem dX2_eveningOf_112 : decode cX2_eveningOf 112 = .ok (.iload 10, 2) := by decide +kernel
theorem dX2_eveningOf_114 : decode cX2_eveningOf 114 = .ok (.istore 8, 2) := by decide +kernel
theorem dX2_eveningOf_116 : decode cX2_eveningOf 116 = .ok (.iinc 9 1, 3) := by decide +kernel
theorem dX2_eveningOf_119 : decode cX2_eveningOf 119 = .ok (.goto (-90), 3) := by decide +kernel
theorem dX2_eveningOf_122 : decode cX2_eveningOf 122 = .ok (.iload 6, 2) := by decide +kernel
theorem dX2_eveningOf_124 : decode cX2_eveningOf 124 = .ok (.iload 4, 2) := by decide +kernel
theorem dX2_eveningOf_126 : decode cX2_eveningOf 126 = .ok (.if_icmp .ge 12, 3) := by decide +kernel
theorem dX2_eveningOf_129 : decode cX2_eveningOf 129 = .ok (.iload 5, 2) := by decide +kernel
theorem dX2_eveningOf_131 : decode cX2_eveningOf 131 = .ok (.aload_n 1, 1) := by decide +kernel
theorem dX2_eveningOf_132 : decode cX2_eveningOf 132 = .ok (.invokevirtual 42, 3) := by decide +kernel
theorem dX2_eveningOf_135 : decode cX2_eveningOf 135 = .ok (.iadd, 1) := by decide +kernel
theorem dX2_eveningOf_136 : decode cX2_eveningOf 136 = .ok (.istore 5, 2) := by decide +kernel
theorem dX2_eveningOf_138 : decode cX2_eveningOf 138 = .ok (.iinc 6 1, 3) := by decide +kernel
theorem dX2_eveningOf_141 : decode cX2_eveningOf 141 = .ok (.goto (-128), 3) := by decide +kernel
theorem dX2_eveningOf_144 : decode cX2_eveningOf 144 = .ok (.iload 5, 2) := by decide +kernel
theorem dX2_eveningOf_146 : decode cX2_eveningOf 146 = .ok (.aload_n 1, 1) := by decide +kernel
theorem dX2_eveningOf_147 : decode cX2_eveningOf 147 = .ok (.iload 4, 2) := by decide +kernel
theorem dX2_eveningOf_149 : decode cX2_eveningOf 149 = .ok (.invokevirtual 48, 3) := by decide +kernel
theorem dX2_eveningOf_152 : decode cX2_eveningOf 152 = .ok (.iadd, 1) := by decide +kernel
theorem dX2_eveningOf_153 : decode cX2_eveningOf 153 = .ok (.ireturn, 1) := by decide +kernel
set_option maxHeartbeats 4000000 in
set_option maxRecDepth 100000 in
theorem x_eveningOf (l : Launch) (D : va_G) (k : Nat → ClassId) (st : Nat → Nat) (lo : Nat) (y0 : Nat) (y1 : Nat) (y2 : Nat) (y3 : Nat) (wt : Int32) (wc : Int32) (h0 : Nat) (h1 : Nat) (h2 : Nat) (h3 : Nat) (h4 : Nat) (n : Nat) (see : Nat) (tm : Nat) (g : Nat → Int32) (ff : Nat → Int32) (fp : Nat → Int32) (fl : Nat → Int32) (u0 : Nat) (u1 : Nat) (u2 : Nat) (rf : Int32) (rc : Nat) (rr : Nat) (rs : Nat → Int32) (rb : Nat → Int32) (c0 : Nat) (c1 : Nat) (c2 : Nat) (cc : Nat) (rz : Nat) (ro : Int32) (sd : Int32) (hn : n ≤ 24) (hrc : rc ≤ 24) (hrr : rr ≤ 3) (htm9 : tm ≤ 3) : CWi l D k st lo yX2_eveningOf cX2_eveningOf 11 (some .int) ({ frames := 2, cells := 0, slots := 0, locals := 83 }) 0 0 [.ref y0, .ref h0, .ref u0, .ref c0] [(y0, .inr (2, (fX2 y1 y2 y3 wt wc))), (h0, .inr (5, (fX5 h1 h2 h3 h4))), (aI k h1 10 (vv n see tm g)), (aI k h2 24 ff), (aI k h3 24 fp), (aI k h4 4 fl), (u0, .inr (3, (fX3 u1 u2 rf (nI rc) (nI rr)))), (aI k u1 24 rs), (aI k u2 24 rb), (c0, .inr (4, (fX4 c1 c2 (nI cc) (nI rz) ro sd)))] (fun (r : Int32) (sd_ : Int32) => True) (fun (sd_ : Int32) => [(y0, .inr (2, (fX2 y1 y2 y3 wt wc))), (h0, .inr (5, (fX5 h1 h2 h3 h4))), (aI k h1 10 (vv n see tm g)), (aI k h2 24 ff), (aI k h3 24 fp), (aI k h4 4 fl), (u0, .inr (3, (fX3 u1 u2 rf (nI rc) (nI rr)))), (aI k u1 24 rs), (aI k u2 24 rb), (c0, .inr (4, (fX4 c1 c2 (nI cc) (nI rz) ro sd_)))]) := by
  intro sz
  refine Met.ofW (cc := cX2_eveningOf) (maxL := 11) (ret := (some .int)) (by decide) rfl ?_
  intro p e s m args below meth c s₁ B hml hv
  obtain ⟨rfl, hsz, hlo, hP, hK, hDL, hZ⟩ := hv
  have hx := B.exec
  have hb := B.bytes
  have hr := B.returns
  have hts := WS_ts B.pre
  have hown : s.vm.findClass RX2 = some m.cls := findClass_of_methodNamed B.named
  have hlocks := B.notSynchronized
  subst hsz
  have hD := hDL.self (sz := s.heap.size)
  have hAlo := A_lo hDL hlo
  generalize hAe : va_A [(y0, .inr (2, (fX2 y1 y2 y3 wt wc))), (h0, .inr (5, (fX5 h1 h2 h3 h4))), (aI k h1 10 (vv n see tm g)), (aI k h2 24 ff), (aI k h3 24 fp), (aI k h4 4 fl), (u0, .inr (3, (fX3 u1 u2 rf (nI rc) (nI rr)))), (aI k u1 24 rs), (aI k u2 24 rb), (c0, .inr (4, (fX4 c1 c2 (nI cc) (nI rz) ro sd)))] s.heap.size = A at hD hAlo ⊢
  have hA : ∀ q : Nat, s.heap.size ≤ q → A q := fun q h => by rw [← hAe]; exact Or.inr h
  have hS : va_S A s.heap s.heap [] := va_S.rf
  have hl := lv_entry ([.ref y0, .ref h0, .ref u0, .ref c0]) (n := 11) (Nat.le_of_ble_eq_true rfl)
  rw [lg_entry_eq]
  generalize (lg_sl ([.ref y0, .ref h0, .ref u0, .ref c0]) ++ List.replicate (11 - (lg_sl ([.ref y0, .ref h0, .ref u0, .ref c0])).length) Slot.unset).toArray = ls at hl ⊢
  have hl : lv_has ls 11 [(0, .ref y0), (1, .ref h0), (2, .ref u0), (3, .ref c0)] := hl
  refine lv_aload_n hx hb dX2_eveningOf_0 rfl (lv_at hl 2 rfl) ?_
  refine lv_aload_n hx hb dX2_eveningOf_1 rfl (lv_at hl 1 rfl) ?_
  refine ro_i (D := D) (va_runV (As := [.ref h0]) (rest := []) ⟨hx, hb, hml, hown, hts⟩ ((x_roundsIn l D k st lo u0 u1 u2 rf rc rr h0 h1 h2 h3 h4 n see tm g (by omega) (by omega)) s.heap.size) (cwV 1 hts (gV tw_705 tw_706 tw_707 tw_86 tw_708) rfl rfl rfl (by decide +kernel) ⟨Nat.le_of_ble_eq_true rfl, Nat.le_of_ble_eq_true rfl⟩) (pV hS hAlo hlo hP hK (va_Dlo hD hAlo) hZ [6, 1, 2] (by decide) rfl (ci := 3) (q := (RX3, TX3, 5)) (q0 := 0) rfl rfl) rfl rfl hl.1 rfl (lv_room (Nat.le_of_ble_eq_true rfl)) dX2_eveningOf_2 ⟨Nat.le_of_ble_eq_true rfl, Nat.le_of_ble_eq_true rfl⟩) hS hA hP (fun r_1 H locs hw_1 hP hS => ?_)
  try dsimp only at hw_1
  subst hw_1
  refine lv_istore (lv' := [(4, .int (nI (min rr tm))), (0, .ref y0), (1, .ref h0), (2, .ref u0), (3, .ref c0)]) hx hb dX2_eveningOf_5 hl (by decide) rfl (fun ls hl => ?_)
  refine lv_iconst (v := 0) hx hb dX2_eveningOf_7 (by decide) ?_
  refine lv_istore (lv' := [(5, .int 0), (4, .int (nI (min rr tm))), (0, .ref y0), (1, .ref h0), (2, .ref u0), (3, .ref c0)]) hx hb dX2_eveningOf_8 hl (by decide) rfl (fun ls hl => ?_)
  refine lv_iconst (v := 0) hx hb dX2_eveningOf_10 (by decide) ?_
  refine lv_istore (lv' := [(6, .int 0), (5, .int 0), (4, .int (nI (min rr tm))), (0, .ref y0), (1, .ref h0), (2, .ref u0), (3, .ref c0)]) hx hb dX2_eveningOf_11 hl (by decide) rfl (fun ls hl => ?_)
  refine W_loop (σ := Nat × Int32 × Int32) (fun (n_ : Nat) (x_ : Nat × Int32 × Int32) (H : Heap) (locs : List Loc) (ls : Array Slot) => match x_ with | (rn2_2, co_2, sd2_2) => n_ = 5 - rn2_2 ∧ (rn2_2 ≤ 4) ∧ va_P D classes [(y0, .inr (2, (fX2 y1 y2 y3 wt wc))), (h0, .inr (5, (fX5 h1 h2 h3 h4))), (aI k h1 10 (vv n see tm g)), (aI k h2 24 ff), (aI k h3 24 fp), (aI k h4 4 fl), (u0, .inr (3, (fX3 u1 u2 rf (nI rc) (nI rr)))), (aI k u1 24 rs), (aI k u2 24 rb), (c0, .inr (4, (fX4 c1 c2 (nI cc) (nI rz) ro sd2_2)))] H ∧ va_D A [(y0, .inr (2, (fX2 y1 y2 y3 wt wc))), (h0, .inr (5, (fX5 h1 h2 h3 h4))), (aI k h1 10 (vv n see tm g)), (aI k h2 24 ff), (aI k h3 24 fp), (aI k h4 4 fl), (u0, .inr (3, (fX3 u1 u2 rf (nI rc) (nI rr)))), (aI k u1 24 rs), (aI k u2 24 rb), (c0, .inr (4, (fX4 c1 c2 (nI cc) (nI rz) ro sd2_2)))] ∧ va_S A s.heap H locs ∧ lv_has ls 11 [(6, .int (nI rn2_2)), (5, .int co_2), (4, .int (nI (min rr tm))), (0, .ref y0), (1, .ref h0), (2, .ref u0), (3, .ref c0)]) (fun n_2 x_2 H locs ls hI ih_2 => ?_) _ (0, 0, sd) ⟨rfl, (by omega), hP, hD, hS, (lv_sub hl [0, 1, 2, 3, 4, 5, 6] rfl)⟩
  obtain ⟨rn2_2, co_2, sd2_2⟩ := x_2
  obtain ⟨hm_2, hv_2, hP, hD, hS, hl⟩ := hI
  subst hm_2
  refine lv_iload hx hb dX2_eveningOf_13 (lv_at hl 0 rfl) ?_
  refine lv_iload hx hb dX2_eveningOf_15 (lv_at hl 2 rfl) ?_
  refine lv_icmp_gt (tgt := 144) hx hb dX2_eveningOf_17 (by decide) (fun c_3 => ?_) (fun c_3 => ?_)
  · have c_3 := (nI_ltI (a := (min rr tm)) (b := rn2_2) (by omega) (by omega)).mp c_3
    refine lv_iload hx hb dX2_eveningOf_144 (lv_at hl 1 rfl) ?_
    refine lv_aload_n hx hb dX2_eveningOf_146 rfl (lv_at hl 4 rfl) ?_
    refine lv_iload hx hb dX2_eveningOf_147 (lv_at hl 2 rfl) ?_
    refine ro_i (D := D) (va_runV (As := [.int (nI (min rr tm))]) (rest := [.int co_2]) ⟨hx, hb, hml, hown, hts⟩ ((x_garageOf l D k st lo h0 h1 h2 h3 h4 n see tm g fl (min rr tm) (by omega)) H.size) (cwV 1 hts (gV tw_713 tw_521 tw_522 tw_81 tw_523) rfl rfl rfl (by decide +kernel) ⟨Nat.le_of_ble_eq_true rfl, Nat.le_of_ble_eq_true rfl⟩) (pV hS hAlo hlo hP hK (va_Dlo hD hAlo) hZ [1, 2, 5] (by decide) rfl (ci := 5) (q := (RX5, TX5, 4)) (q0 := 0) rfl rfl) rfl rfl hl.1 rfl (lv_room (Nat.le_of_ble_eq_true rfl)) dX2_eveningOf_149 ⟨Nat.le_of_ble_eq_true rfl, Nat.le_of_ble_eq_true rfl⟩) hS hA hP (fun r_4 H locs hw_4 hP hS => ?_)
    try dsimp only at hw_4
    refine lv_iadd hx hb dX2_eveningOf_152 ?_
    refine lv_topi (fun x_5 ex_5 => ?_)
    have hP9 := hP.sub (ws' := [(y0, .inr (2, (fX2 y1 y2 y3 wt wc))), (h0, .inr (5, (fX5 h1 h2 h3 h4))), (aI k h1 10 (vv n see tm g)), (aI k h2 24 ff), (aI k h3 24 fp), (aI k h4 4 fl), (u0, .inr (3, (fX3 u1 u2 rf (nI rc) (nI rr)))), (aI k u1 24 rs), (aI k u2 24 rb), (c0, .inr (4, (fX4 c1 c2 (nI cc) (nI rz) ro sd2_2)))]) [0, 1, 2, 3, 4, 5, 6, 7, 8, 9] rfl
    have hD9 := hD.sub (ws' := [(y0, .inr (2, (fX2 y1 y2 y3 wt wc))), (h0, .inr (5, (fX5 h1 h2 h3 h4))), (aI k h1 10 (vv n see tm g)), (aI k h2 24 ff), (aI k h3 24 fp), (aI k h4 4 fl), (u0, .inr (3, (fX3 u1 u2 rf (nI rc) (nI rr)))), (aI k u1 24 rs), (aI k u2 24 rb), (c0, .inr (4, (fX4 c1 c2 (nI cc) (nI rz) ro sd2_2)))]) [0, 1, 2, 3, 4, 5, 6, 7, 8, 9] (by decide +kernel) rfl
    exact W.iret (v := x_5) hx hb hr (fun t ht hW => ⟨⟨x_5, sd2_2, rfl, trivial, by rw [ht]; exact hP9, hD9⟩, hS.F ht⟩) hS.2.2 dX2_eveningOf_153
  · have c_3 : ¬ ((min rr tm) < rn2_2) := fun h => c_3 ((nI_ltI (a := (min rr tm)) (b := rn2_2) (by omega) (by omega)).mpr h)
    refine lv_iconst (v := 0) hx hb dX2_eveningOf_20 (by decide) ?_
    refine lv_istore (lv' := [(7, .int 0), (6, .int (nI rn2_2)), (5, .int co_2), (4, .int (nI (min rr tm))), (0, .ref y0), (1, .ref h0), (2, .ref u0), (3, .ref c0)]) hx hb dX2_eveningOf_21 hl (by decide) rfl (fun ls hl => ?_)
    refine lv_iconst (v := 0) hx hb dX2_eveningOf_23 (by decide) ?_
    refine lv_istore (lv' := [(8, .int 0), (7, .int 0), (6, .int (nI rn2_2)), (5, .int co_2), (4, .int (nI (min rr tm))), (0, .ref y0), (1, .ref h0), (2, .ref u0), (3, .ref c0)]) hx hb dX2_eveningOf_24 hl (by decide) rfl (fun ls hl => ?_)
    refine lv_iconst (v := 0) hx hb dX2_eveningOf_26 (by decide) ?_
    refine lv_istore (lv' := [(9, .int 0), (8, .int 0), (7, .int 0), (6, .int (nI rn2_2)), (5, .int co_2), (4, .int (nI (min rr tm))), (0, .ref y0), (1, .ref h0), (2, .ref u0), (3, .ref c0)]) hx hb dX2_eveningOf_27 hl (by decide) rfl (fun ls hl => ?_)
    refine W_loop (σ := Nat × Int32 × Int32 × Int32 × Int32) (fun (n_ : Nat) (x_ : Nat × Int32 × Int32 × Int32 × Int32) (H : Heap) (locs : List Loc) (ls : Array Slot) => match x_ with | (ii_6, co_6, pa_6, ah_6, sd2_6) => n_ = 25 - ii_6 ∧ (ii_6 ≤ 24) ∧ va_P D classes [(y0, .inr (2, (fX2 y1 y2 y3 wt wc))), (h0, .inr (5, (fX5 h1 h2 h3 h4))), (aI k h1 10 (vv n see tm g)), (aI k h2 24 ff), (aI k h3 24 fp), (aI k h4 4 fl), (u0, .inr (3, (fX3 u1 u2 rf (nI rc) (nI rr)))), (aI k u1 24 rs), (aI k u2 24 rb), (c0, .inr (4, (fX4 c1 c2 (nI cc) (nI rz) ro sd2_6)))] H ∧ va_D A [(y0, .inr (2, (fX2 y1 y2 y3 wt wc))), (h0, .inr (5, (fX5 h1 h2 h3 h4))), (aI k h1 10 (vv n see tm g)), (aI k h2 24 ff), (aI k h3 24 fp), (aI k h4 4 fl), (u0, .inr (3, (fX3 u1 u2 rf (nI rc) (nI rr)))), (aI k u1 24 rs), (aI k u2 24 rb), (c0, .inr (4, (fX4 c1 c2 (nI cc) (nI rz) ro sd2_6)))] ∧ va_S A s.heap H locs ∧ lv_has ls 11 [(9, .int (nI ii_6)), (8, .int ah_6), (7, .int pa_6), (6, .int (nI rn2_2)), (5, .int co_6), (4, .int (nI (min rr tm))), (0, .ref y0), (1, .ref h0), (2, .ref u0), (3, .ref c0)]) (fun n_6 x_6 H locs ls hI ih_6 => ?_) _ (0, co_2, 0, 0, sd2_2) ⟨rfl, (by omega), hP, hD, hS, (lv_sub hl [0, 1, 2, 3, 4, 5, 6, 7, 8, 9] rfl)⟩
    obtain ⟨ii_6, co_6, pa_6, ah_6, sd2_6⟩ := x_6
    obtain ⟨hm_6, hv_6, hP, hD, hS, hl⟩ := hI
    subst hm_6
    refine lv_iload hx hb dX2_eveningOf_29 (lv_at hl 0 rfl) ?_
    refine lv_aload_n hx hb dX2_eveningOf_31 rfl (lv_at hl 7 rfl) ?_
    refine ro_i (D := D) (va_runV (As := []) (rest := [.int (nI ii_6)]) ⟨hx, hb, hml, hown, hts⟩ ((x_doors l D k st lo h0 h1 h2 h3 h4 n see tm g) H.size) (cwV 0 hts (gV tw_723 tw_478 tw_479 tw_81 tw_480) rfl rfl rfl (by decide +kernel) ⟨Nat.le_of_ble_eq_true rfl, Nat.le_of_ble_eq_true rfl⟩) (pV hS hAlo hlo hP hK (va_Dlo hD hAlo) hZ [1, 2] (by decide) rfl (ci := 5) (q := (RX5, TX5, 4)) (q0 := 0) rfl rfl) rfl rfl hl.1 rfl (lv_room (Nat.le_of_ble_eq_true rfl)) dX2_eveningOf_32 ⟨Nat.le_of_ble_eq_true rfl, Nat.le_of_ble_eq_true rfl⟩) hS hA hP (fun r_7 H locs hw_7 hP hS => ?_)
    try dsimp only at hw_7
    subst hw_7
    refine lv_icmp_ge (tgt := 122) hx hb dX2_eveningOf_35 (by decide) (fun c_8 => ?_) (fun c_8 => ?_)
    · have c_8 := (nI_leI (a := n) (b := ii_6) (by omega) (by omega)).mp c_8
      refine lv_iload hx hb dX2_eveningOf_122 (lv_at hl 3 rfl) ?_
      refine lv_iload hx hb dX2_eveningOf_124 (lv_at hl 5 rfl) ?_
      refine lv_icmp_ge (tgt := 138) hx hb dX2_eveningOf_126 (by decide) (fun c_9 => ?_) (fun c_9 => ?_)
      · have c_9 := (nI_leI (a := (min rr tm)) (b := rn2_2) (by omega) (by omega)).mp c_9
        refine lv_iinc (v := (nI (rn2_2 + 1))) (lv' := [(6, .int (nI (rn2_2 + 1))), (9, .int (nI ii_6)), (8, .int ah_6), (7, .int pa_6), (5, .int co_6), (4, .int (nI (min rr tm))), (0, .ref y0), (1, .ref h0), (2, .ref u0), (3, .ref c0)]) hx hb dX2_eveningOf_138 hl (k := 3) rfl (nI_add rn2_2 1) (by decide) rfl (fun ls hl => ?_)
        refine lv_goto (tgt := 13) hx hb dX2_eveningOf_141 (by decide) ?_
        exact ih_2 _ (rn2_2 + 1, co_6, sd2_6) _ _ _ (by omega) ⟨rfl, (by omega), hP, hD, hS, (lv_sub hl [0, 4, 5, 6, 7, 8, 9] rfl)⟩
      · have c_9 : ¬ ((min rr tm) ≤ rn2_2) := fun h => c_9 ((nI_leI (a := (min rr tm)) (b := rn2_2) (by omega) (by omega)).mpr h)
        refine lv_iload hx hb dX2_eveningOf_129 (lv_at hl 4 rfl) ?_
        refine lv_aload_n hx hb dX2_eveningOf_131 rfl (lv_at hl 7 rfl) ?_
        refine ro_i (D := D) (va_runV (As := []) (rest := [.int co_6]) ⟨hx, hb, hml, hown, hts⟩ ((x_roundDrive l D k st lo h0 h1 h2 h3 h4 n see tm g) H.size) (cwV 0 hts (gV tw_735 tw_525 tw_526 tw_81 tw_527) rfl rfl rfl (by decide +kernel) ⟨Nat.le_of_ble_eq_true rfl, Nat.le_of_ble_eq_true rfl⟩) (pV hS hAlo hlo hP hK (va_Dlo hD hAlo) hZ [1, 2] (by decide) rfl (ci := 5) (q := (RX5, TX5, 4)) (q0 := 0) rfl rfl) rfl rfl hl.1 rfl (lv_room (Nat.le_of_ble_eq_true rfl)) dX2_eveningOf_132 ⟨Nat.le_of_ble_eq_true rfl, Nat.le_of_ble_eq_true rfl⟩) hS hA hP (fun r_10 H locs hw_10 hP hS => ?_)
        try dsimp only at hw_10
        refine lv_iadd hx hb dX2_eveningOf_135 ?_
        refine lv_topi (fun x_11 ex_11 => ?_)
        refine lv_istore (lv' := [(5, .int x_11), (9, .int (nI ii_6)), (8, .int ah_6), (7, .int pa_6), (6, .int (nI rn2_2)), (4, .int (nI (min rr tm))), (0, .ref y0), (1, .ref h0), (2, .ref u0), (3, .ref c0)]) hx hb dX2_eveningOf_136 hl (by decide) rfl (fun ls hl => ?_)
        refine lv_iinc (v := (nI (rn2_2 + 1))) (lv' := [(6, .int (nI (rn2_2 + 1))), (5, .int x_11), (9, .int (nI ii_6)), (8, .int ah_6), (7, .int pa_6), (4, .int (nI (min rr tm))), (0, .ref y0), (1, .ref h0), (2, .ref u0), (3, .ref c0)]) hx hb dX2_eveningOf_138 hl (k := 4) rfl (nI_add rn2_2 1) (by decide) rfl (fun ls hl => ?_)
        refine lv_goto (tgt := 13) hx hb dX2_eveningOf_141 (by decide) ?_
        exact ih_2 _ (rn2_2 + 1, x_11, sd2_6) _ _ _ (by omega) ⟨rfl, (by omega), hP, hD, hS, (lv_sub hl [0, 1, 5, 6, 7, 8, 9] rfl)⟩
    · have c_8 : ¬ (n ≤ ii_6) := fun h => c_8 ((nI_leI (a := n) (b := ii_6) (by omega) (by omega)).mpr h)
      refine lv_aload_n hx hb dX2_eveningOf_38 rfl (lv_at hl 9 rfl) ?_
      refine rw_i (D := D) (wr := [(y0, .inr (2, (fX2 y1 y2 y3 wt wc))), (h0, .inr (5, (fX5 h1 h2 h3 h4))), (aI k h1 10 (vv n see tm g)), (aI k h2 24 ff), (aI k h3 24 fp), (aI k h4 4 fl), (u0, .inr (3, (fX3 u1 u2 rf (nI rc) (nI rr)))), (aI k u1 24 rs), (aI k u2 24 rb)]) (va_runV (As := []) (rest := []) ⟨hx, hb, hml, hown, hts⟩ ((x_draw l D k st lo c0 c1 c2 cc rz ro sd2_6) H.size) (cwV 0 hts (gV tw_932 tw_933 tw_934 tw_82 tw_935) rfl rfl rfl (by decide +kernel) ⟨Nat.le_of_ble_eq_true rfl, Nat.le_of_ble_eq_true rfl⟩) (pV hS hAlo hlo hP hK (va_Dlo hD hAlo) hZ [9] (by decide) rfl (ci := 4) (q := (RX4, TX4, 6)) (q0 := 0) rfl rfl) rfl rfl hl.1 rfl (lv_room (Nat.le_of_ble_eq_true rfl)) dX2_eveningOf_39 ⟨Nat.le_of_ble_eq_true rfl, Nat.le_of_ble_eq_true rfl⟩) hS hA hP hD [9] [0, 1, 2, 3, 4, 5, 6, 7, 8] rfl rfl (by decide +kernel) (by decide +kernel) (fun r_12 u H locs hw_12 hP hD hS => ?_)
      obtain ⟨sd__12, rfl⟩ : ∃ z, z = u := ⟨_, rfl⟩
      replace hP : va_P D classes [(y0, .inr (2, (fX2 y1 y2 y3 wt wc))), (h0, .inr (5, (fX5 h1 h2 h3 h4))), (aI k h1 10 (vv n see tm g)), (aI k h2 24 ff), (aI k h3 24 fp), (aI k h4 4 fl), (u0, .inr (3, (fX3 u1 u2 rf (nI rc) (nI rr)))), (aI k u1 24 rs), (aI k u2 24 rb), (c0, .inr (4, (fX4 c1 c2 (nI cc) (nI rz) ro sd__12)))] H := hP
      replace hD : va_D A [(y0, .inr (2, (fX2 y1 y2 y3 wt wc))), (h0, .inr (5, (fX5 h1 h2 h3 h4))), (aI k h1 10 (vv n see tm g)), (aI k h2 24 ff), (aI k h3 24 fp), (aI k h4 4 fl), (u0, .inr (3, (fX3 u1 u2 rf (nI rc) (nI rr)))), (aI k u1 24 rs), (aI k u2 24 rb), (c0, .inr (4, (fX4 c1 c2 (nI cc) (nI rz) ro sd__12)))] := hD
      try dsimp only at hw_12
      refine lv_aload_n hx hb dX2_eveningOf_42 rfl (lv_at hl 7 rfl) ?_
      refine lv_iload hx hb dX2_eveningOf_43 (lv_at hl 0 rfl) ?_
      refine lv_iload hx hb dX2_eveningOf_45 (lv_at hl 1 rfl) ?_
      refine ro_i (D := D) (va_runV (As := [.int (nI ii_6), .int ah_6]) (rest := [.int r_12]) ⟨hx, hb, hml, hown, hts⟩ ((x_chanceOf l D k st lo h0 h1 h2 h3 h4 n see tm g ff ii_6 ah_6 (by omega)) H.size) (cwV 2 hts (gV tw_733 tw_565 tw_566 tw_81 tw_567) rfl rfl rfl (by decide +kernel) ⟨Nat.le_of_ble_eq_true rfl, Nat.le_of_ble_eq_true rfl⟩) (pV hS hAlo hlo hP hK (va_Dlo hD hAlo) hZ [1, 2, 3] (by decide) rfl (ci := 5) (q := (RX5, TX5, 4)) (q0 := 0) rfl rfl) rfl rfl hl.1 rfl (lv_room (Nat.le_of_ble_eq_true rfl)) dX2_eveningOf_47 ⟨Nat.le_of_ble_eq_true rfl, Nat.le_of_ble_eq_true rfl⟩) hS hA hP (fun r_13 H locs hw_13 hP hS => ?_)
      try dsimp only at hw_13
      refine lv_icmp_ge (tgt := 57) hx hb dX2_eveningOf_50 (by decide) (fun c_14 => ?_) (fun c_14 => ?_)
      · refine lv_iconst (v := 0) hx hb dX2_eveningOf_57 (by decide) ?_
        refine lv_istore (lv' := [(10, .int 0), (9, .int (nI ii_6)), (8, .int ah_6), (7, .int pa_6), (6, .int (nI rn2_2)), (5, .int co_6), (4, .int (nI (min rr tm))), (0, .ref y0), (1, .ref h0), (2, .ref u0), (3, .ref c0)]) hx hb dX2_eveningOf_58 hl (by decide) rfl (fun ls hl => ?_)
        refine lv_iload hx hb dX2_eveningOf_60 (lv_at hl 0 rfl) ?_
        refine lv_if_eq (tgt := 88) hx hb dX2_eveningOf_62 (by decide) (fun _ => ?_) (fun h => absurd (by decide) h)
        refine lv_iload hx hb dX2_eveningOf_88 (lv_at hl 5 rfl) ?_
        refine lv_aload_n hx hb dX2_eveningOf_90 rfl (lv_at hl 8 rfl) ?_
        refine ro_i (D := D) (va_runV (As := []) (rest := [.int co_6]) ⟨hx, hb, hml, hown, hts⟩ ((x_passing l D k st lo h0 h1 h2 h3 h4 n see tm g) H.size) (cwV 0 hts (gV tw_724 tw_573 tw_574 tw_81 tw_575) rfl rfl rfl (by decide +kernel) ⟨Nat.le_of_ble_eq_true rfl, Nat.le_of_ble_eq_true rfl⟩) (pV hS hAlo hlo hP hK (va_Dlo hD hAlo) hZ [1, 2] (by decide) rfl (ci := 5) (q := (RX5, TX5, 4)) (q0 := 0) rfl rfl) rfl rfl hl.1 rfl (lv_room (Nat.le_of_ble_eq_true rfl)) dX2_eveningOf_91 ⟨Nat.le_of_ble_eq_true rfl, Nat.le_of_ble_eq_true rfl⟩) hS hA hP (fun r_15 H locs hw_15 hP hS => ?_)
        try dsimp only at hw_15
        refine lv_iadd hx hb dX2_eveningOf_94 ?_
        refine lv_topi (fun x_16 ex_16 => ?_)
        refine lv_istore (lv' := [(5, .int x_16), (10, .int 0), (9, .int (nI ii_6)), (8, .int ah_6), (7, .int pa_6), (6, .int (nI rn2_2)), (4, .int (nI (min rr tm))), (0, .ref y0), (1, .ref h0), (2, .ref u0), (3, .ref c0)]) hx hb dX2_eveningOf_95 hl (by decide) rfl (fun ls hl => ?_)
        refine lv_iload hx hb dX2_eveningOf_97 (lv_at hl 4 rfl) ?_
        refine lv_iload hx hb dX2_eveningOf_99 (lv_at hl 1 rfl) ?_
        refine lv_if_eq (tgt := 108) hx hb dX2_eveningOf_101 (by decide) (fun _ => ?_) (fun h => absurd (by decide) h)
        refine lv_iconst (v := 0) hx hb dX2_eveningOf_108 (by decide) ?_
        refine lv_iadd hx hb dX2_eveningOf_109 ?_
        refine lv_topi (fun x_17 ex_17 => ?_)
        refine lv_istore (lv' := [(7, .int x_17), (5, .int x_16), (10, .int 0), (9, .int (nI ii_6)), (8, .int ah_6), (6, .int (nI rn2_2)), (4, .int (nI (min rr tm))), (0, .ref y0), (1, .ref h0), (2, .ref u0), (3, .ref c0)]) hx hb dX2_eveningOf_110 hl (by decide) rfl (fun ls hl => ?_)
        refine lv_iload hx hb dX2_eveningOf_112 (lv_at hl 2 rfl) ?_
        refine lv_istore (lv' := [(8, .int 0), (7, .int x_17), (5, .int x_16), (10, .int 0), (9, .int (nI ii_6)), (6, .int (nI rn2_2)), (4, .int (nI (min rr tm))), (0, .ref y0), (1, .ref h0), (2, .ref u0), (3, .ref c0)]) hx hb dX2_eveningOf_114 hl (by decide) rfl (fun ls hl => ?_)
        refine lv_iinc (v := (nI (ii_6 + 1))) (lv' := [(9, .int (nI (ii_6 + 1))), (8, .int 0), (7, .int x_17), (5, .int x_16), (10, .int 0), (6, .int (nI rn2_2)), (4, .int (nI (min rr tm))), (0, .ref y0), (1, .ref h0), (2, .ref u0), (3, .ref c0)]) hx hb dX2_eveningOf_116 hl (k := 4) rfl (nI_add ii_6 1) (by decide) rfl (fun ls hl => ?_)
        refine lv_goto (tgt := 29) hx hb dX2_eveningOf_119 (by decide) ?_
        exact ih_6 _ (ii_6 + 1, x_16, x_17, 0, sd__12) _ _ _ (by omega) ⟨rfl, (by omega), hP, hD, hS, (lv_sub hl [0, 1, 2, 5, 3, 6, 7, 8, 9, 10] rfl)⟩
      · refine lv_iconst (v := 1) hx hb dX2_eveningOf_53 (by decide) ?_
        refine lv_goto (tgt := 58) hx hb dX2_eveningOf_54 (by decide) ?_
        refine lv_istore (lv' := [(10, .int 1), (9, .int (nI ii_6)), (8, .int ah_6), (7, .int pa_6), (6, .int (nI rn2_2)), (5, .int co_6), (4, .int (nI (min rr tm))), (0, .ref y0), (1, .ref h0), (2, .ref u0), (3, .ref c0)]) hx hb dX2_eveningOf_58 hl (by decide) rfl (fun ls hl => ?_)
        refine lv_iload hx hb dX2_eveningOf_60 (lv_at hl 0 rfl) ?_
        refine lv_if_eq (tgt := 88) hx hb dX2_eveningOf_62 (by decide) (fun h => absurd h (by decide)) (fun _ => ?_)
        refine lv_iload hx hb dX2_eveningOf_65 (lv_at hl 1 rfl) ?_
        refine lv_aload_n hx hb dX2_eveningOf_67 rfl (lv_at hl 9 rfl) ?_
        refine lv_iload hx hb dX2_eveningOf_68 (lv_at hl 3 rfl) ?_
        refine ro_i (D := D) (va_runV (As := [.int pa_6]) (rest := [.int (nI ii_6)]) ⟨hx, hb, hml, hown, hts⟩ ((x_barAfter l D k st lo u0 u1 u2 rf rc rr rs rb pa_6 (by omega)) H.size) (cwV 1 hts (gV tw_729 tw_730 tw_731 tw_86 tw_732) rfl rfl rfl (by decide +kernel) ⟨Nat.le_of_ble_eq_true rfl, Nat.le_of_ble_eq_true rfl⟩) (pV hS hAlo hlo hP hK (va_Dlo hD hAlo) hZ [6, 7, 8] (by decide) rfl (ci := 3) (q := (RX3, TX3, 5)) (q0 := 0) rfl rfl) rfl rfl hl.1 rfl (lv_room (Nat.le_of_ble_eq_true rfl)) dX2_eveningOf_70 ⟨Nat.le_of_ble_eq_true rfl, Nat.le_of_ble_eq_true rfl⟩) hS hA hP (fun r_18 H locs hw_18 hP hS => ?_)
        try dsimp only at hw_18
        refine lv_icmp_lt (tgt := 88) hx hb dX2_eveningOf_73 (by decide) (fun c_19 => ?_) (fun c_19 => ?_)
        · refine lv_iload hx hb dX2_eveningOf_88 (lv_at hl 5 rfl) ?_
          refine lv_aload_n hx hb dX2_eveningOf_90 rfl (lv_at hl 8 rfl) ?_
          refine ro_i (D := D) (va_runV (As := []) (rest := [.int co_6]) ⟨hx, hb, hml, hown, hts⟩ ((x_passing l D k st lo h0 h1 h2 h3 h4 n see tm g) H.size) (cwV 0 hts (gV tw_724 tw_573 tw_574 tw_81 tw_575) rfl rfl rfl (by decide +kernel) ⟨Nat.le_of_ble_eq_true rfl, Nat.le_of_ble_eq_true rfl⟩) (pV hS hAlo hlo hP hK (va_Dlo hD hAlo) hZ [1, 2] (by decide) rfl (ci := 5) (q := (RX5, TX5, 4)) (q0 := 0) rfl rfl) rfl rfl hl.1 rfl (lv_room (Nat.le_of_ble_eq_true rfl)) dX2_eveningOf_91 ⟨Nat.le_of_ble_eq_true rfl, Nat.le_of_ble_eq_true rfl⟩) hS hA hP (fun r_20 H locs hw_20 hP hS => ?_)
          try dsimp only at hw_20
          refine lv_iadd hx hb dX2_eveningOf_94 ?_
          refine lv_topi (fun x_21 ex_21 => ?_)
          refine lv_istore (lv' := [(5, .int x_21), (10, .int 1), (9, .int (nI ii_6)), (8, .int ah_6), (7, .int pa_6), (6, .int (nI rn2_2)), (4, .int (nI (min rr tm))), (0, .ref y0), (1, .ref h0), (2, .ref u0), (3, .ref c0)]) hx hb dX2_eveningOf_95 hl (by decide) rfl (fun ls hl => ?_)
          refine lv_iload hx hb dX2_eveningOf_97 (lv_at hl 4 rfl) ?_
          refine lv_iload hx hb dX2_eveningOf_99 (lv_at hl 1 rfl) ?_
          refine lv_if_eq (tgt := 108) hx hb dX2_eveningOf_101 (by decide) (fun h => absurd h (by decide)) (fun _ => ?_)
          refine lv_iconst (v := 1) hx hb dX2_eveningOf_104 (by decide) ?_
          refine lv_goto (tgt := 109) hx hb dX2_eveningOf_105 (by decide) ?_
          refine lv_iadd hx hb dX2_eveningOf_109 ?_
          refine lv_topi (fun x_22 ex_22 => ?_)
          refine lv_istore (lv' := [(7, .int x_22), (5, .int x_21), (10, .int 1), (9, .int (nI ii_6)), (8, .int ah_6), (6, .int (nI rn2_2)), (4, .int (nI (min rr tm))), (0, .ref y0), (1, .ref h0), (2, .ref u0), (3, .ref c0)]) hx hb dX2_eveningOf_110 hl (by decide) rfl (fun ls hl => ?_)
          refine lv_iload hx hb dX2_eveningOf_112 (lv_at hl 2 rfl) ?_
          refine lv_istore (lv' := [(8, .int 1), (7, .int x_22), (5, .int x_21), (10, .int 1), (9, .int (nI ii_6)), (6, .int (nI rn2_2)), (4, .int (nI (min rr tm))), (0, .ref y0), (1, .ref h0), (2, .ref u0), (3, .ref c0)]) hx hb dX2_eveningOf_114 hl (by decide) rfl (fun ls hl => ?_)
          refine lv_iinc (v := (nI (ii_6 + 1))) (lv' := [(9, .int (nI (ii_6 + 1))), (8, .int 1), (7, .int x_22), (5, .int x_21), (10, .int 1), (6, .int (nI rn2_2)), (4, .int (nI (min rr tm))), (0, .ref y0), (1, .ref h0), (2, .ref u0), (3, .ref c0)]) hx hb dX2_eveningOf_116 hl (k := 4) rfl (nI_add ii_6 1) (by decide) rfl (fun ls hl => ?_)
          refine lv_goto (tgt := 29) hx hb dX2_eveningOf_119 (by decide) ?_
          exact ih_6 _ (ii_6 + 1, x_21, x_22, 1, sd__12) _ _ _ (by omega) ⟨rfl, (by omega), hP, hD, hS, (lv_sub hl [0, 1, 2, 5, 3, 6, 7, 8, 9, 10] rfl)⟩
        · refine lv_iload hx hb dX2_eveningOf_76 (lv_at hl 5 rfl) ?_
          refine lv_aload_n hx hb dX2_eveningOf_78 rfl (lv_at hl 8 rfl) ?_
          refine lv_iload hx hb dX2_eveningOf_79 (lv_at hl 4 rfl) ?_
          refine lv_iload hx hb dX2_eveningOf_81 (lv_at hl 1 rfl) ?_
          refine ro_i (D := D) (va_runV (As := [.int (nI rn2_2), .int (nI ii_6)]) (rest := [.int co_6]) ⟨hx, hb, hml, hown, hts⟩ ((x_takingOf l D k st lo h0 h1 h2 h3 h4 n see tm g fp fl rn2_2 ii_6 (by omega) (by omega)) H.size) (cwV 2 hts (gV tw_728 tw_557 tw_558 tw_81 tw_559) rfl rfl rfl (by decide +kernel) ⟨Nat.le_of_ble_eq_true rfl, Nat.le_of_ble_eq_true rfl⟩) (pV hS hAlo hlo hP hK (va_Dlo hD hAlo) hZ [1, 2, 4, 5] (by decide) rfl (ci := 5) (q := (RX5, TX5, 4)) (q0 := 0) rfl rfl) rfl rfl hl.1 rfl (lv_room (Nat.le_of_ble_eq_true rfl)) dX2_eveningOf_83 ⟨Nat.le_of_ble_eq_true rfl, Nat.le_of_ble_eq_true rfl⟩) hS hA hP (fun r_23 H locs hw_23 hP hS => ?_)
          try dsimp only at hw_23
          refine lv_iadd hx hb dX2_eveningOf_86 ?_
          refine lv_topi (fun x_24 ex_24 => ?_)
          have hP9 := hP.sub (ws' := [(y0, .inr (2, (fX2 y1 y2 y3 wt wc))), (h0, .inr (5, (fX5 h1 h2 h3 h4))), (aI k h1 10 (vv n see tm g)), (aI k h2 24 ff), (aI k h3 24 fp), (aI k h4 4 fl), (u0, .inr (3, (fX3 u1 u2 rf (nI rc) (nI rr)))), (aI k u1 24 rs), (aI k u2 24 rb), (c0, .inr (4, (fX4 c1 c2 (nI cc) (nI rz) ro sd__12)))]) [0, 1, 2, 3, 4, 5, 6, 7, 8, 9] rfl
          have hD9 := hD.sub (ws' := [(y0, .inr (2, (fX2 y1 y2 y3 wt wc))), (h0, .inr (5, (fX5 h1 h2 h3 h4))), (aI k h1 10 (vv n see tm g)), (aI k h2 24 ff), (aI k h3 24 fp), (aI k h4 4 fl), (u0, .inr (3, (fX3 u1 u2 rf (nI rc) (nI rr)))), (aI k u1 24 rs), (aI k u2 24 rb), (c0, .inr (4, (fX4 c1 c2 (nI cc) (nI rz) ro sd__12)))]) [0, 1, 2, 3, 4, 5, 6, 7, 8, 9] (by decide +kernel) rfl
          exact W.iret (v := x_24) hx hb hr (fun t ht hW => ⟨⟨x_24, sd__12, rfl, trivial, by rw [ht]; exact hP9, hD9⟩, hS.F ht⟩) hS.2.2 dX2_eveningOf_87


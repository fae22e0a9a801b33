theorem dX0_firstWrong_0 : decode cX0_firstWrong 0 = .ok (.aload_n 2, 1) := by decide +kernel
theorem dX0_firstWrong_1 : decode cX0_firstWrong 1 = .ok (.getfield 100, 3) := by decide +kernel
theorem dX0_firstWrong_4 : decode cX0_firstWrong 4 = .ok (.aload_n 0, 1) := by decide +kernel
theorem dX0_firstWrong_5 : decode cX0_firstWrong 5 = .ok (.getfield 24, 3) := by decide +kernel
theorem dX0_firstWrong_8 : decode cX0_firstWrong 8 = .ok (.invokevirtual 37, 3) := by decide +kernel
theorem dX0_firstWrong_11 : decode cX0_firstWrong 11 = .ok (.invokestatic 54, 3) := by decide +kernel
theorem dX0_firstWrong_14 : decode cX0_firstWrong 14 = .ok (.istore 4, 2) := by decide +kernel
theorem dX0_firstWrong_16 : decode cX0_firstWrong 16 = .ok (.iconst 0, 1) := by decide +kernel
theorem dX0_firstWrong_17 : decode cX0_firstWrong 17 = .ok (.istore 5, 2) := by decide +kernel
theorem dX0_firstWrong_19 : decode cX0_firstWrong 19 = .ok (.iload 5, 2) := by decide +kernel
theorem dX0_firstWrong_21 : decode cX0_firstWrong 21 = .ok (.iload 4, 2) := by decide +kernel
theorem dX0_firstWrong_23 : decode cX0_firstWrong 23 = .ok (.if_icmp .ge 110, 3) := by decide +kernel
theorem dX0_firstWrong_26 : decode cX0_firstWrong 26 = .ok (.iload 5, 2) := by decide +kernel
theorem dX0_firstWrong_28 : decode cX0_firstWrong 28 = .ok (.aload_n 0, 1) := by decide +kernel
theorem dX0_firstWrong_29 : decode cX0_firstWrong 29 = .ok (.getfield 24, 3) := by decide +kernel
theorem dX0_firstWrong_32 : decode cX0_firstWrong 32 = .ok (.getfield 28, 3) := by decide +kernel
theorem dX0_firstWrong_35 : decode cX0_firstWrong 35 = .ok (.bipush 6, 2) := by decide +kernel
theorem dX0_firstWrong_37 : decode cX0_firstWrong 37 = .ok (.iaload, 1) := by decide +kernel
theorem dX0_firstWrong_38 : decode cX0_firstWrong 38 = .ok (.iadd, 1) := by decide +kernel
theorem dX0_firstWrong_39 : decode cX0_firstWrong 39 = .ok (.iconst 1, 1) := by decide +kernel
theorem dX0_firstWrong_40 : decode cX0_firstWrong 40 = .ok (.iadd, 1) := by decide +kernel
theorem dX0_firstWrong_41 : decode cX0_firstWrong 41 = .ok (.aload_n 0, 1) := by decide +kernel
theorem dX0_firstWrong_42 : decode cX0_firstWrong 42 = .ok (.getfield 24, 3) := by decide +kernel
theorem dX0_firstWrong_45 : decode cX0_firstWrong 45 = .ok (.invokevirtual 37, 3) := by decide +kernel
theorem dX0_firstWrong_48 : decode cX0_firstWrong 48 = .ok (.invokestatic 54, 3) := by decide +kernel
theorem dX0_firstWrong_51 : decode cX0_firstWrong 51 = .ok (.istore 6, 2) := by decide +kernel
theorem dX0_firstWrong_53 : decode cX0_firstWrong 53 = .ok (.iload 6, 2) := by decide +kernel
theorem dX0_firstWrong_55 : decode cX0_firstWrong 55 = .ok (.iload 4, 2) := by decide +kernel
theorem dX0_firstWrong_57 : decode cX0_firstWrong 57 = .ok (.if_icmp .gt 70, 3) := by decide +kernel
theorem dX0_firstWrong_60 : decode cX0_firstWrong 60 = .ok (.aload_n 2, 1) := by decide +kernel
theorem dX0_firstWrong_61 : decode cX0_firstWrong 61 = .ok (.iload 5, 2) := by decide +kernel
theorem dX0_firstWrong_63 : decode cX0_firstWrong 63 = .ok (.invokevirtual 106, 3) := by decide +kernel
theorem dX0_firstWrong_66 : decode cX0_firstWrong 66 = .ok (.ifCond .eq 61, 3) := by decide +kernel
theorem dX0_firstWrong_69 : decode cX0_firstWrong 69 = .ok (.aload_n 2, 1) := by decide +kernel
theorem dX0_firstWrong_70 : decode cX0_firstWrong 70 = .ok (.getfield 110, 3) := by decide +kernel
theorem dX0_firstWrong_73 : decode cX0_firstWrong 73 = .ok (.iload 5, 2) := by decide +kernel
theorem dX0_firstWrong_75 : decode cX0_firstWrong 75 = .ok (.ishr, 1) := by decide +kernel
theorem dX0_firstWrong_76 : decode cX0_firstWrong 76 = .ok (.aload_n 0, 1) := by decide +kernel
theorem dX0_firstWrong_77 : decode cX0_firstWrong 77 = .ok (.getfield 24, 3) := by decide +kernel
theorem dX0_firstWrong_80 : decode cX0_firstWrong 80 = .ok (.iload 5, 2) := by decide +kernel
theorem dX0_firstWrong_82 : decode cX0_firstWrong 82 = .ok (.invokevirtual 60, 3) := by decide +kernel
theorem dX0_firstWrong_85 : decode cX0_firstWrong 85 = .ok (.iconst 1, 1) := by decide +kernel
theorem dX0_firstWrong_86 : decode cX0_firstWrong 86 = .ok (.isub, 1) := by decide +kernel
theorem dX0_firstWrong_87 : decode cX0_firstWrong 87 = .ok (.iand, 1) := by decide +kernel
theorem dX0_firstWrong_88 : decode cX0_firstWrong 88 = .ok (.istore 7, 2) := by decide +kernel
theorem dX0_firstWrong_90 : decode cX0_firstWrong 90 = .ok (.iload_n 3, 1) := by decide +kernel
theorem dX0_firstWrong_91 : decode cX0_firstWrong 91 = .ok (.ifCond .eq 16, 3) := by decide +kernel
theorem dX0_firstWrong_94 : decode cX0_firstWrong 94 = .ok (.iload 5, 2) := by decide +kernel
theorem dX0_firstWrong_96 : decode cX0_firstWrong 96 = .ok (.iload 4, 2) := by decide +kernel
theorem dX0_firstWrong_98 : decode cX0_firstWrong 98 = .ok (.iconst 1, 1) := by decide +kernel
theorem dX0_firstWrong_99 : decode cX0_firstWrong 99 = .ok (.isub, 1) := by decide +kernel
theorem dX0_firstWrong_100 : decode cX0_firstWrong 100 = .ok (.if_icmp .ne 7, 3) := by decide +kernel
theorem dX0_firstWrong_103 : decode cX0_firstWrong 103 = .ok (.iconst 1, 1) := by decide +kernel
theorem dX0_firstWrong_104 : decode cX0_firstWrong 104 = .ok (.goto 4, 3) := by decide +kernel
theorem dX0_firstWrong_107 : decode cX0_firstWrong 107 = .ok (.iconst 0, 1) := by decide +kernel
theorem dX0_firstWrong_108 : decode cX0_firstWrong 108 = .ok (.istore 8, 2) := by decide +kernel
theorem dX0_firstWrong_110 : decode cX0_firstWrong 110 = .ok (.aload_n 0, 1) := by decide +kernel
theorem dX0_firstWrong_111 : decode cX0_firstWrong 111 = .ok (.iload_n 1, 1) := by decide +kernel
theorem dX0_firstWrong_112 : decode cX0_firstWrong 112 = .ok (.iload 5, 2) := by decide +kernel
theorem dX0_firstWrong_114 : decode cX0_firstWrong 114 = .ok (.iload 7, 2) := by decide +kernel
theorem dX0_firstWrong_116 : decode cX0_firstWrong 116 = .ok (.invokevirtual 96, 3) := by decide +kernel
theorem dX0_firstWrong_119 : decode cX0_firstWrong 119 = .ok (.iload 8, 2) := by decide +kernel
theorem dX0_firstWrong_121 : decode cX0_firstWrong 121 = .ok (.if_icmp .eq 6, 3) := by decide +kernel
theorem dX0_firstWrong_124 : decode cX0_firstWrong 124 = .ok (.iload 5, 2) := by decide +kernel
theorem dX0_firstWrong_126 : decode cX0_firstWrong 126 = .ok (.ireturn, 1) := by decide +kernel
theorem dX0_firstWrong_127 : decode cX0_firstWrong 127 = .ok (.iinc 5 1, 3) := by decide +kernel
theorem dX0_firstWrong_130 : decode cX0_firstWrong 130 = .ok (.goto (-111), 3) := by decide +kernel
theorem dX0_firstWrong_133 : decode cX0_firstWrong 133 = .ok (.iconst (-1), 1) := by decide +kernel
theorem dX0_firstWrong_134 : decode cX0_firstWrong 134 = .ok (.ireturn, 1) := by decide +kernel
set_option maxHeartbeats 4000000 in
set_option maxRecDepth 100000 in
theorem x_firstWrong (l : Launch) (D : va_G) (k : Nat → ClassId) (st : Nat → Nat) (lo : Nat) (h0 : Nat) (h1 : Nat) (h2 : Nat) (h3 : Nat) (h4 : Nat) (n : Nat) (see : Nat) (tm : Nat) (g : Nat → Int32) (fp : Nat → Int32) (fl : Nat → Int32) (w0 : Nat) (w1 : Nat) (w2 : Nat) (w3 : Nat) (w4 : Nat) (on : Nat → Int32) (c0 : Nat) (c1 : Nat) (c2 : Nat) (cc : Nat) (rz : Nat) (ro : Int32) (sd : Int32) (rn : Nat) (p2 : Int32) (hn : n ≤ 24) (hsee : see ≤ 2) (hrn : rn ≤ 3) (hrz : rz ≤ 24) : CRi l D k st lo yX0_firstWrong cX0_firstWrong 9 (some .int) ({ frames := 3, cells := 0, slots := 0, locals := 81 }) [.ref w0, .int (nI rn), .ref c0, .int p2] [(h0, .inr (5, [.ref h1, .ref h2, .ref h3, .ref h4])), (h1, .inl (k 1, 10, .inl (vv n see tm g))), (h3, .inl (k 1, 24, .inl fp)), (h4, .inl (k 1, 4, .inl fl)), (w0, .inr (0, [.ref h0, .ref w1, .ref w2, .ref w3, .ref w4])), (w1, .inl (k 1, 768, .inl on)), (c0, .inr (4, [.ref c1, .ref c2, .int (nI cc), .int (nI rz), .int ro, .int sd]))] (fun _ => True) := by
  intro sz
  refine Met.ofW (cc := cX0_firstWrong) (maxL := 9) (ret := (some .int)) (by decide) rfl ?_
  intro p e s m args below meth c s₁ B hml hv
  obtain ⟨rfl, hsz, hlo, hP, hK, hDL, hZ⟩ := hv
  have hx := B.exec
  have hb := B.bytes
  have hr := B.returns
  have hts := WS_ts B.pre
  have hown : s.vm.findClass RX0 = some m.cls := findClass_of_methodNamed B.named
  have hlocks := B.notSynchronized
  subst hsz
  have hA : ∀ q : Nat, s.heap.size ≤ q → (fun q : Nat => s.heap.size ≤ q) q := fun _ h => h
  have hAlo : ∀ q : Nat, (fun q : Nat => s.heap.size ≤ q) q → lo ≤ q := fun q h => Nat.le_trans hlo h
  have hS : va_S (fun q : Nat => s.heap.size ≤ q) s.heap s.heap [] := va_S.rf
  have hl := lv_entry ([.ref w0, .int (nI rn), .ref c0, .int p2]) (n := 9) (Nat.le_of_ble_eq_true rfl)
  rw [lg_entry_eq]
  generalize (lg_sl ([.ref w0, .int (nI rn), .ref c0, .int p2]) ++ List.replicate (9 - (lg_sl ([.ref w0, .int (nI rn), .ref c0, .int p2])).length) Slot.unset).toArray = ls at hl ⊢
  have hl : lv_has ls 9 [(0, .ref w0), (1, .int (nI rn)), (2, .ref c0), (3, .int p2)] := hl
  refine lv_aload_n hx hb dX0_firstWrong_0 rfl (lv_at hl 2 rfl) ?_
  refine va_get (D := D) (ci := 4) (v := .int (nI rz)) (C := RX4) (T := TX4) (N := 6) hx hb hts inX4 hown hK hP 6 rfl rfl 3 (by decide) (hts _ tw_183) (fun _ h9 => h9) rfl dX0_firstWrong_1 ?_
  refine lv_aload_n hx hb dX0_firstWrong_4 rfl (lv_at hl 0 rfl) ?_
  refine va_get (D := D) (ci := 0) (v := .ref h0) (C := RX0) (T := TX0) (N := 5) hx hb hts inX0 hown hK hP 4 rfl rfl 0 (by decide) (hts _ tw_266) (fun _ h9 => h9) rfl dX0_firstWrong_5 ?_
  refine ro_i (D := D) (va_runV (As := []) (rest := [.int (nI rz)]) ⟨hx, hb, hml, hown, hts⟩ ((x_doors l D k st lo h0 h1 h2 h3 h4 n see tm g) s.heap.size) (cwV 0 hts (gV tw_531 tw_478 tw_479 tw_81 tw_480) rfl rfl rfl (by decide +kernel) ⟨Nat.le_of_ble_eq_true rfl, Nat.le_of_ble_eq_true rfl⟩) (pV hS hAlo hlo hP hK hDL hZ [0, 1] (by decide) rfl (ci := 5) (q0 := 0) rfl rfl) rfl rfl hl.1 rfl (lv_room (Nat.le_of_ble_eq_true rfl)) dX0_firstWrong_8 ⟨Nat.le_of_ble_eq_true rfl, Nat.le_of_ble_eq_true rfl⟩) hS hA hP (fun r_1 H locs hw_1 hP hS => ?_)
  try dsimp only at hw_1
  subst hw_1
  refine va_mmin hx hb (by rw [hml]; exact hl.1.symm) hown (hts _ tw_528) (hts _ tw_529) (hts _ tw_93) (hts _ tw_530) (Nat.le_of_ble_eq_true rfl) (Nat.le_of_ble_eq_true rfl) (Nat.le_of_ble_eq_true rfl) (Nat.le_of_ble_eq_true rfl) dX0_firstWrong_11 ?_
  refine lv_ti (y := (nI (min rz n))) (mminN (by omega) (by omega)) ?_
  refine lv_istore (lv' := [(4, .int (nI (min rz n))), (0, .ref w0), (1, .int (nI rn)), (2, .ref c0), (3, .int p2)]) hx hb dX0_firstWrong_14 hl (by decide) rfl (fun ls hl => ?_)
  refine lv_iconst (v := 0) hx hb dX0_firstWrong_16 (by decide) ?_
  refine lv_istore (lv' := [(5, .int 0), (4, .int (nI (min rz n))), (0, .ref w0), (1, .int (nI rn)), (2, .ref c0), (3, .int p2)]) hx hb dX0_firstWrong_17 hl (by decide) rfl (fun ls hl => ?_)
  refine W_loop (σ := Nat) (fun (n_ : Nat) (ii_3 : Nat) (H : Heap) (locs : List Loc) (ls : Array Slot) => n_ = 25 - ii_3 ∧ (ii_3 ≤ min rz n) ∧ va_P D classes [(h0, .inr (5, [.ref h1, .ref h2, .ref h3, .ref h4])), (h1, .inl (k 1, 10, .inl (vv n see tm g))), (h3, .inl (k 1, 24, .inl fp)), (h4, .inl (k 1, 4, .inl fl)), (w0, .inr (0, [.ref h0, .ref w1, .ref w2, .ref w3, .ref w4])), (w1, .inl (k 1, 768, .inl on)), (c0, .inr (4, [.ref c1, .ref c2, .int (nI cc), .int (nI rz), .int ro, .int sd]))] H ∧ va_S (fun q : Nat => s.heap.size ≤ q) s.heap H locs ∧ lv_has ls 9 [(5, .int (nI ii_3)), (4, .int (nI (min rz n))), (0, .ref w0), (1, .int (nI rn)), (2, .ref c0), (3, .int p2)]) (fun n_3 x_3 H locs ls hI ih_3 => ?_) _ 0 ⟨rfl, (by omega), hP, hS, (lv_sub hl [0, 1, 2, 3, 4, 5] rfl)⟩
  obtain ⟨ii_3, rfl⟩ : ∃ z, z = x_3 := ⟨_, rfl⟩
  obtain ⟨hm_3, hv_3, hP, hS, hl⟩ := hI
  subst hm_3
  refine lv_iload hx hb dX0_firstWrong_19 (lv_at hl 0 rfl) ?_
  refine lv_iload hx hb dX0_firstWrong_21 (lv_at hl 1 rfl) ?_
  refine lv_icmp_ge (tgt := 133) hx hb dX0_firstWrong_23 (by decide) (fun c_4 => ?_) (fun c_4 => ?_)
  · have c_4 := (nI_leI (a := (min rz n)) (b := ii_3) (by omega) (by omega)).mp c_4
    refine lv_iconst (v := (-1)) hx hb dX0_firstWrong_133 (by decide) ?_
    exact W.iret (v := (-1)) hx hb hr (fun t ht hW => ⟨⟨(-1), (), rfl, trivial, trivial⟩, hS.F ht⟩) hS.2.2 dX0_firstWrong_134
  · have c_4 : ¬ ((min rz n) ≤ ii_3) := fun h => c_4 ((nI_leI (a := (min rz n)) (b := ii_3) (by omega) (by omega)).mpr h)
    refine lv_iload hx hb dX0_firstWrong_26 (lv_at hl 0 rfl) ?_
    refine lv_aload_n hx hb dX0_firstWrong_28 rfl (lv_at hl 2 rfl) ?_
    refine va_get (D := D) (ci := 0) (v := .ref h0) (C := RX0) (T := TX0) (N := 5) hx hb hts inX0 hown hK hP 4 rfl rfl 0 (by decide) (hts _ tw_266) (fun _ h9 => h9) rfl dX0_firstWrong_29 ?_
    refine va_get (D := D) (ci := 5) (v := .ref h1) (C := RX5) (T := TX5) (N := 4) hx hb hts inX5 hown hK hP 0 rfl rfl 0 (by decide) (hts _ tw_147) (fun _ h9 => h9) rfl dX0_firstWrong_32 ?_
    refine lv_bipush (v := 6) hx hb dX0_firstWrong_35 (by decide) ?_
    refine va_iald hx hb hK hP 1 1 rfl rfl (by unfold vp_in; decide) dX0_firstWrong_37 ?_
    refine lv_ti (y := (nI see)) (by rfl) ?_
    refine lv_iadd hx hb dX0_firstWrong_38 ?_
    refine lv_ti (y := (nI (ii_3 + see))) (nI_add ii_3 see) ?_
    refine lv_iconst (v := 1) hx hb dX0_firstWrong_39 (by decide) ?_
    refine lv_iadd hx hb dX0_firstWrong_40 ?_
    refine lv_ti (y := (nI (ii_3 + see + 1))) (nI_add (ii_3 + see) 1) ?_
    refine lv_aload_n hx hb dX0_firstWrong_41 rfl (lv_at hl 2 rfl) ?_
    refine va_get (D := D) (ci := 0) (v := .ref h0) (C := RX0) (T := TX0) (N := 5) hx hb hts inX0 hown hK hP 4 rfl rfl 0 (by decide) (hts _ tw_266) (fun _ h9 => h9) rfl dX0_firstWrong_42 ?_
    refine ro_i (D := D) (va_runV (As := []) (rest := [.int (nI (ii_3 + see + 1))]) ⟨hx, hb, hml, hown, hts⟩ ((x_doors l D k st lo h0 h1 h2 h3 h4 n see tm g) H.size) (cwV 0 hts (gV tw_531 tw_478 tw_479 tw_81 tw_480) rfl rfl rfl (by decide +kernel) ⟨Nat.le_of_ble_eq_true rfl, Nat.le_of_ble_eq_true rfl⟩) (pV hS hAlo hlo hP hK hDL hZ [0, 1] (by decide) rfl (ci := 5) (q0 := 0) rfl rfl) rfl rfl hl.1 rfl (lv_room (Nat.le_of_ble_eq_true rfl)) dX0_firstWrong_45 ⟨Nat.le_of_ble_eq_true rfl, Nat.le_of_ble_eq_true rfl⟩) hS hA hP (fun r_5 H locs hw_5 hP hS => ?_)
    try dsimp only at hw_5
    subst hw_5
    refine va_mmin hx hb (by rw [hml]; exact hl.1.symm) hown (hts _ tw_528) (hts _ tw_529) (hts _ tw_93) (hts _ tw_530) (Nat.le_of_ble_eq_true rfl) (Nat.le_of_ble_eq_true rfl) (Nat.le_of_ble_eq_true rfl) (Nat.le_of_ble_eq_true rfl) dX0_firstWrong_48 ?_
    refine lv_ti (y := (nI (min (ii_3 + see + 1) n))) (mminN (by omega) (by omega)) ?_
    refine lv_istore (lv' := [(6, .int (nI (min (ii_3 + see + 1) n))), (5, .int (nI ii_3)), (4, .int (nI (min rz n))), (0, .ref w0), (1, .int (nI rn)), (2, .ref c0), (3, .int p2)]) hx hb dX0_firstWrong_51 hl (by decide) rfl (fun ls hl => ?_)
    refine lv_iload hx hb dX0_firstWrong_53 (lv_at hl 0 rfl) ?_
    refine lv_iload hx hb dX0_firstWrong_55 (lv_at hl 2 rfl) ?_
    refine lv_icmp_gt (tgt := 127) hx hb dX0_firstWrong_57 (by decide) (fun c_7 => ?_) (fun c_7 => ?_)
    · have c_7 := (nI_ltI (a := (min rz n)) (b := (min (ii_3 + see + 1) n)) (by omega) (by omega)).mp c_7
      refine lv_iinc (v := (nI (ii_3 + 1))) (lv' := [(5, .int (nI (ii_3 + 1))), (6, .int (nI (min (ii_3 + see + 1) n))), (4, .int (nI (min rz n))), (0, .ref w0), (1, .int (nI rn)), (2, .ref c0), (3, .int p2)]) hx hb dX0_firstWrong_127 hl (k := 1) rfl (nI_add ii_3 1) (by decide) rfl (fun ls hl => ?_)
      refine lv_goto (tgt := 19) hx hb dX0_firstWrong_130 (by decide) ?_
      exact ih_3 _ (ii_3 + 1) _ _ _ (by omega) ⟨rfl, (by omega), hP, hS, (lv_sub hl [0, 2, 3, 4, 5, 6] rfl)⟩
    · have c_7 : ¬ ((min rz n) < (min (ii_3 + see + 1) n)) := fun h => c_7 ((nI_ltI (a := (min rz n)) (b := (min (ii_3 + see + 1) n)) (by omega) (by omega)).mpr h)
      refine lv_aload_n hx hb dX0_firstWrong_60 rfl (lv_at hl 5 rfl) ?_
      refine lv_iload hx hb dX0_firstWrong_61 (lv_at hl 1 rfl) ?_
      refine ro_i (D := D) (va_runV (As := [.int (nI ii_3)]) (rest := []) ⟨hx, hb, hml, hown, hts⟩ ((x_sawFree l D k st lo c0 c1 c2 cc rz ro sd (nI ii_3)) H.size) (cwV 1 hts (gV tw_760 tw_753 tw_754 tw_82 tw_755) rfl rfl rfl (by decide +kernel) ⟨Nat.le_of_ble_eq_true rfl, Nat.le_of_ble_eq_true rfl⟩) (pV hS hAlo hlo hP hK hDL hZ [6] (by decide) rfl (ci := 4) (q0 := 0) rfl rfl) rfl rfl hl.1 rfl (lv_room (Nat.le_of_ble_eq_true rfl)) dX0_firstWrong_63 ⟨Nat.le_of_ble_eq_true rfl, Nat.le_of_ble_eq_true rfl⟩) hS hA hP (fun r_8 H locs hw_8 hP hS => ?_)
      try dsimp only at hw_8
      rcases hw_8 with rfl | rfl
      · refine lv_if_eq (tgt := 127) hx hb dX0_firstWrong_66 (by decide) (fun h => absurd h (by decide)) (fun _ => ?_)
        refine lv_aload_n hx hb dX0_firstWrong_69 rfl (lv_at hl 5 rfl) ?_
        refine va_get (D := D) (ci := 4) (v := .int ro) (C := RX4) (T := TX4) (N := 6) hx hb hts inX4 hown hK hP 6 rfl rfl 4 (by decide) (hts _ tw_186) (fun _ h9 => h9) rfl dX0_firstWrong_70 ?_
        refine lv_iload hx hb dX0_firstWrong_73 (lv_at hl 1 rfl) ?_
        refine lv_ishr hx hb dX0_firstWrong_75 ?_
        refine lv_topi (fun x_9 ex_9 => ?_)
        refine lv_aload_n hx hb dX0_firstWrong_76 rfl (lv_at hl 3 rfl) ?_
        refine va_get (D := D) (ci := 0) (v := .ref h0) (C := RX0) (T := TX0) (N := 5) hx hb hts inX0 hown hK hP 4 rfl rfl 0 (by decide) (hts _ tw_266) (fun _ h9 => h9) rfl dX0_firstWrong_77 ?_
        refine lv_iload hx hb dX0_firstWrong_80 (lv_at hl 1 rfl) ?_
        refine ro_i (D := D) (va_runV (As := [.int (nI ii_3)]) (rest := [.int x_9]) ⟨hx, hb, hml, hown, hts⟩ ((x_sightsAt l D k st lo h0 h1 h2 h3 h4 n see tm g ii_3 (by omega) (by omega) (by omega)) H.size) (cwV 1 hts (gV tw_536 tw_537 tw_538 tw_81 tw_539) rfl rfl rfl (by decide +kernel) ⟨Nat.le_of_ble_eq_true rfl, Nat.le_of_ble_eq_true rfl⟩) (pV hS hAlo hlo hP hK hDL hZ [0, 1] (by decide) rfl (ci := 5) (q0 := 0) rfl rfl) rfl rfl hl.1 rfl (lv_room (Nat.le_of_ble_eq_true rfl)) dX0_firstWrong_82 ⟨Nat.le_of_ble_eq_true rfl, Nat.le_of_ble_eq_true rfl⟩) hS hA hP (fun r_10 H locs hw_10 hP hS => ?_)
        try dsimp only at hw_10
        obtain ⟨zs_11, rfl, hza_11, hzb_11, hzq_11⟩ := hw_10
        refine lv_iconst (v := 1) hx hb dX0_firstWrong_85 (by decide) ?_
        refine lv_isub hx hb dX0_firstWrong_86 ?_
        refine lv_ti (y := (nI zs_11 - 1)) rfl ?_
        obtain ⟨q_12, hq_12, eq_12⟩ := hzq_11
        obtain ⟨z_12, hz_12, ez_12⟩ := mk8 hq_12 x_9
        refine lv_iand hx hb dX0_firstWrong_87 ?_
        refine lv_ti (y := (nI z_12)) (by rw [eq_12]; exact ez_12) ?_
        refine lv_istore (lv' := [(7, .int (nI z_12)), (6, .int (nI (min (ii_3 + see + 1) n))), (5, .int (nI ii_3)), (4, .int (nI (min rz n))), (0, .ref w0), (1, .int (nI rn)), (2, .ref c0), (3, .int p2)]) hx hb dX0_firstWrong_88 hl (by decide) rfl (fun ls hl => ?_)
        refine lv_iload_n hx hb dX0_firstWrong_90 rfl (lv_at hl 7 rfl) ?_
        refine lv_if_eq (tgt := 107) hx hb dX0_firstWrong_91 (by decide) (fun c_13 => ?_) (fun c_13 => ?_)
        · refine lv_iconst (v := 0) hx hb dX0_firstWrong_107 (by decide) ?_
          refine lv_istore (lv' := [(8, .int 0), (7, .int (nI z_12)), (6, .int (nI (min (ii_3 + see + 1) n))), (5, .int (nI ii_3)), (4, .int (nI (min rz n))), (0, .ref w0), (1, .int (nI rn)), (2, .ref c0), (3, .int p2)]) hx hb dX0_firstWrong_108 hl (by decide) rfl (fun ls hl => ?_)
          refine lv_aload_n hx hb dX0_firstWrong_110 rfl (lv_at hl 5 rfl) ?_
          refine lv_iload_n hx hb dX0_firstWrong_111 rfl (lv_at hl 6 rfl) ?_
          refine lv_iload hx hb dX0_firstWrong_112 (lv_at hl 3 rfl) ?_
          refine lv_iload hx hb dX0_firstWrong_114 (lv_at hl 1 rfl) ?_
          refine ro_i (D := D) (va_runV (As := [.int (nI rn), .int (nI ii_3), .int (nI z_12)]) (rest := []) ⟨hx, hb, hml, hown, hts⟩ ((x_isTaken l D k st lo h0 h1 h2 h3 h4 n see tm g fp fl w0 w1 w2 w3 w4 on rn ii_3 z_12 (by omega) (by omega) (by omega)) H.size) (cwV 3 hts (gV tw_662 tw_638 tw_639 tw_85 tw_640) rfl rfl rfl (by decide +kernel) ⟨Nat.le_of_ble_eq_true rfl, Nat.le_of_ble_eq_true rfl⟩) (pV hS hAlo hlo hP hK hDL hZ [0, 1, 2, 3, 4, 5] (by decide) rfl (ci := 0) (q0 := 4) rfl rfl) rfl rfl hl.1 rfl (lv_room (Nat.le_of_ble_eq_true rfl)) dX0_firstWrong_116 ⟨Nat.le_of_ble_eq_true rfl, Nat.le_of_ble_eq_true rfl⟩) hS hA hP (fun r_14 H locs hw_14 hP hS => ?_)
          try dsimp only at hw_14
          rcases hw_14 with rfl | rfl
          · refine lv_iload hx hb dX0_firstWrong_119 (lv_at hl 0 rfl) ?_
            refine lv_icmp_eq (tgt := 127) hx hb dX0_firstWrong_121 (by decide) (fun h => absurd h (by decide)) (fun _ => ?_)
            refine lv_iload hx hb dX0_firstWrong_124 (lv_at hl 3 rfl) ?_
            exact W.iret (v := (nI ii_3)) hx hb hr (fun t ht hW => ⟨⟨(nI ii_3), (), rfl, trivial, trivial⟩, hS.F ht⟩) hS.2.2 dX0_firstWrong_126
          · refine lv_iload hx hb dX0_firstWrong_119 (lv_at hl 0 rfl) ?_
            refine lv_icmp_eq (tgt := 127) hx hb dX0_firstWrong_121 (by decide) (fun _ => ?_) (fun h => absurd (by decide) h)
            refine lv_iinc (v := (nI (ii_3 + 1))) (lv' := [(5, .int (nI (ii_3 + 1))), (8, .int 0), (7, .int (nI z_12)), (6, .int (nI (min (ii_3 + see + 1) n))), (4, .int (nI (min rz n))), (0, .ref w0), (1, .int (nI rn)), (2, .ref c0), (3, .int p2)]) hx hb dX0_firstWrong_127 hl (k := 3) rfl (nI_add ii_3 1) (by decide) rfl (fun ls hl => ?_)
            refine lv_goto (tgt := 19) hx hb dX0_firstWrong_130 (by decide) ?_
            exact ih_3 _ (ii_3 + 1) _ _ _ (by omega) ⟨rfl, (by omega), hP, hS, (lv_sub hl [0, 4, 5, 6, 7, 8] rfl)⟩
        · refine lv_iload hx hb dX0_firstWrong_94 (lv_at hl 2 rfl) ?_
          refine lv_iload hx hb dX0_firstWrong_96 (lv_at hl 3 rfl) ?_
          refine lv_iconst (v := 1) hx hb dX0_firstWrong_98 (by decide) ?_
          refine lv_isub hx hb dX0_firstWrong_99 ?_
          refine lv_ti (y := (nI ((min rz n) - 1))) (pk_sub (a := (min rz n)) (b := 1) (by omega)) ?_
          refine lv_icmp_ne (tgt := 107) hx hb dX0_firstWrong_100 (by decide) (fun c_15 => ?_) (fun c_15 => ?_)
          · have c_15 : ¬ (ii_3 = ((min rz n) - 1)) := fun h => c_15 ((nI_eq (a := ii_3) (b := ((min rz n) - 1)) (by omega) (by omega)).mpr h)
            refine lv_iconst (v := 0) hx hb dX0_firstWrong_107 (by decide) ?_
            refine lv_istore (lv' := [(8, .int 0), (7, .int (nI z_12)), (6, .int (nI (min (ii_3 + see + 1) n))), (5, .int (nI ii_3)), (4, .int (nI (min rz n))), (0, .ref w0), (1, .int (nI rn)), (2, .ref c0), (3, .int p2)]) hx hb dX0_firstWrong_108 hl (by decide) rfl (fun ls hl => ?_)
            refine lv_aload_n hx hb dX0_firstWrong_110 rfl (lv_at hl 5 rfl) ?_
            refine lv_iload_n hx hb dX0_firstWrong_111 rfl (lv_at hl 6 rfl) ?_
            refine lv_iload hx hb dX0_firstWrong_112 (lv_at hl 3 rfl) ?_
            refine lv_iload hx hb dX0_firstWrong_114 (lv_at hl 1 rfl) ?_
            refine ro_i (D := D) (va_runV (As := [.int (nI rn), .int (nI ii_3), .int (nI z_12)]) (rest := []) ⟨hx, hb, hml, hown, hts⟩ ((x_isTaken l D k st lo h0 h1 h2 h3 h4 n see tm g fp fl w0 w1 w2 w3 w4 on rn ii_3 z_12 (by omega) (by omega) (by omega)) H.size) (cwV 3 hts (gV tw_662 tw_638 tw_639 tw_85 tw_640) rfl rfl rfl (by decide +kernel) ⟨Nat.le_of_ble_eq_true rfl, Nat.le_of_ble_eq_true rfl⟩) (pV hS hAlo hlo hP hK hDL hZ [0, 1, 2, 3, 4, 5] (by decide) rfl (ci := 0) (q0 := 4) rfl rfl) rfl rfl hl.1 rfl (lv_room (Nat.le_of_ble_eq_true rfl)) dX0_firstWrong_116 ⟨Nat.le_of_ble_eq_true rfl, Nat.le_of_ble_eq_true rfl⟩) hS hA hP (fun r_16 H locs hw_16 hP hS => ?_)
            try dsimp only at hw_16
            rcases hw_16 with rfl | rfl
            · refine lv_iload hx hb dX0_firstWrong_119 (lv_at hl 0 rfl) ?_
              refine lv_icmp_eq (tgt := 127) hx hb dX0_firstWrong_121 (by decide) (fun h => absurd h (by decide)) (fun _ => ?_)
              refine lv_iload hx hb dX0_firstWrong_124 (lv_at hl 3 rfl) ?_
              exact W.iret (v := (nI ii_3)) hx hb hr (fun t ht hW => ⟨⟨(nI ii_3), (), rfl, trivial, trivial⟩, hS.F ht⟩) hS.2.2 dX0_firstWrong_126
            · refine lv_iload hx hb dX0_firstWrong_119 (lv_at hl 0 rfl) ?_
              refine lv_icmp_eq (tgt := 127) hx hb dX0_firstWrong_121 (by decide) (fun _ => ?_) (fun h => absurd (by decide) h)
              refine lv_iinc (v := (nI (ii_3 + 1))) (lv' := [(5, .int (nI (ii_3 + 1))), (8, .int 0), (7, .int (nI z_12)), (6, .int (nI (min (ii_3 + see + 1) n))), (4, .int (nI (min rz n))), (0, .ref w0), (1, .int (nI rn)), (2, .ref c0), (3, .int p2)]) hx hb dX0_firstWrong_127 hl (k := 3) rfl (nI_add ii_3 1) (by decide) rfl (fun ls hl => ?_)
              refine lv_goto (tgt := 19) hx hb dX0_firstWrong_130 (by decide) ?_
              exact ih_3 _ (ii_3 + 1) _ _ _ (by omega) ⟨rfl, (by omega), hP, hS, (lv_sub hl [0, 4, 5, 6, 7, 8] rfl)⟩
          · have c_15 := (nI_eq (a := ii_3) (b := ((min rz n) - 1)) (by omega) (by omega)).mp c_15
            refine lv_iconst (v := 1) hx hb dX0_firstWrong_103 (by decide) ?_
            refine lv_goto (tgt := 108) hx hb dX0_firstWrong_104 (by decide) ?_
            refine lv_istore (lv' := [(8, .int 1), (7, .int (nI z_12)), (6, .int (nI (min (ii_3 + see + 1) n))), (5, .int (nI ii_3)), (4, .int (nI (min rz n))), (0, .ref w0), (1, .int (nI rn)), (2, .ref c0), (3, .int p2)]) hx hb dX0_firstWrong_108 hl (by decide) rfl (fun ls hl => ?_)
            refine lv_aload_n hx hb dX0_firstWrong_110 rfl (lv_at hl 5 rfl) ?_
            refine lv_iload_n hx hb dX0_firstWrong_111 rfl (lv_at hl 6 rfl) ?_
            refine lv_iload hx hb dX0_firstWrong_112 (lv_at hl 3 rfl) ?_
            refine lv_iload hx hb dX0_firstWrong_114 (lv_at hl 1 rfl) ?_
            refine ro_i (D := D) (va_runV (As := [.int (nI rn), .int (nI ii_3), .int (nI z_12)]) (rest := []) ⟨hx, hb, hml, hown, hts⟩ ((x_isTaken l D k st lo h0 h1 h2 h3 h4 n see tm g fp fl w0 w1 w2 w3 w4 on rn ii_3 z_12 (by omega) (by omega) (by omega)) H.size) (cwV 3 hts (gV tw_662 tw_638 tw_639 tw_85 tw_640) rfl rfl rfl (by decide +kernel) ⟨Nat.le_of_ble_eq_true rfl, Nat.le_of_ble_eq_true rfl⟩) (pV hS hAlo hlo hP hK hDL hZ [0, 1, 2, 3, 4, 5] (by decide) rfl (ci := 0) (q0 := 4) rfl rfl) rfl rfl hl.1 rfl (lv_room (Nat.le_of_ble_eq_true rfl)) dX0_firstWrong_116 ⟨Nat.le_of_ble_eq_true rfl, Nat.le_of_ble_eq_true rfl⟩) hS hA hP (fun r_17 H locs hw_17 hP hS => ?_)
            try dsimp only at hw_17
            rcases hw_17 with rfl | rfl
            · refine lv_iload hx hb dX0_firstWrong_119 (lv_at hl 0 rfl) ?_
              refine lv_icmp_eq (tgt := 127) hx hb dX0_firstWrong_121 (by decide) (fun _ => ?_) (fun h => absurd (by decide) h)
              refine lv_iinc (v := (nI (ii_3 + 1))) (lv' := [(5, .int (nI (ii_3 + 1))), (8, .int 1), (7, .int (nI z_12)), (6, .int (nI (min (ii_3 + see + 1) n))), (4, .int (nI (min rz n))), (0, .ref w0), (1, .int (nI rn)), (2, .ref c0), (3, .int p2)]) hx hb dX0_firstWrong_127 hl (k := 3) rfl (nI_add ii_3 1) (by decide) rfl (fun ls hl => ?_)
              refine lv_goto (tgt := 19) hx hb dX0_firstWrong_130 (by decide) ?_
              exact ih_3 _ (ii_3 + 1) _ _ _ (by omega) ⟨rfl, (by omega), hP, hS, (lv_sub hl [0, 4, 5, 6, 7, 8] rfl)⟩
            · refine lv_iload hx hb dX0_firstWrong_119 (lv_at hl 0 rfl) ?_
              refine lv_icmp_eq (tgt := 127) hx hb dX0_firstWrong_121 (by decide) (fun h => absurd h (by decide)) (fun _ => ?_)
              refine lv_iload hx hb dX0_firstWrong_124 (lv_at hl 3 rfl) ?_
              exact W.iret (v := (nI ii_3)) hx hb hr (fun t ht hW => ⟨⟨(nI ii_3), (), rfl, trivial, trivial⟩, hS.F ht⟩) hS.2.2 dX0_firstWrong_126
      · refine lv_if_eq (tgt := 127) hx hb dX0_firstWrong_66 (by decide) (fun _ => ?_) (fun h => absurd (by decide) h)
        refine lv_iinc (v := (nI (ii_3 + 1))) (lv' := [(5, .int (nI (ii_3 + 1))), (6, .int (nI (min (ii_3 + see + 1) n))), (4, .int (nI (min rz n))), (0, .ref w0), (1, .int (nI rn)), (2, .ref c0), (3, .int p2)]) hx hb dX0_firstWrong_127 hl (k := 1) rfl (nI_add ii_3 1) (by decide) rfl (fun ls hl => ?_)
        refine lv_goto (tgt := 19) hx hb dX0_firstWrong_130 (by decide) ?_
        exact ih_3 _ (ii_3 + 1) _ _ _ (by omega) ⟨rfl, (by omega), hP, hS, (lv_sub hl [0, 2, 3, 4, 5, 6] rfl)⟩


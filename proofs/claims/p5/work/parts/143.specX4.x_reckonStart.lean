theorem dX0_reckonStart_0 : decode cX0_reckonStart 0 = .ok (.aload_n 0, 1) := by decide +kernel
theorem dX0_reckonStart_1 : decode cX0_reckonStart 1 = .ok (.getfield 24, 3) := by decide +kernel
theorem dX0_reckonStart_4 : decode cX0_reckonStart 4 = .ok (.iconst 0, 1) := by decide +kernel
theorem dX0_reckonStart_5 : decode cX0_reckonStart 5 = .ok (.invokevirtual 60, 3) := by decide +kernel
theorem dX0_reckonStart_8 : decode cX0_reckonStart 8 = .ok (.istore_n 2, 1) := by decide +kernel
theorem dX0_reckonStart_9 : decode cX0_reckonStart 9 = .ok (.iconst 0, 1) := by decide +kernel
theorem dX0_reckonStart_10 : decode cX0_reckonStart 10 = .ok (.istore_n 3, 1) := by decide +kernel
theorem dX0_reckonStart_11 : decode cX0_reckonStart 11 = .ok (.iload_n 3, 1) := by decide +kernel
theorem dX0_reckonStart_12 : decode cX0_reckonStart 12 = .ok (.iload_n 2, 1) := by decide +kernel
theorem dX0_reckonStart_13 : decode cX0_reckonStart 13 = .ok (.if_icmp .ge 28, 3) := by decide +kernel
theorem dX0_reckonStart_16 : decode cX0_reckonStart 16 = .ok (.iload_n 3, 1) := by decide +kernel
theorem dX0_reckonStart_17 : decode cX0_reckonStart 17 = .ok (.bipush 8, 2) := by decide +kernel
theorem dX0_reckonStart_19 : decode cX0_reckonStart 19 = .ok (.if_icmp .ge 22, 3) := by decide +kernel
theorem dX0_reckonStart_22 : decode cX0_reckonStart 22 = .ok (.aload_n 0, 1) := by decide +kernel
theorem dX0_reckonStart_23 : decode cX0_reckonStart 23 = .ok (.getfield 21, 3) := by decide +kernel
theorem dX0_reckonStart_26 : decode cX0_reckonStart 26 = .ok (.iload_n 3, 1) := by decide +kernel
theorem dX0_reckonStart_27 : decode cX0_reckonStart 27 = .ok (.aload_n 0, 1) := by decide +kernel
theorem dX0_reckonStart_28 : decode cX0_reckonStart 28 = .ok (.iload_n 1, 1) := by decide +kernel
theorem dX0_reckonStart_29 : decode cX0_reckonStart 29 = .ok (.iconst 0, 1) := by decide +kernel
theorem dX0_reckonStart_30 : decode cX0_reckonStart 30 = .ok (.iload_n 3, 1) := by decide +kernel
theorem dX0_reckonStart_31 : decode cX0_reckonStart 31 = .ok (.invokevirtual 73, 3) := by decide +kernel
theorem dX0_reckonStart_34 : decode cX0_reckonStart 34 = .ok (.iastore, 1) := by decide +kernel
theorem dX0_reckonStart_35 : decode cX0_reckonStart 35 = .ok (.iinc 3 1, 3) := by decide +kernel
theorem dX0_reckonStart_38 : decode cX0_reckonStart 38 = .ok (.goto (-27), 3) := by decide +kernel
theorem dX0_reckonStart_41 : decode cX0_reckonStart 41 = .ok (.aload_n 0, 1) := by decide +kernel
theorem dX0_reckonStart_42 : decode cX0_reckonStart 42 = .ok (.getfield 24, 3) := by decide +kernel
theorem dX0_reckonStart_45 : decode cX0_reckonStart 45 = .ok (.getfield 28, 3) := by decide +kernel
theorem dX0_reckonStart_48 : decode cX0_reckonStart 48 = .ok (.bipush 6, 2) := by decide +kernel
theorem dX0_reckonStart_50 : decode cX0_reckonStart 50 = .ok (.iaload, 1) := by decide +kernel
theorem dX0_reckonStart_51 : decode cX0_reckonStart 51 = .ok (.istore_n 3, 1) := by decide +kernel
theorem dX0_reckonStart_52 : decode cX0_reckonStart 52 = .ok (.iload_n 3, 1) := by decide +kernel
theorem dX0_reckonStart_53 : decode cX0_reckonStart 53 = .ok (.ifCond .lt 95, 3) := by decide +kernel
theorem dX0_reckonStart_56 : decode cX0_reckonStart 56 = .ok (.iconst 1, 1) := by decide +kernel
theorem dX0_reckonStart_57 : decode cX0_reckonStart 57 = .ok (.iload_n 3, 1) := by decide +kernel
theorem dX0_reckonStart_58 : decode cX0_reckonStart 58 = .ok (.ishl, 1) := by decide +kernel
theorem dX0_reckonStart_59 : decode cX0_reckonStart 59 = .ok (.istore 4, 2) := by decide +kernel
theorem dX0_reckonStart_61 : decode cX0_reckonStart 61 = .ok (.iconst 0, 1) := by decide +kernel
theorem dX0_reckonStart_62 : decode cX0_reckonStart 62 = .ok (.istore 5, 2) := by decide +kernel
theorem dX0_reckonStart_64 : decode cX0_reckonStart 64 = .ok (.iload 4, 2) := by decide +kernel
theorem dX0_reckonStart_66 : decode cX0_reckonStart 66 = .ok (.iload_n 2, 1) := by decide +kernel
theorem dX0_reckonStart_67 : decode cX0_reckonStart 67 = .ok (.if_icmp .ge 75, 3) := by decide +kernel
theorem dX0_reckonStart_70 : decode cX0_reckonStart 70 = .ok (.iload 5, 2) := by decide +kernel
theorem dX0_reckonStart_72 : decode cX0_reckonStart 72 = .ok (.iload 4, 2) := by decide +kernel
theorem dX0_reckonStart_74 : decode cX0_reckonStart 74 = .ok (.if_icmp .ge 68, 3) := by decide +kernel
theorem dX0_reckonStart_77 : decode cX0_reckonStart 77 = .ok (.iload_n 3, 1) := by decide +kernel
theorem dX0_reckonStart_78 : decode cX0_reckonStart 78 = .ok (.ifCond .le 18, 3) := by decide +kernel
theorem dX0_reckonStart_81 : decode cX0_reckonStart 81 = .ok (.iload 5, 2) := by decide +kernel
theorem dX0_reckonStart_83 : decode cX0_reckonStart 83 = .ok (.iload_n 3, 1) := by decide +kernel
theorem dX0_reckonStart_84 : decode cX0_reckonStart 84 = .ok (.iconst 1, 1) := by decide +kernel
theorem dX0_reckonStart_85 : decode cX0_reckonStart 85 = .ok (.isub, 1) := by decide +kernel
theorem dX0_reckonStart_86 : decode cX0_reckonStart 86 = .ok (.ishr, 1) := by decide +kernel
theorem dX0_reckonStart_87 : decode cX0_reckonStart 87 = .ok (.iconst 1, 1) := by decide +kernel
theorem dX0_reckonStart_88 : decode cX0_reckonStart 88 = .ok (.iand, 1) := by decide +kernel
theorem dX0_reckonStart_89 : decode cX0_reckonStart 89 = .ok (.ifCond .eq 7, 3) := by decide +kernel
theorem dX0_reckonStart_92 : decode cX0_reckonStart 92 = .ok (.iconst 1, 1) := by decide +kernel
theorem dX0_reckonStart_93 : decode cX0_reckonStart 93 = .ok (.goto 4, 3) := by decide +kernel
theorem dX0_reckonStart_96 : decode cX0_reckonStart 96 = .ok (.iconst 0, 1) := by decide +kernel
theorem dX0_reckonStart_97 : decode cX0_reckonStart 97 = .ok (.istore 6, 2) := by decide +kernel
theorem dX0_reckonStart_99 : decode cX0_reckonStart 99 = .ok (.aload_n 0, 1) := by decide +kernel
theorem dX0_reckonStart_100 : decode cX0_reckonStart 100 = .ok (.getfield 21, 3) := by decide +kernel
theorem dX0_reckonStart_103 : decode cX0_reckonStart 103 = .ok (.iload 5, 2) := by decide +kernel
theorem dX0_reckonStart_105 : decode cX0_reckonStart 105 = .ok (.aload_n 0, 1) := by decide +kernel
theorem dX0_reckonStart_106 : decode cX0_reckonStart 106 = .ok (.getfield 24, 3) := by decide +kernel
theorem dX0_reckonStart_109 : decode cX0_reckonStart 109 = .ok (.iload_n 3, 1) := by decide +kernel
theorem dX0_reckonStart_110 : decode cX0_reckonStart 110 = .ok (.iload 6, 2) := by decide +kernel
theorem dX0_reckonStart_112 : decode cX0_reckonStart 112 = .ok (.invokevirtual 76, 3) := by decide +kernel
theorem dX0_reckonStart_115 : decode cX0_reckonStart 115 = .ok (.aload_n 0, 1) := by decide +kernel
theorem dX0_reckonStart_116 : decode cX0_reckonStart 116 = .ok (.getfield 21, 3) := by decide +kernel
theorem dX0_reckonStart_119 : decode cX0_reckonStart 119 = .ok (.iload 5, 2) := by decide +kernel
theorem dX0_reckonStart_121 : decode cX0_reckonStart 121 = .ok (.iload 4, 2) := by decide +kernel
theorem dX0_reckonStart_123 : decode cX0_reckonStart 123 = .ok (.ior, 1) := by decide +kernel
theorem dX0_reckonStart_124 : decode cX0_reckonStart 124 = .ok (.iaload, 1) := by decide +kernel
theorem dX0_reckonStart_125 : decode cX0_reckonStart 125 = .ok (.aload_n 0, 1) := by decide +kernel
theorem dX0_reckonStart_126 : decode cX0_reckonStart 126 = .ok (.getfield 21, 3) := by decide +kernel
theorem dX0_reckonStart_129 : decode cX0_reckonStart 129 = .ok (.iload 5, 2) := by decide +kernel
theorem dX0_reckonStart_131 : decode cX0_reckonStart 131 = .ok (.iaload, 1) := by decide +kernel
theorem dX0_reckonStart_132 : decode cX0_reckonStart 132 = .ok (.invokestatic 80, 3) := by decide +kernel
theorem dX0_reckonStart_135 : decode cX0_reckonStart 135 = .ok (.iastore, 1) := by decide +kernel
theorem dX0_reckonStart_136 : decode cX0_reckonStart 136 = .ok (.iinc 5 1, 3) := by decide +kernel
theorem dX0_reckonStart_139 : decode cX0_reckonStart 139 = .ok (.goto (-75), 3) := by decide +kernel
theorem dX0_reckonStart_142 : decode cX0_reckonStart 142 = .ok (.iinc 3 (-1), 3) := by decide +kernel
theorem dX0_reckonStart_145 : decode cX0_reckonStart 145 = .ok (.goto (-93), 3) := by decide +kernel
theorem dX0_reckonStart_148 : decode cX0_reckonStart 148 = .ok (.aload_n 0, 1) := by decide +kernel
theorem dX0_reckonStart_149 : decode cX0_reckonStart 149 = .ok (.getfield 21, 3) := by decide +kernel
theorem dX0_reckonStart_152 : decode cX0_reckonStart 152 = .ok (.iconst 0, 1) := by decide +kernel
theorem dX0_reckonStart_153 : decode cX0_reckonStart 153 = .ok (.iaload, 1) := by decide +kernel
theorem dX0_reckonStart_154 : decode cX0_reckonStart 154 = .ok (.ireturn, 1) := by decide +kernel
set_option maxHeartbeats 4000000 in
set_option maxRecDepth 100000 in
theorem x_reckonStart (l : Launch) (D : va_G) (k : Nat → ClassId) (st : Nat → Nat) (lo : Nat) (h0 : Nat) (h1 : Nat) (h2 : Nat) (h3 : Nat) (h4 : Nat) (n : Nat) (see : Nat) (tm : Nat) (g : Nat → Int32) (ff : Nat → Int32) (fp : Nat → Int32) (fl : Nat → Int32) (w0 : Nat) (w1 : Nat) (w2 : Nat) (w3 : Nat) (w4 : Nat) (on : Nat → Int32) (fo : Nat → Int32) (rn : Nat) (hn : n ≤ 24) (hsee : see ≤ 2) (hrn : rn ≤ 3) : CWi l D k st lo yX0_reckonStart cX0_reckonStart 7 (some .int) ({ frames := 3, cells := 0, slots := 0, locals := 84 }) 0 0 [.ref w0, .int (nI rn)] [(h0, .inr (5, (fX5 h1 h2 h3 h4))), (aI k h1 10 (vv n see tm g)), (aI k h2 24 ff), (aI k h3 24 fp), (aI k h4 4 fl), (w0, .inr (0, (fX0 h0 w1 w2 w3 w4))), (aI k w1 768 on), (aI k w4 8 fo)] (fun (r : Int32) (fo_ : (Nat → Int32)) => True) (fun (fo_ : (Nat → Int32)) => [(h0, .inr (5, (fX5 h1 h2 h3 h4))), (aI k h1 10 (vv n see tm g)), (aI k h2 24 ff), (aI k h3 24 fp), (aI k h4 4 fl), (w0, .inr (0, (fX0 h0 w1 w2 w3 w4))), (aI k w1 768 on), (aI k w4 8 fo_)]) := by
  intro sz
  refine Met.ofW (cc := cX0_reckonStart) (maxL := 7) (ret := (some .int)) (by decide) rfl ?_
  intro p e s m args below meth c s₁ B hml hv
  obtain ⟨rfl, hsz, hlo, hP, hK, hDL, hZ⟩ := hv
  have hx := B.exec
  have hb := B.bytes
  have hr := B.returns
  have hts := WS_ts B.pre
  have hown : s.vm.findClass RX0 = some m.cls := findClass_of_methodNamed B.named
  have hlocks := B.notSynchronized
  subst hsz
  have hD := hDL.self (sz := s.heap.size)
  have hAlo := A_lo hDL hlo
  generalize hAe : va_A [(h0, .inr (5, (fX5 h1 h2 h3 h4))), (aI k h1 10 (vv n see tm g)), (aI k h2 24 ff), (aI k h3 24 fp), (aI k h4 4 fl), (w0, .inr (0, (fX0 h0 w1 w2 w3 w4))), (aI k w1 768 on), (aI k w4 8 fo)] s.heap.size = A at hD hAlo ⊢
  have hA : ∀ q : Nat, s.heap.size ≤ q → A q := fun q h => by rw [← hAe]; exact Or.inr h
  have hS : va_S A s.heap s.heap [] := va_S.rf
  have hl := lv_entry ([.ref w0, .int (nI rn)]) (n := 7) (Nat.le_of_ble_eq_true rfl)
  rw [lg_entry_eq]
  generalize (lg_sl ([.ref w0, .int (nI rn)]) ++ List.replicate (7 - (lg_sl ([.ref w0, .int (nI rn)])).length) Slot.unset).toArray = ls at hl ⊢
  have hl : lv_has ls 7 [(0, .ref w0), (1, .int (nI rn))] := hl
  refine lv_aload_n hx hb dX0_reckonStart_0 rfl (lv_at hl 0 rfl) ?_
  refine va_get (D := D) (ci := 0) (v := .ref h0) (C := RX0) (T := TX0) (N := 5) hx hb hts inX0 hown hK hP 5 rfl rfl 0 (by decide) (hts _ tw_266) (fun _ h9 => h9) rfl dX0_reckonStart_1 ?_
  refine lv_iconst (v := 0) hx hb dX0_reckonStart_4 (by decide) ?_
  refine ro_i (D := D) (va_runV (As := [.int 0]) (rest := []) ⟨hx, hb, hml, hown, hts⟩ ((x_sightsAt l D k st lo h0 h1 h2 h3 h4 n see tm g 0 (by omega) (by omega) (by omega)) s.heap.size) (cwV 1 hts (gV tw_536 tw_537 tw_538 tw_81 tw_539) rfl rfl rfl (by decide +kernel) ⟨Nat.le_of_ble_eq_true rfl, Nat.le_of_ble_eq_true rfl⟩) (pV hS hAlo hlo hP hK (va_Dlo hD hAlo) hZ [0, 1] (by decide) rfl (ci := 5) (q := (RX5, TX5, 4)) (q0 := 0) rfl rfl) rfl rfl hl.1 rfl (lv_room (Nat.le_of_ble_eq_true rfl)) dX0_reckonStart_5 ⟨Nat.le_of_ble_eq_true rfl, Nat.le_of_ble_eq_true rfl⟩) hS hA hP (fun r_1 H locs hw_1 hP hS => ?_)
  try dsimp only at hw_1
  obtain ⟨zs_2, rfl, hza_2, hzb_2, hzq_2⟩ := hw_1
  refine lv_istore_n (lv' := [(2, .int (nI zs_2)), (0, .ref w0), (1, .int (nI rn))]) hx hb dX0_reckonStart_8 rfl hl (by decide) rfl (fun ls hl => ?_)
  refine lv_iconst (v := 0) hx hb dX0_reckonStart_9 (by decide) ?_
  refine lv_istore_n (lv' := [(3, .int 0), (2, .int (nI zs_2)), (0, .ref w0), (1, .int (nI rn))]) hx hb dX0_reckonStart_10 rfl hl (by decide) rfl (fun ls hl => ?_)
  refine W_loop (σ := Nat × (Nat → Int32)) (fun (n_ : Nat) (x_ : Nat × (Nat → Int32)) (H : Heap) (locs : List Loc) (ls : Array Slot) => match x_ with | (g2_3, fo2_3) => n_ = 8 - g2_3 ∧ (g2_3 ≤ 8) ∧ va_P D classes [(h0, .inr (5, (fX5 h1 h2 h3 h4))), (aI k h1 10 (vv n see tm g)), (aI k h2 24 ff), (aI k h3 24 fp), (aI k h4 4 fl), (w0, .inr (0, (fX0 h0 w1 w2 w3 w4))), (aI k w1 768 on), (aI k w4 8 fo2_3)] H ∧ va_D A [(h0, .inr (5, (fX5 h1 h2 h3 h4))), (aI k h1 10 (vv n see tm g)), (aI k h2 24 ff), (aI k h3 24 fp), (aI k h4 4 fl), (w0, .inr (0, (fX0 h0 w1 w2 w3 w4))), (aI k w1 768 on), (aI k w4 8 fo2_3)] ∧ va_S A s.heap H locs ∧ lv_has ls 7 [(3, .int (nI g2_3)), (2, .int (nI zs_2)), (0, .ref w0), (1, .int (nI rn))]) (fun n_3 x_3 H locs ls hI ih_3 => ?_) _ (0, fo) ⟨rfl, (by omega), hP, hD, hS, (lv_sub hl [0, 1, 2, 3] rfl)⟩
  obtain ⟨g2_3, fo2_3⟩ := x_3
  obtain ⟨hm_3, hv_3, hP, hD, hS, hl⟩ := hI
  subst hm_3
  refine lv_iload_n hx hb dX0_reckonStart_11 rfl (lv_at hl 0 rfl) ?_
  refine lv_iload_n hx hb dX0_reckonStart_12 rfl (lv_at hl 1 rfl) ?_
  refine lv_icmp_ge (tgt := 41) hx hb dX0_reckonStart_13 (by decide) (fun c_4 => ?_) (fun c_4 => ?_)
  · have c_4 := (nI_leI (a := zs_2) (b := g2_3) (by omega) (by omega)).mp c_4
    refine lv_aload_n hx hb dX0_reckonStart_41 rfl (lv_at hl 2 rfl) ?_
    refine va_get (D := D) (ci := 0) (v := .ref h0) (C := RX0) (T := TX0) (N := 5) hx hb hts inX0 hown hK hP 5 rfl rfl 0 (by decide) (hts _ tw_266) (fun _ h9 => h9) rfl dX0_reckonStart_42 ?_
    refine va_get (D := D) (ci := 5) (v := .ref h1) (C := RX5) (T := TX5) (N := 4) hx hb hts inX5 hown hK hP 0 rfl rfl 0 (by decide) (hts _ tw_147) (fun _ h9 => h9) rfl dX0_reckonStart_45 ?_
    refine lv_bipush (v := 6) hx hb dX0_reckonStart_48 (by decide) ?_
    refine va_iald hx hb hK hP 1 1 rfl rfl (by unfold vp_in; decide) dX0_reckonStart_50 ?_
    refine lv_ti (y := (nI see)) (by rfl) ?_
    refine lv_istore_n (lv' := [(3, .int (nI see)), (2, .int (nI zs_2)), (0, .ref w0), (1, .int (nI rn))]) hx hb dX0_reckonStart_51 rfl hl (by decide) rfl (fun ls hl => ?_)
    refine W_loop (σ := Nat × (Nat → Int32)) (fun (n_ : Nat) (x_ : Nat × (Nat → Int32)) (H : Heap) (locs : List Loc) (ls : Array Slot) => match x_ with | (q_5, fo2_5) => n_ = 2 * q_5 ∧ (q_5 ≤ 3) ∧ va_P D classes [(h0, .inr (5, (fX5 h1 h2 h3 h4))), (aI k h1 10 (vv n see tm g)), (aI k h2 24 ff), (aI k h3 24 fp), (aI k h4 4 fl), (w0, .inr (0, (fX0 h0 w1 w2 w3 w4))), (aI k w1 768 on), (aI k w4 8 fo2_5)] H ∧ va_D A [(h0, .inr (5, (fX5 h1 h2 h3 h4))), (aI k h1 10 (vv n see tm g)), (aI k h2 24 ff), (aI k h3 24 fp), (aI k h4 4 fl), (w0, .inr (0, (fX0 h0 w1 w2 w3 w4))), (aI k w1 768 on), (aI k w4 8 fo2_5)] ∧ va_S A s.heap H locs ∧ lv_has ls 7 [(3, .int (nI q_5 - 1)), (2, .int (nI zs_2)), (0, .ref w0), (1, .int (nI rn))]) (fun n_5 x_5 H locs ls hI ih_5 => ?_) _ (see + 1, fo2_3) ⟨rfl, (by omega), hP, hD, hS, (by rw [nI_pred]; exact lv_sub hl [0, 1, 2, 3] rfl)⟩
    obtain ⟨q_5, fo2_5⟩ := x_5
    obtain ⟨hm_5, hv_5, hP, hD, hS, hl⟩ := hI
    subst hm_5
    rcases q_5 with _ | q_5
    · rw [dn0] at hl
      refine lv_iload_n hx hb dX0_reckonStart_52 rfl (lv_at hl 0 rfl) ?_
      refine lv_if_lt (tgt := 148) hx hb dX0_reckonStart_53 (by decide) (fun _ => ?_) (fun h => absurd (by decide) h)
      refine lv_aload_n hx hb dX0_reckonStart_148 rfl (lv_at hl 2 rfl) ?_
      refine va_get (D := D) (ci := 0) (v := .ref w4) (C := RX0) (T := TX0) (N := 5) hx hb hts inX0 hown hK hP 5 rfl rfl 4 (by decide) (hts _ tw_272) (fun _ h9 => h9) rfl dX0_reckonStart_149 ?_
      refine lv_iconst (v := 0) hx hb dX0_reckonStart_152 (by decide) ?_
      refine va_iald hx hb hK hP 7 1 rfl rfl (by unfold vp_in; decide) dX0_reckonStart_153 ?_
      refine lv_ti (y := (fo2_5 0)) (by rfl) ?_
      have hP9 := hP.sub (ws' := [(h0, .inr (5, (fX5 h1 h2 h3 h4))), (aI k h1 10 (vv n see tm g)), (aI k h2 24 ff), (aI k h3 24 fp), (aI k h4 4 fl), (w0, .inr (0, (fX0 h0 w1 w2 w3 w4))), (aI k w1 768 on), (aI k w4 8 fo2_5)]) [0, 1, 2, 3, 4, 5, 6, 7] rfl
      have hD9 := hD.sub (ws' := [(h0, .inr (5, (fX5 h1 h2 h3 h4))), (aI k h1 10 (vv n see tm g)), (aI k h2 24 ff), (aI k h3 24 fp), (aI k h4 4 fl), (w0, .inr (0, (fX0 h0 w1 w2 w3 w4))), (aI k w1 768 on), (aI k w4 8 fo2_5)]) [0, 1, 2, 3, 4, 5, 6, 7] (by decide) rfl
      exact W.iret (v := (fo2_5 0)) hx hb hr (fun t ht hW => ⟨⟨(fo2_5 0), fo2_5, rfl, trivial, by rw [ht]; exact hP9, hD9⟩, hS.F ht⟩) hS.2.2 dX0_reckonStart_154
    · rw [nI_pred] at hl
      refine lv_iload_n hx hb dX0_reckonStart_52 rfl (lv_at hl 0 rfl) ?_
      refine lv_if_lt (tgt := 148) hx hb dX0_reckonStart_53 (by decide) (fun h => absurd h (nI_pos0 (by omega))) (fun _ => ?_)
      refine lv_iconst (v := 1) hx hb dX0_reckonStart_56 (by decide) ?_
      refine lv_iload_n hx hb dX0_reckonStart_57 rfl (lv_at hl 0 rfl) ?_
      obtain ⟨pw_6, epw_6⟩ : ∃ z : Nat, z = 2 ^ (q_5) := ⟨_, rfl⟩
      have hpw_6 : 1 ≤ pw_6 ∧ pw_6 ≤ 4 := by rw [epw_6]; exact pw4 (by omega)
      refine lv_ishl hx hb dX0_reckonStart_58 ?_
      refine lv_ti (y := (nI pw_6)) (by rw [epw_6]; exact shl1 q_5 (by omega)) ?_
      refine lv_istore (lv' := [(4, .int (nI pw_6)), (3, .int (nI q_5)), (2, .int (nI zs_2)), (0, .ref w0), (1, .int (nI rn))]) hx hb dX0_reckonStart_59 hl (by decide) rfl (fun ls hl => ?_)
      refine lv_iconst (v := 0) hx hb dX0_reckonStart_61 (by decide) ?_
      refine lv_istore (lv' := [(5, .int 0), (4, .int (nI pw_6)), (3, .int (nI q_5)), (2, .int (nI zs_2)), (0, .ref w0), (1, .int (nI rn))]) hx hb dX0_reckonStart_62 hl (by decide) rfl (fun ls hl => ?_)
      refine W_loop (σ := Nat × (Nat → Int32)) (fun (n_ : Nat) (x_ : Nat × (Nat → Int32)) (H : Heap) (locs : List Loc) (ls : Array Slot) => match x_ with | (g2_7, fo2_7) => n_ = 5 - g2_7 ∧ (g2_7 ≤ 4) ∧ va_P D classes [(h0, .inr (5, (fX5 h1 h2 h3 h4))), (aI k h1 10 (vv n see tm g)), (aI k h2 24 ff), (aI k h3 24 fp), (aI k h4 4 fl), (w0, .inr (0, (fX0 h0 w1 w2 w3 w4))), (aI k w1 768 on), (aI k w4 8 fo2_7)] H ∧ va_D A [(h0, .inr (5, (fX5 h1 h2 h3 h4))), (aI k h1 10 (vv n see tm g)), (aI k h2 24 ff), (aI k h3 24 fp), (aI k h4 4 fl), (w0, .inr (0, (fX0 h0 w1 w2 w3 w4))), (aI k w1 768 on), (aI k w4 8 fo2_7)] ∧ va_S A s.heap H locs ∧ lv_has ls 7 [(5, .int (nI g2_7)), (4, .int (nI pw_6)), (3, .int (nI q_5)), (2, .int (nI zs_2)), (0, .ref w0), (1, .int (nI rn))]) (fun n_7 x_7 H locs ls hI ih_7 => ?_) _ (0, fo2_5) ⟨rfl, (by omega), hP, hD, hS, (lv_sub hl [0, 1, 2, 3, 4, 5] rfl)⟩
      obtain ⟨g2_7, fo2_7⟩ := x_7
      obtain ⟨hm_7, hv_7, hP, hD, hS, hl⟩ := hI
      subst hm_7
      refine lv_iload hx hb dX0_reckonStart_64 (lv_at hl 1 rfl) ?_
      refine lv_iload_n hx hb dX0_reckonStart_66 rfl (lv_at hl 3 rfl) ?_
      refine lv_icmp_ge (tgt := 142) hx hb dX0_reckonStart_67 (by decide) (fun c_8 => ?_) (fun c_8 => ?_)
      · have c_8 := (nI_leI (a := zs_2) (b := pw_6) (by omega) (by omega)).mp c_8
        refine lv_iinc (v := (nI q_5 - 1)) (lv' := [(3, .int (nI q_5 - 1)), (5, .int (nI g2_7)), (4, .int (nI pw_6)), (2, .int (nI zs_2)), (0, .ref w0), (1, .int (nI rn))]) hx hb dX0_reckonStart_142 hl (k := 2) rfl (dn1 _) (by decide) rfl (fun ls hl => ?_)
        refine lv_goto (tgt := 52) hx hb dX0_reckonStart_145 (by decide) ?_
        exact ih_5 _ (q_5, fo2_7) _ _ _ (by omega) ⟨rfl, (by omega), hP, hD, hS, (lv_sub hl [0, 3, 4, 5] rfl)⟩
      · have c_8 : ¬ (zs_2 ≤ pw_6) := fun h => c_8 ((nI_leI (a := zs_2) (b := pw_6) (by omega) (by omega)).mpr h)
        refine lv_iload hx hb dX0_reckonStart_70 (lv_at hl 0 rfl) ?_
        refine lv_iload hx hb dX0_reckonStart_72 (lv_at hl 1 rfl) ?_
        refine lv_icmp_ge (tgt := 142) hx hb dX0_reckonStart_74 (by decide) (fun c_9 => ?_) (fun c_9 => ?_)
        · have c_9 := (nI_leI (a := pw_6) (b := g2_7) (by omega) (by omega)).mp c_9
          refine lv_iinc (v := (nI q_5 - 1)) (lv' := [(3, .int (nI q_5 - 1)), (5, .int (nI g2_7)), (4, .int (nI pw_6)), (2, .int (nI zs_2)), (0, .ref w0), (1, .int (nI rn))]) hx hb dX0_reckonStart_142 hl (k := 2) rfl (dn1 _) (by decide) rfl (fun ls hl => ?_)
          refine lv_goto (tgt := 52) hx hb dX0_reckonStart_145 (by decide) ?_
          exact ih_5 _ (q_5, fo2_7) _ _ _ (by omega) ⟨rfl, (by omega), hP, hD, hS, (lv_sub hl [0, 3, 4, 5] rfl)⟩
        · have c_9 : ¬ (pw_6 ≤ g2_7) := fun h => c_9 ((nI_leI (a := pw_6) (b := g2_7) (by omega) (by omega)).mpr h)
          refine lv_iload_n hx hb dX0_reckonStart_77 rfl (lv_at hl 2 rfl) ?_
          refine lv_if_le (tgt := 96) hx hb dX0_reckonStart_78 (by decide) (fun c_10 => ?_) (fun c_10 => ?_)
          · have c_10 := (nI_leI (a := q_5) (b := 0) (by omega) (by omega)).mp c_10
            refine lv_iconst (v := 0) hx hb dX0_reckonStart_96 (by decide) ?_
            refine lv_istore (lv' := [(6, .int 0), (5, .int (nI g2_7)), (4, .int (nI pw_6)), (3, .int (nI q_5)), (2, .int (nI zs_2)), (0, .ref w0), (1, .int (nI rn))]) hx hb dX0_reckonStart_97 hl (by decide) rfl (fun ls hl => ?_)
            refine lv_aload_n hx hb dX0_reckonStart_99 rfl (lv_at hl 5 rfl) ?_
            refine va_get (D := D) (ci := 0) (v := .ref w4) (C := RX0) (T := TX0) (N := 5) hx hb hts inX0 hown hK hP 5 rfl rfl 4 (by decide) (hts _ tw_272) (fun _ h9 => h9) rfl dX0_reckonStart_100 ?_
            refine lv_iload hx hb dX0_reckonStart_103 (lv_at hl 1 rfl) ?_
            refine lv_aload_n hx hb dX0_reckonStart_105 rfl (lv_at hl 5 rfl) ?_
            refine va_get (D := D) (ci := 0) (v := .ref h0) (C := RX0) (T := TX0) (N := 5) hx hb hts inX0 hown hK hP 5 rfl rfl 0 (by decide) (hts _ tw_266) (fun _ h9 => h9) rfl dX0_reckonStart_106 ?_
            refine lv_iload_n hx hb dX0_reckonStart_109 rfl (lv_at hl 3 rfl) ?_
            refine lv_iload hx hb dX0_reckonStart_110 (lv_at hl 0 rfl) ?_
            refine ro_i (D := D) (va_runV (As := [.int (nI q_5), .int 0]) (rest := [.int (nI g2_7), .ref w4]) ⟨hx, hb, hml, hown, hts⟩ ((x_chanceOf l D k st lo h0 h1 h2 h3 h4 n see tm g ff q_5 0 (by omega)) H.size) (cwV 2 hts (gV tw_564 tw_565 tw_566 tw_81 tw_567) rfl rfl rfl (by decide +kernel) ⟨Nat.le_of_ble_eq_true rfl, Nat.le_of_ble_eq_true rfl⟩) (pV hS hAlo hlo hP hK (va_Dlo hD hAlo) hZ [0, 1, 2] (by decide) rfl (ci := 5) (q := (RX5, TX5, 4)) (q0 := 0) rfl rfl) rfl rfl hl.1 rfl (lv_room (Nat.le_of_ble_eq_true rfl)) dX0_reckonStart_112 ⟨Nat.le_of_ble_eq_true rfl, Nat.le_of_ble_eq_true rfl⟩) hS hA hP (fun r_11 H locs hw_11 hP hS => ?_)
            try dsimp only at hw_11
            refine lv_aload_n hx hb dX0_reckonStart_115 rfl (lv_at hl 5 rfl) ?_
            refine va_get (D := D) (ci := 0) (v := .ref w4) (C := RX0) (T := TX0) (N := 5) hx hb hts inX0 hown hK hP 5 rfl rfl 4 (by decide) (hts _ tw_272) (fun _ h9 => h9) rfl dX0_reckonStart_116 ?_
            refine lv_iload hx hb dX0_reckonStart_119 (lv_at hl 1 rfl) ?_
            refine lv_iload hx hb dX0_reckonStart_121 (lv_at hl 2 rfl) ?_
            obtain ⟨ov_12, hov_12, eov_12⟩ := or8 g2_7 (by omega) pw_6 (by omega)
            refine lv_ior hx hb dX0_reckonStart_123 ?_
            refine lv_ti (y := (nI ov_12)) eov_12 ?_
            refine va_iald hx hb hK hP 7 1 rfl rfl (vp_in_nI (by omega) (by decide)) dX0_reckonStart_124 ?_
            refine lv_ti (y := (fo2_7 ov_12)) (by rw [nI_clamp (by omega)]) ?_
            refine lv_aload_n hx hb dX0_reckonStart_125 rfl (lv_at hl 5 rfl) ?_
            refine va_get (D := D) (ci := 0) (v := .ref w4) (C := RX0) (T := TX0) (N := 5) hx hb hts inX0 hown hK hP 5 rfl rfl 4 (by decide) (hts _ tw_272) (fun _ h9 => h9) rfl dX0_reckonStart_126 ?_
            refine lv_iload hx hb dX0_reckonStart_129 (lv_at hl 1 rfl) ?_
            refine va_iald hx hb hK hP 7 1 rfl rfl (vp_in_nI (by omega) (by decide)) dX0_reckonStart_131 ?_
            refine lv_ti (y := (fo2_7 g2_7)) (by rw [nI_clamp (by omega)]) ?_
            refine ro_i (D := D) (va_runSN (As := [.int r_11, .int (fo2_7 ov_12), .int (fo2_7 g2_7)]) (rest := [.int (nI g2_7), .ref w4]) ⟨hx, hb, hml, hown, hts⟩ ((x_mixed l D k st lo r_11 (fo2_7 ov_12) (fo2_7 g2_7)) H.size) ⟨va_cnB 3 hts (gLW tw_570) rfl rfl rfl (hZ.2.2.2.2.2.2.2.2.1.1 (RX0, 80, yX7_mixed, RX7) (List.mem_of_getElem? (i := 5) rfl)) (hts _ tw_79) (by decide +kernel) ⟨Nat.le_of_ble_eq_true rfl, Nat.le_of_ble_eq_true rfl⟩, hts _ tw_569, trivial⟩ (pS hS hAlo hlo hP hK (va_Dlo hD hAlo) hZ [] (by decide) rfl) rfl rfl hl.1 rfl (lv_room (Nat.le_of_ble_eq_true rfl)) dX0_reckonStart_132 ⟨Nat.le_of_ble_eq_true rfl, Nat.le_of_ble_eq_true rfl⟩) hS hA hP (fun r_13 H locs hw_13 hP hS => ?_)
            try dsimp only at hw_13
            refine va_iast hx hb hK hP hD hS 7 1 rfl rfl (vp_in_nI (by omega) (by decide)) dX0_reckonStart_135 (fun H locs hP hD hS => ?_)
            replace hP : va_P D classes [(h0, .inr (5, (fX5 h1 h2 h3 h4))), (aI k h1 10 (vv n see tm g)), (aI k h2 24 ff), (aI k h3 24 fp), (aI k h4 4 fl), (w0, .inr (0, (fX0 h0 w1 w2 w3 w4))), (aI k w1 768 on), (aI k w4 8 (upd fo2_7 (Int32.toNatClampNeg (nI g2_7)) r_13))] H := hP
            replace hD : va_D A [(h0, .inr (5, (fX5 h1 h2 h3 h4))), (aI k h1 10 (vv n see tm g)), (aI k h2 24 ff), (aI k h3 24 fp), (aI k h4 4 fl), (w0, .inr (0, (fX0 h0 w1 w2 w3 w4))), (aI k w1 768 on), (aI k w4 8 (upd fo2_7 (Int32.toNatClampNeg (nI g2_7)) r_13))] := hD
            generalize (upd fo2_7 (Int32.toNatClampNeg (nI g2_7)) r_13) = f_14 at hP hD
            refine lv_iinc (v := (nI (g2_7 + 1))) (lv' := [(5, .int (nI (g2_7 + 1))), (6, .int 0), (4, .int (nI pw_6)), (3, .int (nI q_5)), (2, .int (nI zs_2)), (0, .ref w0), (1, .int (nI rn))]) hx hb dX0_reckonStart_136 hl (k := 1) rfl (nI_add g2_7 1) (by decide) rfl (fun ls hl => ?_)
            refine lv_goto (tgt := 64) hx hb dX0_reckonStart_139 (by decide) ?_
            exact ih_7 _ (g2_7 + 1, f_14) _ _ _ (by omega) ⟨rfl, (by omega), hP, hD, hS, (lv_sub hl [0, 2, 3, 4, 5, 6] rfl)⟩
          · have c_10 : ¬ (q_5 ≤ 0) := fun h => c_10 ((nI_leI (a := q_5) (b := 0) (by omega) (by omega)).mpr h)
            refine lv_iload hx hb dX0_reckonStart_81 (lv_at hl 0 rfl) ?_
            refine lv_iload_n hx hb dX0_reckonStart_83 rfl (lv_at hl 2 rfl) ?_
            refine lv_iconst (v := 1) hx hb dX0_reckonStart_84 (by decide) ?_
            refine lv_isub hx hb dX0_reckonStart_85 ?_
            refine lv_ti (y := (nI (q_5 - 1))) (pk_sub (a := q_5) (b := 1) (by omega)) ?_
            refine lv_ishr hx hb dX0_reckonStart_86 ?_
            refine lv_topi (fun x_15 ex_15 => ?_)
            refine lv_iconst (v := 1) hx hb dX0_reckonStart_87 (by decide) ?_
            refine lv_iand hx hb dX0_reckonStart_88 ?_
            refine lv_topi (fun x_16 ex_16 => ?_)
            refine lv_if_eq (tgt := 96) hx hb dX0_reckonStart_89 (by decide) (fun c_17 => ?_) (fun c_17 => ?_)
            · refine lv_iconst (v := 0) hx hb dX0_reckonStart_96 (by decide) ?_
              refine lv_istore (lv' := [(6, .int 0), (5, .int (nI g2_7)), (4, .int (nI pw_6)), (3, .int (nI q_5)), (2, .int (nI zs_2)), (0, .ref w0), (1, .int (nI rn))]) hx hb dX0_reckonStart_97 hl (by decide) rfl (fun ls hl => ?_)
              refine lv_aload_n hx hb dX0_reckonStart_99 rfl (lv_at hl 5 rfl) ?_
              refine va_get (D := D) (ci := 0) (v := .ref w4) (C := RX0) (T := TX0) (N := 5) hx hb hts inX0 hown hK hP 5 rfl rfl 4 (by decide) (hts _ tw_272) (fun _ h9 => h9) rfl dX0_reckonStart_100 ?_
              refine lv_iload hx hb dX0_reckonStart_103 (lv_at hl 1 rfl) ?_
              refine lv_aload_n hx hb dX0_reckonStart_105 rfl (lv_at hl 5 rfl) ?_
              refine va_get (D := D) (ci := 0) (v := .ref h0) (C := RX0) (T := TX0) (N := 5) hx hb hts inX0 hown hK hP 5 rfl rfl 0 (by decide) (hts _ tw_266) (fun _ h9 => h9) rfl dX0_reckonStart_106 ?_
              refine lv_iload_n hx hb dX0_reckonStart_109 rfl (lv_at hl 3 rfl) ?_
              refine lv_iload hx hb dX0_reckonStart_110 (lv_at hl 0 rfl) ?_
              refine ro_i (D := D) (va_runV (As := [.int (nI q_5), .int 0]) (rest := [.int (nI g2_7), .ref w4]) ⟨hx, hb, hml, hown, hts⟩ ((x_chanceOf l D k st lo h0 h1 h2 h3 h4 n see tm g ff q_5 0 (by omega)) H.size) (cwV 2 hts (gV tw_564 tw_565 tw_566 tw_81 tw_567) rfl rfl rfl (by decide +kernel) ⟨Nat.le_of_ble_eq_true rfl, Nat.le_of_ble_eq_true rfl⟩) (pV hS hAlo hlo hP hK (va_Dlo hD hAlo) hZ [0, 1, 2] (by decide) rfl (ci := 5) (q := (RX5, TX5, 4)) (q0 := 0) rfl rfl) rfl rfl hl.1 rfl (lv_room (Nat.le_of_ble_eq_true rfl)) dX0_reckonStart_112 ⟨Nat.le_of_ble_eq_true rfl, Nat.le_of_ble_eq_true rfl⟩) hS hA hP (fun r_18 H locs hw_18 hP hS => ?_)
              try dsimp only at hw_18
              refine lv_aload_n hx hb dX0_reckonStart_115 rfl (lv_at hl 5 rfl) ?_
              refine va_get (D := D) (ci := 0) (v := .ref w4) (C := RX0) (T := TX0) (N := 5) hx hb hts inX0 hown hK hP 5 rfl rfl 4 (by decide) (hts _ tw_272) (fun _ h9 => h9) rfl dX0_reckonStart_116 ?_
              refine lv_iload hx hb dX0_reckonStart_119 (lv_at hl 1 rfl) ?_
              refine lv_iload hx hb dX0_reckonStart_121 (lv_at hl 2 rfl) ?_
              obtain ⟨ov_19, hov_19, eov_19⟩ := or8 g2_7 (by omega) pw_6 (by omega)
              refine lv_ior hx hb dX0_reckonStart_123 ?_
              refine lv_ti (y := (nI ov_19)) eov_19 ?_
              refine va_iald hx hb hK hP 7 1 rfl rfl (vp_in_nI (by omega) (by decide)) dX0_reckonStart_124 ?_
              refine lv_ti (y := (fo2_7 ov_19)) (by rw [nI_clamp (by omega)]) ?_
              refine lv_aload_n hx hb dX0_reckonStart_125 rfl (lv_at hl 5 rfl) ?_
              refine va_get (D := D) (ci := 0) (v := .ref w4) (C := RX0) (T := TX0) (N := 5) hx hb hts inX0 hown hK hP 5 rfl rfl 4 (by decide) (hts _ tw_272) (fun _ h9 => h9) rfl dX0_reckonStart_126 ?_
              refine lv_iload hx hb dX0_reckonStart_129 (lv_at hl 1 rfl) ?_
              refine va_iald hx hb hK hP 7 1 rfl rfl (vp_in_nI (by omega) (by decide)) dX0_reckonStart_131 ?_
              refine lv_ti (y := (fo2_7 g2_7)) (by rw [nI_clamp (by omega)]) ?_
              refine ro_i (D := D) (va_runSN (As := [.int r_18, .int (fo2_7 ov_19), .int (fo2_7 g2_7)]) (rest := [.int (nI g2_7), .ref w4]) ⟨hx, hb, hml, hown, hts⟩ ((x_mixed l D k st lo r_18 (fo2_7 ov_19) (fo2_7 g2_7)) H.size) ⟨va_cnB 3 hts (gLW tw_570) rfl rfl rfl (hZ.2.2.2.2.2.2.2.2.1.1 (RX0, 80, yX7_mixed, RX7) (List.mem_of_getElem? (i := 5) rfl)) (hts _ tw_79) (by decide +kernel) ⟨Nat.le_of_ble_eq_true rfl, Nat.le_of_ble_eq_true rfl⟩, hts _ tw_569, trivial⟩ (pS hS hAlo hlo hP hK (va_Dlo hD hAlo) hZ [] (by decide) rfl) rfl rfl hl.1 rfl (lv_room (Nat.le_of_ble_eq_true rfl)) dX0_reckonStart_132 ⟨Nat.le_of_ble_eq_true rfl, Nat.le_of_ble_eq_true rfl⟩) hS hA hP (fun r_20 H locs hw_20 hP hS => ?_)
              try dsimp only at hw_20
              refine va_iast hx hb hK hP hD hS 7 1 rfl rfl (vp_in_nI (by omega) (by decide)) dX0_reckonStart_135 (fun H locs hP hD hS => ?_)
              replace hP : va_P D classes [(h0, .inr (5, (fX5 h1 h2 h3 h4))), (aI k h1 10 (vv n see tm g)), (aI k h2 24 ff), (aI k h3 24 fp), (aI k h4 4 fl), (w0, .inr (0, (fX0 h0 w1 w2 w3 w4))), (aI k w1 768 on), (aI k w4 8 (upd fo2_7 (Int32.toNatClampNeg (nI g2_7)) r_20))] H := hP
              replace hD : va_D A [(h0, .inr (5, (fX5 h1 h2 h3 h4))), (aI k h1 10 (vv n see tm g)), (aI k h2 24 ff), (aI k h3 24 fp), (aI k h4 4 fl), (w0, .inr (0, (fX0 h0 w1 w2 w3 w4))), (aI k w1 768 on), (aI k w4 8 (upd fo2_7 (Int32.toNatClampNeg (nI g2_7)) r_20))] := hD
              generalize (upd fo2_7 (Int32.toNatClampNeg (nI g2_7)) r_20) = f_21 at hP hD
              refine lv_iinc (v := (nI (g2_7 + 1))) (lv' := [(5, .int (nI (g2_7 + 1))), (6, .int 0), (4, .int (nI pw_6)), (3, .int (nI q_5)), (2, .int (nI zs_2)), (0, .ref w0), (1, .int (nI rn))]) hx hb dX0_reckonStart_136 hl (k := 1) rfl (nI_add g2_7 1) (by decide) rfl (fun ls hl => ?_)
              refine lv_goto (tgt := 64) hx hb dX0_reckonStart_139 (by decide) ?_
              exact ih_7 _ (g2_7 + 1, f_21) _ _ _ (by omega) ⟨rfl, (by omega), hP, hD, hS, (lv_sub hl [0, 2, 3, 4, 5, 6] rfl)⟩
            · refine lv_iconst (v := 1) hx hb dX0_reckonStart_92 (by decide) ?_
              refine lv_goto (tgt := 97) hx hb dX0_reckonStart_93 (by decide) ?_
              refine lv_istore (lv' := [(6, .int 1), (5, .int (nI g2_7)), (4, .int (nI pw_6)), (3, .int (nI q_5)), (2, .int (nI zs_2)), (0, .ref w0), (1, .int (nI rn))]) hx hb dX0_reckonStart_97 hl (by decide) rfl (fun ls hl => ?_)
              refine lv_aload_n hx hb dX0_reckonStart_99 rfl (lv_at hl 5 rfl) ?_
              refine va_get (D := D) (ci := 0) (v := .ref w4) (C := RX0) (T := TX0) (N := 5) hx hb hts inX0 hown hK hP 5 rfl rfl 4 (by decide) (hts _ tw_272) (fun _ h9 => h9) rfl dX0_reckonStart_100 ?_
              refine lv_iload hx hb dX0_reckonStart_103 (lv_at hl 1 rfl) ?_
              refine lv_aload_n hx hb dX0_reckonStart_105 rfl (lv_at hl 5 rfl) ?_
              refine va_get (D := D) (ci := 0) (v := .ref h0) (C := RX0) (T := TX0) (N := 5) hx hb hts inX0 hown hK hP 5 rfl rfl 0 (by decide) (hts _ tw_266) (fun _ h9 => h9) rfl dX0_reckonStart_106 ?_
              refine lv_iload_n hx hb dX0_reckonStart_109 rfl (lv_at hl 3 rfl) ?_
              refine lv_iload hx hb dX0_reckonStart_110 (lv_at hl 0 rfl) ?_
              refine ro_i (D := D) (va_runV (As := [.int (nI q_5), .int 1]) (rest := [.int (nI g2_7), .ref w4]) ⟨hx, hb, hml, hown, hts⟩ ((x_chanceOf l D k st lo h0 h1 h2 h3 h4 n see tm g ff q_5 1 (by omega)) H.size) (cwV 2 hts (gV tw_564 tw_565 tw_566 tw_81 tw_567) rfl rfl rfl (by decide +kernel) ⟨Nat.le_of_ble_eq_true rfl, Nat.le_of_ble_eq_true rfl⟩) (pV hS hAlo hlo hP hK (va_Dlo hD hAlo) hZ [0, 1, 2] (by decide) rfl (ci := 5) (q := (RX5, TX5, 4)) (q0 := 0) rfl rfl) rfl rfl hl.1 rfl (lv_room (Nat.le_of_ble_eq_true rfl)) dX0_reckonStart_112 ⟨Nat.le_of_ble_eq_true rfl, Nat.le_of_ble_eq_true rfl⟩) hS hA hP (fun r_22 H locs hw_22 hP hS => ?_)
              try dsimp only at hw_22
              refine lv_aload_n hx hb dX0_reckonStart_115 rfl (lv_at hl 5 rfl) ?_
              refine va_get (D := D) (ci := 0) (v := .ref w4) (C := RX0) (T := TX0) (N := 5) hx hb hts inX0 hown hK hP 5 rfl rfl 4 (by decide) (hts _ tw_272) (fun _ h9 => h9) rfl dX0_reckonStart_116 ?_
              refine lv_iload hx hb dX0_reckonStart_119 (lv_at hl 1 rfl) ?_
              refine lv_iload hx hb dX0_reckonStart_121 (lv_at hl 2 rfl) ?_
              obtain ⟨ov_23, hov_23, eov_23⟩ := or8 g2_7 (by omega) pw_6 (by omega)
              refine lv_ior hx hb dX0_reckonStart_123 ?_
              refine lv_ti (y := (nI ov_23)) eov_23 ?_
              refine va_iald hx hb hK hP 7 1 rfl rfl (vp_in_nI (by omega) (by decide)) dX0_reckonStart_124 ?_
              refine lv_ti (y := (fo2_7 ov_23)) (by rw [nI_clamp (by omega)]) ?_
              refine lv_aload_n hx hb dX0_reckonStart_125 rfl (lv_at hl 5 rfl) ?_
              refine va_get (D := D) (ci := 0) (v := .ref w4) (C := RX0) (T := TX0) (N := 5) hx hb hts inX0 hown hK hP 5 rfl rfl 4 (by decide) (hts _ tw_272) (fun _ h9 => h9) rfl dX0_reckonStart_126 ?_
              refine lv_iload hx hb dX0_reckonStart_129 (lv_at hl 1 rfl) ?_
              refine va_iald hx hb hK hP 7 1 rfl rfl (vp_in_nI (by omega) (by decide)) dX0_reckonStart_131 ?_
              refine lv_ti (y := (fo2_7 g2_7)) (by rw [nI_clamp (by omega)]) ?_
              refine ro_i (D := D) (va_runSN (As := [.int r_22, .int (fo2_7 ov_23), .int (fo2_7 g2_7)]) (rest := [.int (nI g2_7), .ref w4]) ⟨hx, hb, hml, hown, hts⟩ ((x_mixed l D k st lo r_22 (fo2_7 ov_23) (fo2_7 g2_7)) H.size) ⟨va_cnB 3 hts (gLW tw_570) rfl rfl rfl (hZ.2.2.2.2.2.2.2.2.1.1 (RX0, 80, yX7_mixed, RX7) (List.mem_of_getElem? (i := 5) rfl)) (hts _ tw_79) (by decide +kernel) ⟨Nat.le_of_ble_eq_true rfl, Nat.le_of_ble_eq_true rfl⟩, hts _ tw_569, trivial⟩ (pS hS hAlo hlo hP hK (va_Dlo hD hAlo) hZ [] (by decide) rfl) rfl rfl hl.1 rfl (lv_room (Nat.le_of_ble_eq_true rfl)) dX0_reckonStart_132 ⟨Nat.le_of_ble_eq_true rfl, Nat.le_of_ble_eq_true rfl⟩) hS hA hP (fun r_24 H locs hw_24 hP hS => ?_)
              try dsimp only at hw_24
              refine va_iast hx hb hK hP hD hS 7 1 rfl rfl (vp_in_nI (by omega) (by decide)) dX0_reckonStart_135 (fun H locs hP hD hS => ?_)
              replace hP : va_P D classes [(h0, .inr (5, (fX5 h1 h2 h3 h4))), (aI k h1 10 (vv n see tm g)), (aI k h2 24 ff), (aI k h3 24 fp), (aI k h4 4 fl), (w0, .inr (0, (fX0 h0 w1 w2 w3 w4))), (aI k w1 768 on), (aI k w4 8 (upd fo2_7 (Int32.toNatClampNeg (nI g2_7)) r_24))] H := hP
              replace hD : va_D A [(h0, .inr (5, (fX5 h1 h2 h3 h4))), (aI k h1 10 (vv n see tm g)), (aI k h2 24 ff), (aI k h3 24 fp), (aI k h4 4 fl), (w0, .inr (0, (fX0 h0 w1 w2 w3 w4))), (aI k w1 768 on), (aI k w4 8 (upd fo2_7 (Int32.toNatClampNeg (nI g2_7)) r_24))] := hD
              generalize (upd fo2_7 (Int32.toNatClampNeg (nI g2_7)) r_24) = f_25 at hP hD
              refine lv_iinc (v := (nI (g2_7 + 1))) (lv' := [(5, .int (nI (g2_7 + 1))), (6, .int 1), (4, .int (nI pw_6)), (3, .int (nI q_5)), (2, .int (nI zs_2)), (0, .ref w0), (1, .int (nI rn))]) hx hb dX0_reckonStart_136 hl (k := 1) rfl (nI_add g2_7 1) (by decide) rfl (fun ls hl => ?_)
              refine lv_goto (tgt := 64) hx hb dX0_reckonStart_139 (by decide) ?_
              exact ih_7 _ (g2_7 + 1, f_25) _ _ _ (by omega) ⟨rfl, (by omega), hP, hD, hS, (lv_sub hl [0, 2, 3, 4, 5, 6] rfl)⟩
  · have c_4 : ¬ (zs_2 ≤ g2_3) := fun h => c_4 ((nI_leI (a := zs_2) (b := g2_3) (by omega) (by omega)).mpr h)
    refine lv_iload_n hx hb dX0_reckonStart_16 rfl (lv_at hl 0 rfl) ?_
    refine lv_bipush (v := 8) hx hb dX0_reckonStart_17 (by decide) ?_
    refine lv_icmp_ge (tgt := 41) hx hb dX0_reckonStart_19 (by decide) (fun c_26 => ?_) (fun c_26 => ?_)
    · have c_26 := (nI_leI (a := 8) (b := g2_3) (by omega) (by omega)).mp c_26
      refine lv_aload_n hx hb dX0_reckonStart_41 rfl (lv_at hl 2 rfl) ?_
      refine va_get (D := D) (ci := 0) (v := .ref h0) (C := RX0) (T := TX0) (N := 5) hx hb hts inX0 hown hK hP 5 rfl rfl 0 (by decide) (hts _ tw_266) (fun _ h9 => h9) rfl dX0_reckonStart_42 ?_
      refine va_get (D := D) (ci := 5) (v := .ref h1) (C := RX5) (T := TX5) (N := 4) hx hb hts inX5 hown hK hP 0 rfl rfl 0 (by decide) (hts _ tw_147) (fun _ h9 => h9) rfl dX0_reckonStart_45 ?_
      refine lv_bipush (v := 6) hx hb dX0_reckonStart_48 (by decide) ?_
      refine va_iald hx hb hK hP 1 1 rfl rfl (by unfold vp_in; decide) dX0_reckonStart_50 ?_
      refine lv_ti (y := (nI see)) (by rfl) ?_
      refine lv_istore_n (lv' := [(3, .int (nI see)), (2, .int (nI zs_2)), (0, .ref w0), (1, .int (nI rn))]) hx hb dX0_reckonStart_51 rfl hl (by decide) rfl (fun ls hl => ?_)
      refine W_loop (σ := Nat × (Nat → Int32)) (fun (n_ : Nat) (x_ : Nat × (Nat → Int32)) (H : Heap) (locs : List Loc) (ls : Array Slot) => match x_ with | (q_27, fo2_27) => n_ = 2 * q_27 ∧ (q_27 ≤ 3) ∧ va_P D classes [(h0, .inr (5, (fX5 h1 h2 h3 h4))), (aI k h1 10 (vv n see tm g)), (aI k h2 24 ff), (aI k h3 24 fp), (aI k h4 4 fl), (w0, .inr (0, (fX0 h0 w1 w2 w3 w4))), (aI k w1 768 on), (aI k w4 8 fo2_27)] H ∧ va_D A [(h0, .inr (5, (fX5 h1 h2 h3 h4))), (aI k h1 10 (vv n see tm g)), (aI k h2 24 ff), (aI k h3 24 fp), (aI k h4 4 fl), (w0, .inr (0, (fX0 h0 w1 w2 w3 w4))), (aI k w1 768 on), (aI k w4 8 fo2_27)] ∧ va_S A s.heap H locs ∧ lv_has ls 7 [(3, .int (nI q_27 - 1)), (2, .int (nI zs_2)), (0, .ref w0), (1, .int (nI rn))]) (fun n_27 x_27 H locs ls hI ih_27 => ?_) _ (see + 1, fo2_3) ⟨rfl, (by omega), hP, hD, hS, (by rw [nI_pred]; exact lv_sub hl [0, 1, 2, 3] rfl)⟩
      obtain ⟨q_27, fo2_27⟩ := x_27
      obtain ⟨hm_27, hv_27, hP, hD, hS, hl⟩ := hI
      subst hm_27
      rcases q_27 with _ | q_27
      · rw [dn0] at hl
        refine lv_iload_n hx hb dX0_reckonStart_52 rfl (lv_at hl 0 rfl) ?_
        refine lv_if_lt (tgt := 148) hx hb dX0_reckonStart_53 (by decide) (fun _ => ?_) (fun h => absurd (by decide) h)
        refine lv_aload_n hx hb dX0_reckonStart_148 rfl (lv_at hl 2 rfl) ?_
        refine va_get (D := D) (ci := 0) (v := .ref w4) (C := RX0) (T := TX0) (N := 5) hx hb hts inX0 hown hK hP 5 rfl rfl 4 (by decide) (hts _ tw_272) (fun _ h9 => h9) rfl dX0_reckonStart_149 ?_
        refine lv_iconst (v := 0) hx hb dX0_reckonStart_152 (by decide) ?_
        refine va_iald hx hb hK hP 7 1 rfl rfl (by unfold vp_in; decide) dX0_reckonStart_153 ?_
        refine lv_ti (y := (fo2_27 0)) (by rfl) ?_
        have hP9 := hP.sub (ws' := [(h0, .inr (5, (fX5 h1 h2 h3 h4))), (aI k h1 10 (vv n see tm g)), (aI k h2 24 ff), (aI k h3 24 fp), (aI k h4 4 fl), (w0, .inr (0, (fX0 h0 w1 w2 w3 w4))), (aI k w1 768 on), (aI k w4 8 fo2_27)]) [0, 1, 2, 3, 4, 5, 6, 7] rfl
        have hD9 := hD.sub (ws' := [(h0, .inr (5, (fX5 h1 h2 h3 h4))), (aI k h1 10 (vv n see tm g)), (aI k h2 24 ff), (aI k h3 24 fp), (aI k h4 4 fl), (w0, .inr (0, (fX0 h0 w1 w2 w3 w4))), (aI k w1 768 on), (aI k w4 8 fo2_27)]) [0, 1, 2, 3, 4, 5, 6, 7] (by decide) rfl
        exact W.iret (v := (fo2_27 0)) hx hb hr (fun t ht hW => ⟨⟨(fo2_27 0), fo2_27, rfl, trivial, by rw [ht]; exact hP9, hD9⟩, hS.F ht⟩) hS.2.2 dX0_reckonStart_154
      · rw [nI_pred] at hl
        refine lv_iload_n hx hb dX0_reckonStart_52 rfl (lv_at hl 0 rfl) ?_
        refine lv_if_lt (tgt := 148) hx hb dX0_reckonStart_53 (by decide) (fun h => absurd h (nI_pos0 (by omega))) (fun _ => ?_)
        refine lv_iconst (v := 1) hx hb dX0_reckonStart_56 (by decide) ?_
        refine lv_iload_n hx hb dX0_reckonStart_57 rfl (lv_at hl 0 rfl) ?_
        obtain ⟨pw_28, epw_28⟩ : ∃ z : Nat, z = 2 ^ (q_27) := ⟨_, rfl⟩
        have hpw_28 : 1 ≤ pw_28 ∧ pw_28 ≤ 4 := by rw [epw_28]; exact pw4 (by omega)
        refine lv_ishl hx hb dX0_reckonStart_58 ?_
        refine lv_ti (y := (nI pw_28)) (by rw [epw_28]; exact shl1 q_27 (by omega)) ?_
        refine lv_istore (lv' := [(4, .int (nI pw_28)), (3, .int (nI q_27)), (2, .int (nI zs_2)), (0, .ref w0), (1, .int (nI rn))]) hx hb dX0_reckonStart_59 hl (by decide) rfl (fun ls hl => ?_)
        refine lv_iconst (v := 0) hx hb dX0_reckonStart_61 (by decide) ?_
        refine lv_istore (lv' := [(5, .int 0), (4, .int (nI pw_28)), (3, .int (nI q_27)), (2, .int (nI zs_2)), (0, .ref w0), (1, .int (nI rn))]) hx hb dX0_reckonStart_62 hl (by decide) rfl (fun ls hl => ?_)
        refine W_loop (σ := Nat × (Nat → Int32)) (fun (n_ : Nat) (x_ : Nat × (Nat → Int32)) (H : Heap) (locs : List Loc) (ls : Array Slot) => match x_ with | (g2_29, fo2_29) => n_ = 5 - g2_29 ∧ (g2_29 ≤ 4) ∧ va_P D classes [(h0, .inr (5, (fX5 h1 h2 h3 h4))), (aI k h1 10 (vv n see tm g)), (aI k h2 24 ff), (aI k h3 24 fp), (aI k h4 4 fl), (w0, .inr (0, (fX0 h0 w1 w2 w3 w4))), (aI k w1 768 on), (aI k w4 8 fo2_29)] H ∧ va_D A [(h0, .inr (5, (fX5 h1 h2 h3 h4))), (aI k h1 10 (vv n see tm g)), (aI k h2 24 ff), (aI k h3 24 fp), (aI k h4 4 fl), (w0, .inr (0, (fX0 h0 w1 w2 w3 w4))), (aI k w1 768 on), (aI k w4 8 fo2_29)] ∧ va_S A s.heap H locs ∧ lv_has ls 7 [(5, .int (nI g2_29)), (4, .int (nI pw_28)), (3, .int (nI q_27)), (2, .int (nI zs_2)), (0, .ref w0), (1, .int (nI rn))]) (fun n_29 x_29 H locs ls hI ih_29 => ?_) _ (0, fo2_27) ⟨rfl, (by omega), hP, hD, hS, (lv_sub hl [0, 1, 2, 3, 4, 5] rfl)⟩
        obtain ⟨g2_29, fo2_29⟩ := x_29
        obtain ⟨hm_29, hv_29, hP, hD, hS, hl⟩ := hI
        subst hm_29
        refine lv_iload hx hb dX0_reckonStart_64 (lv_at hl 1 rfl) ?_
        refine lv_iload_n hx hb dX0_reckonStart_66 rfl (lv_at hl 3 rfl) ?_
        refine lv_icmp_ge (tgt := 142) hx hb dX0_reckonStart_67 (by decide) (fun c_30 => ?_) (fun c_30 => ?_)
        · have c_30 := (nI_leI (a := zs_2) (b := pw_28) (by omega) (by omega)).mp c_30
          refine lv_iinc (v := (nI q_27 - 1)) (lv' := [(3, .int (nI q_27 - 1)), (5, .int (nI g2_29)), (4, .int (nI pw_28)), (2, .int (nI zs_2)), (0, .ref w0), (1, .int (nI rn))]) hx hb dX0_reckonStart_142 hl (k := 2) rfl (dn1 _) (by decide) rfl (fun ls hl => ?_)
          refine lv_goto (tgt := 52) hx hb dX0_reckonStart_145 (by decide) ?_
          exact ih_27 _ (q_27, fo2_29) _ _ _ (by omega) ⟨rfl, (by omega), hP, hD, hS, (lv_sub hl [0, 3, 4, 5] rfl)⟩
        · have c_30 : ¬ (zs_2 ≤ pw_28) := fun h => c_30 ((nI_leI (a := zs_2) (b := pw_28) (by omega) (by omega)).mpr h)
          refine lv_iload hx hb dX0_reckonStart_70 (lv_at hl 0 rfl) ?_
          refine lv_iload hx hb dX0_reckonStart_72 (lv_at hl 1 rfl) ?_
          refine lv_icmp_ge (tgt := 142) hx hb dX0_reckonStart_74 (by decide) (fun c_31 => ?_) (fun c_31 => ?_)
          · have c_31 := (nI_leI (a := pw_28) (b := g2_29) (by omega) (by omega)).mp c_31
            refine lv_iinc (v := (nI q_27 - 1)) (lv' := [(3, .int (nI q_27 - 1)), (5, .int (nI g2_29)), (4, .int (nI pw_28)), (2, .int (nI zs_2)), (0, .ref w0), (1, .int (nI rn))]) hx hb dX0_reckonStart_142 hl (k := 2) rfl (dn1 _) (by decide) rfl (fun ls hl => ?_)
            refine lv_goto (tgt := 52) hx hb dX0_reckonStart_145 (by decide) ?_
            exact ih_27 _ (q_27, fo2_29) _ _ _ (by omega) ⟨rfl, (by omega), hP, hD, hS, (lv_sub hl [0, 3, 4, 5] rfl)⟩
          · have c_31 : ¬ (pw_28 ≤ g2_29) := fun h => c_31 ((nI_leI (a := pw_28) (b := g2_29) (by omega) (by omega)).mpr h)
            refine lv_iload_n hx hb dX0_reckonStart_77 rfl (lv_at hl 2 rfl) ?_
            refine lv_if_le (tgt := 96) hx hb dX0_reckonStart_78 (by decide) (fun c_32 => ?_) (fun c_32 => ?_)
            · have c_32 := (nI_leI (a := q_27) (b := 0) (by omega) (by omega)).mp c_32
              refine lv_iconst (v := 0) hx hb dX0_reckonStart_96 (by decide) ?_
              refine lv_istore (lv' := [(6, .int 0), (5, .int (nI g2_29)), (4, .int (nI pw_28)), (3, .int (nI q_27)), (2, .int (nI zs_2)), (0, .ref w0), (1, .int (nI rn))]) hx hb dX0_reckonStart_97 hl (by decide) rfl (fun ls hl => ?_)
              refine lv_aload_n hx hb dX0_reckonStart_99 rfl (lv_at hl 5 rfl) ?_
              refine va_get (D := D) (ci := 0) (v := .ref w4) (C := RX0) (T := TX0) (N := 5) hx hb hts inX0 hown hK hP 5 rfl rfl 4 (by decide) (hts _ tw_272) (fun _ h9 => h9) rfl dX0_reckonStart_100 ?_
              refine lv_iload hx hb dX0_reckonStart_103 (lv_at hl 1 rfl) ?_
              refine lv_aload_n hx hb dX0_reckonStart_105 rfl (lv_at hl 5 rfl) ?_
              refine va_get (D := D) (ci := 0) (v := .ref h0) (C := RX0) (T := TX0) (N := 5) hx hb hts inX0 hown hK hP 5 rfl rfl 0 (by decide) (hts _ tw_266) (fun _ h9 => h9) rfl dX0_reckonStart_106 ?_
              refine lv_iload_n hx hb dX0_reckonStart_109 rfl (lv_at hl 3 rfl) ?_
              refine lv_iload hx hb dX0_reckonStart_110 (lv_at hl 0 rfl) ?_
              refine ro_i (D := D) (va_runV (As := [.int (nI q_27), .int 0]) (rest := [.int (nI g2_29), .ref w4]) ⟨hx, hb, hml, hown, hts⟩ ((x_chanceOf l D k st lo h0 h1 h2 h3 h4 n see tm g ff q_27 0 (by omega)) H.size) (cwV 2 hts (gV tw_564 tw_565 tw_566 tw_81 tw_567) rfl rfl rfl (by decide +kernel) ⟨Nat.le_of_ble_eq_true rfl, Nat.le_of_ble_eq_true rfl⟩) (pV hS hAlo hlo hP hK (va_Dlo hD hAlo) hZ [0, 1, 2] (by decide) rfl (ci := 5) (q := (RX5, TX5, 4)) (q0 := 0) rfl rfl) rfl rfl hl.1 rfl (lv_room (Nat.le_of_ble_eq_true rfl)) dX0_reckonStart_112 ⟨Nat.le_of_ble_eq_true rfl, Nat.le_of_ble_eq_true rfl⟩) hS hA hP (fun r_33 H locs hw_33 hP hS => ?_)
              try dsimp only at hw_33
              refine lv_aload_n hx hb dX0_reckonStart_115 rfl (lv_at hl 5 rfl) ?_
              refine va_get (D := D) (ci := 0) (v := .ref w4) (C := RX0) (T := TX0) (N := 5) hx hb hts inX0 hown hK hP 5 rfl rfl 4 (by decide) (hts _ tw_272) (fun _ h9 => h9) rfl dX0_reckonStart_116 ?_
              refine lv_iload hx hb dX0_reckonStart_119 (lv_at hl 1 rfl) ?_
              refine lv_iload hx hb dX0_reckonStart_121 (lv_at hl 2 rfl) ?_
              obtain ⟨ov_34, hov_34, eov_34⟩ := or8 g2_29 (by omega) pw_28 (by omega)
              refine lv_ior hx hb dX0_reckonStart_123 ?_
              refine lv_ti (y := (nI ov_34)) eov_34 ?_
              refine va_iald hx hb hK hP 7 1 rfl rfl (vp_in_nI (by omega) (by decide)) dX0_reckonStart_124 ?_
              refine lv_ti (y := (fo2_29 ov_34)) (by rw [nI_clamp (by omega)]) ?_
              refine lv_aload_n hx hb dX0_reckonStart_125 rfl (lv_at hl 5 rfl) ?_
              refine va_get (D := D) (ci := 0) (v := .ref w4) (C := RX0) (T := TX0) (N := 5) hx hb hts inX0 hown hK hP 5 rfl rfl 4 (by decide) (hts _ tw_272) (fun _ h9 => h9) rfl dX0_reckonStart_126 ?_
              refine lv_iload hx hb dX0_reckonStart_129 (lv_at hl 1 rfl) ?_
              refine va_iald hx hb hK hP 7 1 rfl rfl (vp_in_nI (by omega) (by decide)) dX0_reckonStart_131 ?_
              refine lv_ti (y := (fo2_29 g2_29)) (by rw [nI_clamp (by omega)]) ?_
              refine ro_i (D := D) (va_runSN (As := [.int r_33, .int (fo2_29 ov_34), .int (fo2_29 g2_29)]) (rest := [.int (nI g2_29), .ref w4]) ⟨hx, hb, hml, hown, hts⟩ ((x_mixed l D k st lo r_33 (fo2_29 ov_34) (fo2_29 g2_29)) H.size) ⟨va_cnB 3 hts (gLW tw_570) rfl rfl rfl (hZ.2.2.2.2.2.2.2.2.1.1 (RX0, 80, yX7_mixed, RX7) (List.mem_of_getElem? (i := 5) rfl)) (hts _ tw_79) (by decide +kernel) ⟨Nat.le_of_ble_eq_true rfl, Nat.le_of_ble_eq_true rfl⟩, hts _ tw_569, trivial⟩ (pS hS hAlo hlo hP hK (va_Dlo hD hAlo) hZ [] (by decide) rfl) rfl rfl hl.1 rfl (lv_room (Nat.le_of_ble_eq_true rfl)) dX0_reckonStart_132 ⟨Nat.le_of_ble_eq_true rfl, Nat.le_of_ble_eq_true rfl⟩) hS hA hP (fun r_35 H locs hw_35 hP hS => ?_)
              try dsimp only at hw_35
              refine va_iast hx hb hK hP hD hS 7 1 rfl rfl (vp_in_nI (by omega) (by decide)) dX0_reckonStart_135 (fun H locs hP hD hS => ?_)
              replace hP : va_P D classes [(h0, .inr (5, (fX5 h1 h2 h3 h4))), (aI k h1 10 (vv n see tm g)), (aI k h2 24 ff), (aI k h3 24 fp), (aI k h4 4 fl), (w0, .inr (0, (fX0 h0 w1 w2 w3 w4))), (aI k w1 768 on), (aI k w4 8 (upd fo2_29 (Int32.toNatClampNeg (nI g2_29)) r_35))] H := hP
              replace hD : va_D A [(h0, .inr (5, (fX5 h1 h2 h3 h4))), (aI k h1 10 (vv n see tm g)), (aI k h2 24 ff), (aI k h3 24 fp), (aI k h4 4 fl), (w0, .inr (0, (fX0 h0 w1 w2 w3 w4))), (aI k w1 768 on), (aI k w4 8 (upd fo2_29 (Int32.toNatClampNeg (nI g2_29)) r_35))] := hD
              generalize (upd fo2_29 (Int32.toNatClampNeg (nI g2_29)) r_35) = f_36 at hP hD
              refine lv_iinc (v := (nI (g2_29 + 1))) (lv' := [(5, .int (nI (g2_29 + 1))), (6, .int 0), (4, .int (nI pw_28)), (3, .int (nI q_27)), (2, .int (nI zs_2)), (0, .ref w0), (1, .int (nI rn))]) hx hb dX0_reckonStart_136 hl (k := 1) rfl (nI_add g2_29 1) (by decide) rfl (fun ls hl => ?_)
              refine lv_goto (tgt := 64) hx hb dX0_reckonStart_139 (by decide) ?_
              exact ih_29 _ (g2_29 + 1, f_36) _ _ _ (by omega) ⟨rfl, (by omega), hP, hD, hS, (lv_sub hl [0, 2, 3, 4, 5, 6] rfl)⟩
            · have c_32 : ¬ (q_27 ≤ 0) := fun h => c_32 ((nI_leI (a := q_27) (b := 0) (by omega) (by omega)).mpr h)
              refine lv_iload hx hb dX0_reckonStart_81 (lv_at hl 0 rfl) ?_
              refine lv_iload_n hx hb dX0_reckonStart_83 rfl (lv_at hl 2 rfl) ?_
              refine lv_iconst (v := 1) hx hb dX0_reckonStart_84 (by decide) ?_
              refine lv_isub hx hb dX0_reckonStart_85 ?_
              refine lv_ti (y := (nI (q_27 - 1))) (pk_sub (a := q_27) (b := 1) (by omega)) ?_
              refine lv_ishr hx hb dX0_reckonStart_86 ?_
              refine lv_topi (fun x_37 ex_37 => ?_)
              refine lv_iconst (v := 1) hx hb dX0_reckonStart_87 (by decide) ?_
              refine lv_iand hx hb dX0_reckonStart_88 ?_
              refine lv_topi (fun x_38 ex_38 => ?_)
              refine lv_if_eq (tgt := 96) hx hb dX0_reckonStart_89 (by decide) (fun c_39 => ?_) (fun c_39 => ?_)
              · refine lv_iconst (v := 0) hx hb dX0_reckonStart_96 (by decide) ?_
                refine lv_istore (lv' := [(6, .int 0), (5, .int (nI g2_29)), (4, .int (nI pw_28)), (3, .int (nI q_27)), (2, .int (nI zs_2)), (0, .ref w0), (1, .int (nI rn))]) hx hb dX0_reckonStart_97 hl (by decide) rfl (fun ls hl => ?_)
                refine lv_aload_n hx hb dX0_reckonStart_99 rfl (lv_at hl 5 rfl) ?_
                refine va_get (D := D) (ci := 0) (v := .ref w4) (C := RX0) (T := TX0) (N := 5) hx hb hts inX0 hown hK hP 5 rfl rfl 4 (by decide) (hts _ tw_272) (fun _ h9 => h9) rfl dX0_reckonStart_100 ?_
                refine lv_iload hx hb dX0_reckonStart_103 (lv_at hl 1 rfl) ?_
                refine lv_aload_n hx hb dX0_reckonStart_105 rfl (lv_at hl 5 rfl) ?_
                refine va_get (D := D) (ci := 0) (v := .ref h0) (C := RX0) (T := TX0) (N := 5) hx hb hts inX0 hown hK hP 5 rfl rfl 0 (by decide) (hts _ tw_266) (fun _ h9 => h9) rfl dX0_reckonStart_106 ?_
                refine lv_iload_n hx hb dX0_reckonStart_109 rfl (lv_at hl 3 rfl) ?_
                refine lv_iload hx hb dX0_reckonStart_110 (lv_at hl 0 rfl) ?_
                refine ro_i (D := D) (va_runV (As := [.int (nI q_27), .int 0]) (rest := [.int (nI g2_29), .ref w4]) ⟨hx, hb, hml, hown, hts⟩ ((x_chanceOf l D k st lo h0 h1 h2 h3 h4 n see tm g ff q_27 0 (by omega)) H.size) (cwV 2 hts (gV tw_564 tw_565 tw_566 tw_81 tw_567) rfl rfl rfl (by decide +kernel) ⟨Nat.le_of_ble_eq_true rfl, Nat.le_of_ble_eq_true rfl⟩) (pV hS hAlo hlo hP hK (va_Dlo hD hAlo) hZ [0, 1, 2] (by decide) rfl (ci := 5) (q := (RX5, TX5, 4)) (q0 := 0) rfl rfl) rfl rfl hl.1 rfl (lv_room (Nat.le_of_ble_eq_true rfl)) dX0_reckonStart_112 ⟨Nat.le_of_ble_eq_true rfl, Nat.le_of_ble_eq_true rfl⟩) hS hA hP (fun r_40 H locs hw_40 hP hS => ?_)
                try dsimp only at hw_40
                refine lv_aload_n hx hb dX0_reckonStart_115 rfl (lv_at hl 5 rfl) ?_
                refine va_get (D := D) (ci := 0) (v := .ref w4) (C := RX0) (T := TX0) (N := 5) hx hb hts inX0 hown hK hP 5 rfl rfl 4 (by decide) (hts _ tw_272) (fun _ h9 => h9) rfl dX0_reckonStart_116 ?_
                refine lv_iload hx hb dX0_reckonStart_119 (lv_at hl 1 rfl) ?_
                refine lv_iload hx hb dX0_reckonStart_121 (lv_at hl 2 rfl) ?_
                obtain ⟨ov_41, hov_41, eov_41⟩ := or8 g2_29 (by omega) pw_28 (by omega)
                refine lv_ior hx hb dX0_reckonStart_123 ?_
                refine lv_ti (y := (nI ov_41)) eov_41 ?_
                refine va_iald hx hb hK hP 7 1 rfl rfl (vp_in_nI (by omega) (by decide)) dX0_reckonStart_124 ?_
                refine lv_ti (y := (fo2_29 ov_41)) (by rw [nI_clamp (by omega)]) ?_
                refine lv_aload_n hx hb dX0_reckonStart_125 rfl (lv_at hl 5 rfl) ?_
                refine va_get (D := D) (ci := 0) (v := .ref w4) (C := RX0) (T := TX0) (N := 5) hx hb hts inX0 hown hK hP 5 rfl rfl 4 (by decide) (hts _ tw_272) (fun _ h9 => h9) rfl dX0_reckonStart_126 ?_
                refine lv_iload hx hb dX0_reckonStart_129 (lv_at hl 1 rfl) ?_
                refine va_iald hx hb hK hP 7 1 rfl rfl (vp_in_nI (by omega) (by decide)) dX0_reckonStart_131 ?_
                refine lv_ti (y := (fo2_29 g2_29)) (by rw [nI_clamp (by omega)]) ?_
                refine ro_i (D := D) (va_runSN (As := [.int r_40, .int (fo2_29 ov_41), .int (fo2_29 g2_29)]) (rest := [.int (nI g2_29), .ref w4]) ⟨hx, hb, hml, hown, hts⟩ ((x_mixed l D k st lo r_40 (fo2_29 ov_41) (fo2_29 g2_29)) H.size) ⟨va_cnB 3 hts (gLW tw_570) rfl rfl rfl (hZ.2.2.2.2.2.2.2.2.1.1 (RX0, 80, yX7_mixed, RX7) (List.mem_of_getElem? (i := 5) rfl)) (hts _ tw_79) (by decide +kernel) ⟨Nat.le_of_ble_eq_true rfl, Nat.le_of_ble_eq_true rfl⟩, hts _ tw_569, trivial⟩ (pS hS hAlo hlo hP hK (va_Dlo hD hAlo) hZ [] (by decide) rfl) rfl rfl hl.1 rfl (lv_room (Nat.le_of_ble_eq_true rfl)) dX0_reckonStart_132 ⟨Nat.le_of_ble_eq_true rfl, Nat.le_of_ble_eq_true rfl⟩) hS hA hP (fun r_42 H locs hw_42 hP hS => ?_)
                try dsimp only at hw_42
                refine va_iast hx hb hK hP hD hS 7 1 rfl rfl (vp_in_nI (by omega) (by decide)) dX0_reckonStart_135 (fun H locs hP hD hS => ?_)
                replace hP : va_P D classes [(h0, .inr (5, (fX5 h1 h2 h3 h4))), (aI k h1 10 (vv n see tm g)), (aI k h2 24 ff), (aI k h3 24 fp), (aI k h4 4 fl), (w0, .inr (0, (fX0 h0 w1 w2 w3 w4))), (aI k w1 768 on), (aI k w4 8 (upd fo2_29 (Int32.toNatClampNeg (nI g2_29)) r_42))] H := hP
                replace hD : va_D A [(h0, .inr (5, (fX5 h1 h2 h3 h4))), (aI k h1 10 (vv n see tm g)), (aI k h2 24 ff), (aI k h3 24 fp), (aI k h4 4 fl), (w0, .inr (0, (fX0 h0 w1 w2 w3 w4))), (aI k w1 768 on), (aI k w4 8 (upd fo2_29 (Int32.toNatClampNeg (nI g2_29)) r_42))] := hD
                generalize (upd fo2_29 (Int32.toNatClampNeg (nI g2_29)) r_42) = f_43 at hP hD
                refine lv_iinc (v := (nI (g2_29 + 1))) (lv' := [(5, .int (nI (g2_29 + 1))), (6, .int 0), (4, .int (nI pw_28)), (3, .int (nI q_27)), (2, .int (nI zs_2)), (0, .ref w0), (1, .int (nI rn))]) hx hb dX0_reckonStart_136 hl (k := 1) rfl (nI_add g2_29 1) (by decide) rfl (fun ls hl => ?_)
                refine lv_goto (tgt := 64) hx hb dX0_reckonStart_139 (by decide) ?_
                exact ih_29 _ (g2_29 + 1, f_43) _ _ _ (by omega) ⟨rfl, (by omega), hP, hD, hS, (lv_sub hl [0, 2, 3, 4, 5, 6] rfl)⟩
              · refine lv_iconst (v := 1) hx hb dX0_reckonStart_92 (by decide) ?_
                refine lv_goto (tgt := 97) hx hb dX0_reckonStart_93 (by decide) ?_
                refine lv_istore (lv' := [(6, .int 1), (5, .int (nI g2_29)), (4, .int (nI pw_28)), (3, .int (nI q_27)), (2, .int (nI zs_2)), (0, .ref w0), (1, .int (nI rn))]) hx hb dX0_reckonStart_97 hl (by decide) rfl (fun ls hl => ?_)
                refine lv_aload_n hx hb dX0_reckonStart_99 rfl (lv_at hl 5 rfl) ?_
                refine va_get (D := D) (ci := 0) (v := .ref w4) (C := RX0) (T := TX0) (N := 5) hx hb hts inX0 hown hK hP 5 rfl rfl 4 (by decide) (hts _ tw_272) (fun _ h9 => h9) rfl dX0_reckonStart_100 ?_
                refine lv_iload hx hb dX0_reckonStart_103 (lv_at hl 1 rfl) ?_
                refine lv_aload_n hx hb dX0_reckonStart_105 rfl (lv_at hl 5 rfl) ?_
                refine va_get (D := D) (ci := 0) (v := .ref h0) (C := RX0) (T := TX0) (N := 5) hx hb hts inX0 hown hK hP 5 rfl rfl 0 (by decide) (hts _ tw_266) (fun _ h9 => h9) rfl dX0_reckonStart_106 ?_
                refine lv_iload_n hx hb dX0_reckonStart_109 rfl (lv_at hl 3 rfl) ?_
                refine lv_iload hx hb dX0_reckonStart_110 (lv_at hl 0 rfl) ?_
                refine ro_i (D := D) (va_runV (As := [.int (nI q_27), .int 1]) (rest := [.int (nI g2_29), .ref w4]) ⟨hx, hb, hml, hown, hts⟩ ((x_chanceOf l D k st lo h0 h1 h2 h3 h4 n see tm g ff q_27 1 (by omega)) H.size) (cwV 2 hts (gV tw_564 tw_565 tw_566 tw_81 tw_567) rfl rfl rfl (by decide +kernel) ⟨Nat.le_of_ble_eq_true rfl, Nat.le_of_ble_eq_true rfl⟩) (pV hS hAlo hlo hP hK (va_Dlo hD hAlo) hZ [0, 1, 2] (by decide) rfl (ci := 5) (q := (RX5, TX5, 4)) (q0 := 0) rfl rfl) rfl rfl hl.1 rfl (lv_room (Nat.le_of_ble_eq_true rfl)) dX0_reckonStart_112 ⟨Nat.le_of_ble_eq_true rfl, Nat.le_of_ble_eq_true rfl⟩) hS hA hP (fun r_44 H locs hw_44 hP hS => ?_)
                try dsimp only at hw_44
                refine lv_aload_n hx hb dX0_reckonStart_115 rfl (lv_at hl 5 rfl) ?_
                refine va_get (D := D) (ci := 0) (v := .ref w4) (C := RX0) (T := TX0) (N := 5) hx hb hts inX0 hown hK hP 5 rfl rfl 4 (by decide) (hts _ tw_272) (fun _ h9 => h9) rfl dX0_reckonStart_116 ?_
                refine lv_iload hx hb dX0_reckonStart_119 (lv_at hl 1 rfl) ?_
                refine lv_iload hx hb dX0_reckonStart_121 (lv_at hl 2 rfl) ?_
                obtain ⟨ov_45, hov_45, eov_45⟩ := or8 g2_29 (by omega) pw_28 (by omega)
                refine lv_ior hx hb dX0_reckonStart_123 ?_
                refine lv_ti (y := (nI ov_45)) eov_45 ?_
                refine va_iald hx hb hK hP 7 1 rfl rfl (vp_in_nI (by omega) (by decide)) dX0_reckonStart_124 ?_
                refine lv_ti (y := (fo2_29 ov_45)) (by rw [nI_clamp (by omega)]) ?_
                refine lv_aload_n hx hb dX0_reckonStart_125 rfl (lv_at hl 5 rfl) ?_
                refine va_get (D := D) (ci := 0) (v := .ref w4) (C := RX0) (T := TX0) (N := 5) hx hb hts inX0 hown hK hP 5 rfl rfl 4 (by decide) (hts _ tw_272) (fun _ h9 => h9) rfl dX0_reckonStart_126 ?_
                refine lv_iload hx hb dX0_reckonStart_129 (lv_at hl 1 rfl) ?_
                refine va_iald hx hb hK hP 7 1 rfl rfl (vp_in_nI (by omega) (by decide)) dX0_reckonStart_131 ?_
                refine lv_ti (y := (fo2_29 g2_29)) (by rw [nI_clamp (by omega)]) ?_
                refine ro_i (D := D) (va_runSN (As := [.int r_44, .int (fo2_29 ov_45), .int (fo2_29 g2_29)]) (rest := [.int (nI g2_29), .ref w4]) ⟨hx, hb, hml, hown, hts⟩ ((x_mixed l D k st lo r_44 (fo2_29 ov_45) (fo2_29 g2_29)) H.size) ⟨va_cnB 3 hts (gLW tw_570) rfl rfl rfl (hZ.2.2.2.2.2.2.2.2.1.1 (RX0, 80, yX7_mixed, RX7) (List.mem_of_getElem? (i := 5) rfl)) (hts _ tw_79) (by decide +kernel) ⟨Nat.le_of_ble_eq_true rfl, Nat.le_of_ble_eq_true rfl⟩, hts _ tw_569, trivial⟩ (pS hS hAlo hlo hP hK (va_Dlo hD hAlo) hZ [] (by decide) rfl) rfl rfl hl.1 rfl (lv_room (Nat.le_of_ble_eq_true rfl)) dX0_reckonStart_132 ⟨Nat.le_of_ble_eq_true rfl, Nat.le_of_ble_eq_true rfl⟩) hS hA hP (fun r_46 H locs hw_46 hP hS => ?_)
                try dsimp only at hw_46
                refine va_iast hx hb hK hP hD hS 7 1 rfl rfl (vp_in_nI (by omega) (by decide)) dX0_reckonStart_135 (fun H locs hP hD hS => ?_)
                replace hP : va_P D classes [(h0, .inr (5, (fX5 h1 h2 h3 h4))), (aI k h1 10 (vv n see tm g)), (aI k h2 24 ff), (aI k h3 24 fp), (aI k h4 4 fl), (w0, .inr (0, (fX0 h0 w1 w2 w3 w4))), (aI k w1 768 on), (aI k w4 8 (upd fo2_29 (Int32.toNatClampNeg (nI g2_29)) r_46))] H := hP
                replace hD : va_D A [(h0, .inr (5, (fX5 h1 h2 h3 h4))), (aI k h1 10 (vv n see tm g)), (aI k h2 24 ff), (aI k h3 24 fp), (aI k h4 4 fl), (w0, .inr (0, (fX0 h0 w1 w2 w3 w4))), (aI k w1 768 on), (aI k w4 8 (upd fo2_29 (Int32.toNatClampNeg (nI g2_29)) r_46))] := hD
                generalize (upd fo2_29 (Int32.toNatClampNeg (nI g2_29)) r_46) = f_47 at hP hD
                refine lv_iinc (v := (nI (g2_29 + 1))) (lv' := [(5, .int (nI (g2_29 + 1))), (6, .int 1), (4, .int (nI pw_28)), (3, .int (nI q_27)), (2, .int (nI zs_2)), (0, .ref w0), (1, .int (nI rn))]) hx hb dX0_reckonStart_136 hl (k := 1) rfl (nI_add g2_29 1) (by decide) rfl (fun ls hl => ?_)
                refine lv_goto (tgt := 64) hx hb dX0_reckonStart_139 (by decide) ?_
                exact ih_29 _ (g2_29 + 1, f_47) _ _ _ (by omega) ⟨rfl, (by omega), hP, hD, hS, (lv_sub hl [0, 2, 3, 4, 5, 6] rfl)⟩
    · have c_26 : ¬ (8 ≤ g2_3) := fun h => c_26 ((nI_leI (a := 8) (b := g2_3) (by omega) (by omega)).mpr h)
      refine lv_aload_n hx hb dX0_reckonStart_22 rfl (lv_at hl 2 rfl) ?_
      refine va_get (D := D) (ci := 0) (v := .ref w4) (C := RX0) (T := TX0) (N := 5) hx hb hts inX0 hown hK hP 5 rfl rfl 4 (by decide) (hts _ tw_272) (fun _ h9 => h9) rfl dX0_reckonStart_23 ?_
      refine lv_iload_n hx hb dX0_reckonStart_26 rfl (lv_at hl 0 rfl) ?_
      refine lv_aload_n hx hb dX0_reckonStart_27 rfl (lv_at hl 2 rfl) ?_
      refine lv_iload_n hx hb dX0_reckonStart_28 rfl (lv_at hl 3 rfl) ?_
      refine lv_iconst (v := 0) hx hb dX0_reckonStart_29 (by decide) ?_
      refine lv_iload_n hx hb dX0_reckonStart_30 rfl (lv_at hl 0 rfl) ?_
      refine ro_i (D := D) (va_runV (As := [.int (nI rn), .int 0, .int (nI g2_3)]) (rest := [.int (nI g2_3), .ref w4]) ⟨hx, hb, hml, hown, hts⟩ ((x_worthOf l D k st lo h0 h1 h2 h3 h4 n see tm g fp fl w0 w1 w2 w3 w4 on rn 0 g2_3 (by omega) (by omega) (by omega)) H.size) (cwV 3 hts (gV tw_545 tw_546 tw_547 tw_85 tw_548) rfl rfl rfl (by decide +kernel) ⟨Nat.le_of_ble_eq_true rfl, Nat.le_of_ble_eq_true rfl⟩) (pV hS hAlo hlo hP hK (va_Dlo hD hAlo) hZ [0, 1, 3, 4, 5, 6] (by decide) rfl (ci := 0) (q := (RX0, TX0, 5)) (q0 := 4) rfl rfl) rfl rfl hl.1 rfl (lv_room (Nat.le_of_ble_eq_true rfl)) dX0_reckonStart_31 ⟨Nat.le_of_ble_eq_true rfl, Nat.le_of_ble_eq_true rfl⟩) hS hA hP (fun r_48 H locs hw_48 hP hS => ?_)
      try dsimp only at hw_48
      refine va_iast hx hb hK hP hD hS 7 1 rfl rfl (vp_in_nI (by omega) (by decide)) dX0_reckonStart_34 (fun H locs hP hD hS => ?_)
      replace hP : va_P D classes [(h0, .inr (5, (fX5 h1 h2 h3 h4))), (aI k h1 10 (vv n see tm g)), (aI k h2 24 ff), (aI k h3 24 fp), (aI k h4 4 fl), (w0, .inr (0, (fX0 h0 w1 w2 w3 w4))), (aI k w1 768 on), (aI k w4 8 (upd fo2_3 (Int32.toNatClampNeg (nI g2_3)) r_48))] H := hP
      replace hD : va_D A [(h0, .inr (5, (fX5 h1 h2 h3 h4))), (aI k h1 10 (vv n see tm g)), (aI k h2 24 ff), (aI k h3 24 fp), (aI k h4 4 fl), (w0, .inr (0, (fX0 h0 w1 w2 w3 w4))), (aI k w1 768 on), (aI k w4 8 (upd fo2_3 (Int32.toNatClampNeg (nI g2_3)) r_48))] := hD
      generalize (upd fo2_3 (Int32.toNatClampNeg (nI g2_3)) r_48) = f_49 at hP hD
      refine lv_iinc (v := (nI (g2_3 + 1))) (lv' := [(3, .int (nI (g2_3 + 1))), (2, .int (nI zs_2)), (0, .ref w0), (1, .int (nI rn))]) hx hb dX0_reckonStart_35 hl (k := 0) rfl (nI_add g2_3 1) (by decide) rfl (fun ls hl => ?_)
      refine lv_goto (tgt := 11) hx hb dX0_reckonStart_38 (by decide) ?_
      exact ih_3 _ (g2_3 + 1, f_49) _ _ _ (by omega) ⟨rfl, (by omega), hP, hD, hS, (lv_sub hl [0, 1, 2, 3] rfl)⟩

theorem dX0_reckon_0 : decode cX0_reckon 0 = .ok (.aload_n 0, 1) := by decide +kernel
theorem dX0_reckon_1 : decode cX0_reckon 1 = .ok (.getfield 24, 3) := by decide +kernel
theorem dX0_reckon_4 : decode cX0_reckon 4 = .ok (.getfield 28, 3) := by decide +kernel
theorem dX0_reckon_7 : decode cX0_reckon 7 = .ok (.bipush 8, 2) := by decide +kernel
theorem dX0_reckon_9 : decode cX0_reckon 9 = .ok (.iaload, 1) := by decide +kernel
theorem dX0_reckon_10 : decode cX0_reckon 10 = .ok (.istore_n 1, 1) := by decide +kernel
theorem dX0_reckon_11 : decode cX0_reckon 11 = .ok (.iload_n 1, 1) := by decide +kernel
theorem dX0_reckon_12 : decode cX0_reckon 12 = .ok (.ifCond .lt 57, 3) := by decide +kernel
theorem dX0_reckon_15 : decode cX0_reckon 15 = .ok (.aload_n 0, 1) := by decide +kernel
theorem dX0_reckon_16 : decode cX0_reckon 16 = .ok (.getfield 18, 3) := by decide +kernel
theorem dX0_reckon_19 : decode cX0_reckon 19 = .ok (.iload_n 1, 1) := by decide +kernel
theorem dX0_reckon_20 : decode cX0_reckon 20 = .ok (.aload_n 0, 1) := by decide +kernel
theorem dX0_reckon_21 : decode cX0_reckon 21 = .ok (.iload_n 1, 1) := by decide +kernel
theorem dX0_reckon_22 : decode cX0_reckon 22 = .ok (.invokevirtual 33, 3) := by decide +kernel
theorem dX0_reckon_25 : decode cX0_reckon 25 = .ok (.iastore, 1) := by decide +kernel
theorem dX0_reckon_26 : decode cX0_reckon 26 = .ok (.aload_n 0, 1) := by decide +kernel
theorem dX0_reckon_27 : decode cX0_reckon 27 = .ok (.getfield 24, 3) := by decide +kernel
theorem dX0_reckon_30 : decode cX0_reckon 30 = .ok (.invokevirtual 37, 3) := by decide +kernel
theorem dX0_reckon_33 : decode cX0_reckon 33 = .ok (.iconst 1, 1) := by decide +kernel
theorem dX0_reckon_34 : decode cX0_reckon 34 = .ok (.isub, 1) := by decide +kernel
theorem dX0_reckon_35 : decode cX0_reckon 35 = .ok (.istore_n 2, 1) := by decide +kernel
theorem dX0_reckon_36 : decode cX0_reckon 36 = .ok (.iload_n 2, 1) := by decide +kernel
theorem dX0_reckon_37 : decode cX0_reckon 37 = .ok (.ifCond .lt 15, 3) := by decide +kernel
theorem dX0_reckon_40 : decode cX0_reckon 40 = .ok (.aload_n 0, 1) := by decide +kernel
theorem dX0_reckon_41 : decode cX0_reckon 41 = .ok (.iload_n 1, 1) := by decide +kernel
theorem dX0_reckon_42 : decode cX0_reckon 42 = .ok (.iload_n 2, 1) := by decide +kernel
theorem dX0_reckon_43 : decode cX0_reckon 43 = .ok (.invokevirtual 41, 3) := by decide +kernel
theorem dX0_reckon_46 : decode cX0_reckon 46 = .ok (.iinc 2 (-1), 3) := by decide +kernel
theorem dX0_reckon_49 : decode cX0_reckon 49 = .ok (.goto (-13), 3) := by decide +kernel
theorem dX0_reckon_52 : decode cX0_reckon 52 = .ok (.aload_n 0, 1) := by decide +kernel
theorem dX0_reckon_53 : decode cX0_reckon 53 = .ok (.getfield 15, 3) := by decide +kernel
theorem dX0_reckon_56 : decode cX0_reckon 56 = .ok (.iload_n 1, 1) := by decide +kernel
theorem dX0_reckon_57 : decode cX0_reckon 57 = .ok (.aload_n 0, 1) := by decide +kernel
theorem dX0_reckon_58 : decode cX0_reckon 58 = .ok (.iload_n 1, 1) := by decide +kernel
theorem dX0_reckon_59 : decode cX0_reckon 59 = .ok (.invokevirtual 45, 3) := by decide +kernel
theorem dX0_reckon_62 : decode cX0_reckon 62 = .ok (.iastore, 1) := by decide +kernel
theorem dX0_reckon_63 : decode cX0_reckon 63 = .ok (.iinc 1 (-1), 3) := by decide +kernel
theorem dX0_reckon_66 : decode cX0_reckon 66 = .ok (.goto (-55), 3) := by decide +kernel
theorem dX0_reckon_69 : decode cX0_reckon 69 = .ok (.return_, 1) := by decide +kernel
set_option maxHeartbeats 4000000 in
set_option maxRecDepth 100000 in
theorem x_reckon (l : Launch) (D : va_G) (k : Nat → ClassId) (st : Nat → Nat) (lo : Nat) (h0 : Nat) (h1 : Nat) (h2 : Nat) (h3 : Nat) (h4 : Nat) (n : Nat) (see : Nat) (tm : Nat) (g : Nat → Int32) (ff : Nat → Int32) (fp : Nat → Int32) (fl : Nat → Int32) (w0 : Nat) (w1 : Nat) (w2 : Nat) (w3 : Nat) (w4 : Nat) (on : Nat → Int32) (sr : Nat → Int32) (en : Nat → Int32) (fo : Nat → Int32) (hn : n ≤ 24) (hsee : see ≤ 2) (htm9 : tm ≤ 3) : CWv l D k st lo yX0_reckon cX0_reckon 3 none ({ frames := 5, cells := 0, slots := 0, locals := 136 }) 0 0 [.ref w0] [(h0, .inr (5, (fX5 h1 h2 h3 h4))), (aI k h1 10 (vv n see tm g)), (aI k h2 24 ff), (aI k h3 24 fp), (aI k h4 4 fl), (w0, .inr (0, (fX0 h0 w1 w2 w3 w4))), (aI k w1 768 on), (aI k w2 4 sr), (aI k w3 4 en), (aI k w4 8 fo)] (fun (u : (Nat → Int32) × (Nat → Int32) × (Nat → Int32) × (Nat → Int32)) => match u with | (on_, sr_, en_, fo_) => True) (fun (u : (Nat → Int32) × (Nat → Int32) × (Nat → Int32) × (Nat → Int32)) => match u with | (on_, sr_, en_, fo_) => [(h0, .inr (5, (fX5 h1 h2 h3 h4))), (aI k h1 10 (vv n see tm g)), (aI k h2 24 ff), (aI k h3 24 fp), (aI k h4 4 fl), (w0, .inr (0, (fX0 h0 w1 w2 w3 w4))), (aI k w1 768 on_), (aI k w2 4 sr_), (aI k w3 4 en_), (aI k w4 8 fo_)]) := by
  intro sz
  refine Met.ofW (cc := cX0_reckon) (maxL := 3) (ret := none) (by decide) rfl ?_
  intro p e s m args below meth c s₁ B hml hv
  obtain ⟨rfl, hsz, hlo, hP, hK, hDL, hZ⟩ := hv
  have hx := B.exec
  have hb := B.bytes
  have hr := B.returns
  have hts := WS_ts B.pre
  have hown : s.vm.findClass RX0 = some m.cls := findClass_of_methodNamed B.named
  have hlocks := B.notSynchronized
  subst hsz
  have hD := hDL.self (sz := s.heap.size)
  have hAlo := A_lo hDL hlo
  generalize hAe : va_A [(h0, .inr (5, (fX5 h1 h2 h3 h4))), (aI k h1 10 (vv n see tm g)), (aI k h2 24 ff), (aI k h3 24 fp), (aI k h4 4 fl), (w0, .inr (0, (fX0 h0 w1 w2 w3 w4))), (aI k w1 768 on), (aI k w2 4 sr), (aI k w3 4 en), (aI k w4 8 fo)] s.heap.size = A at hD hAlo ⊢
  have hA : ∀ q : Nat, s.heap.size ≤ q → A q := fun q h => by rw [← hAe]; exact Or.inr h
  have hS : va_S A s.heap s.heap [] := va_S.rf
  have hl := lv_entry ([.ref w0]) (n := 3) (Nat.le_of_ble_eq_true rfl)
  rw [lg_entry_eq]
  generalize (lg_sl ([.ref w0]) ++ List.replicate (3 - (lg_sl ([.ref w0])).length) Slot.unset).toArray = ls at hl ⊢
  have hl : lv_has ls 3 [(0, .ref w0)] := hl
  refine lv_aload_n hx hb dX0_reckon_0 rfl (lv_at hl 0 rfl) ?_
  refine va_get (D := D) (ci := 0) (v := .ref h0) (C := RX0) (T := TX0) (N := 5) hx hb hts inX0 hown hK hP 5 rfl rfl 0 (by decide) (hts _ tw_266) (fun _ h9 => h9) rfl dX0_reckon_1 ?_
  refine va_get (D := D) (ci := 5) (v := .ref h1) (C := RX5) (T := TX5) (N := 4) hx hb hts inX5 hown hK hP 0 rfl rfl 0 (by decide) (hts _ tw_147) (fun _ h9 => h9) rfl dX0_reckon_4 ?_
  refine lv_bipush (v := 8) hx hb dX0_reckon_7 (by decide) ?_
  refine va_iald hx hb hK hP 1 1 rfl rfl (by unfold vp_in; decide) dX0_reckon_9 ?_
  refine lv_ti (y := (nI tm)) (by rfl) ?_
  refine lv_istore_n (lv' := [(1, .int (nI tm)), (0, .ref w0)]) hx hb dX0_reckon_10 rfl hl (by decide) rfl (fun ls hl => ?_)
  refine W_loop (σ := Nat × (Nat → Int32) × (Nat → Int32) × (Nat → Int32) × (Nat → Int32)) (fun (n_ : Nat) (x_ : Nat × (Nat → Int32) × (Nat → Int32) × (Nat → Int32) × (Nat → Int32)) (H : Heap) (locs : List Loc) (ls : Array Slot) => match x_ with | (q_1, on2_1, sr2_1, en2_1, fo2_1) => n_ = 2 * q_1 ∧ (q_1 ≤ 4) ∧ va_P D classes [(h0, .inr (5, (fX5 h1 h2 h3 h4))), (aI k h1 10 (vv n see tm g)), (aI k h2 24 ff), (aI k h3 24 fp), (aI k h4 4 fl), (w0, .inr (0, (fX0 h0 w1 w2 w3 w4))), (aI k w1 768 on2_1), (aI k w2 4 sr2_1), (aI k w3 4 en2_1), (aI k w4 8 fo2_1)] H ∧ va_D A [(h0, .inr (5, (fX5 h1 h2 h3 h4))), (aI k h1 10 (vv n see tm g)), (aI k h2 24 ff), (aI k h3 24 fp), (aI k h4 4 fl), (w0, .inr (0, (fX0 h0 w1 w2 w3 w4))), (aI k w1 768 on2_1), (aI k w2 4 sr2_1), (aI k w3 4 en2_1), (aI k w4 8 fo2_1)] ∧ va_S A s.heap H locs ∧ lv_has ls 3 [(1, .int (nI q_1 - 1)), (0, .ref w0)]) (fun n_1 x_1 H locs ls hI ih_1 => ?_) _ (tm + 1, on, sr, en, fo) ⟨rfl, (by omega), hP, hD, hS, (by rw [nI_pred]; exact lv_sub hl [0, 1] rfl)⟩
  obtain ⟨q_1, on2_1, sr2_1, en2_1, fo2_1⟩ := x_1
  obtain ⟨hm_1, hv_1, hP, hD, hS, hl⟩ := hI
  subst hm_1
  rcases q_1 with _ | q_1
  · rw [dn0] at hl
    refine lv_iload_n hx hb dX0_reckon_11 rfl (lv_at hl 0 rfl) ?_
    refine lv_if_lt (tgt := 69) hx hb dX0_reckon_12 (by decide) (fun _ => ?_) (fun h => absurd (by decide) h)
    have hP9 := hP.sub (ws' := [(h0, .inr (5, (fX5 h1 h2 h3 h4))), (aI k h1 10 (vv n see tm g)), (aI k h2 24 ff), (aI k h3 24 fp), (aI k h4 4 fl), (w0, .inr (0, (fX0 h0 w1 w2 w3 w4))), (aI k w1 768 on2_1), (aI k w2 4 sr2_1), (aI k w3 4 en2_1), (aI k w4 8 fo2_1)]) [0, 1, 2, 3, 4, 5, 6, 7, 8, 9] rfl
    have hD9 := hD.sub (ws' := [(h0, .inr (5, (fX5 h1 h2 h3 h4))), (aI k h1 10 (vv n see tm g)), (aI k h2 24 ff), (aI k h3 24 fp), (aI k h4 4 fl), (w0, .inr (0, (fX0 h0 w1 w2 w3 w4))), (aI k w1 768 on2_1), (aI k w2 4 sr2_1), (aI k w3 4 en2_1), (aI k w4 8 fo2_1)]) [0, 1, 2, 3, 4, 5, 6, 7, 8, 9] (by decide) rfl
    exact W.vret hx hb hr (fun t ht hW => ⟨⟨(on2_1, sr2_1, en2_1, fo2_1), rfl, trivial, by rw [ht]; exact hP9, hD9⟩, hS.F ht⟩) hS.2.2 dX0_reckon_69
  · rw [nI_pred] at hl
    refine lv_iload_n hx hb dX0_reckon_11 rfl (lv_at hl 0 rfl) ?_
    refine lv_if_lt (tgt := 69) hx hb dX0_reckon_12 (by decide) (fun h => absurd h (nI_pos0 (by omega))) (fun _ => ?_)
    refine lv_aload_n hx hb dX0_reckon_15 rfl (lv_at hl 1 rfl) ?_
    refine va_get (D := D) (ci := 0) (v := .ref w3) (C := RX0) (T := TX0) (N := 5) hx hb hts inX0 hown hK hP 5 rfl rfl 3 (by decide) (hts _ tw_270) (fun _ h9 => h9) rfl dX0_reckon_16 ?_
    refine lv_iload_n hx hb dX0_reckon_19 rfl (lv_at hl 0 rfl) ?_
    refine lv_aload_n hx hb dX0_reckon_20 rfl (lv_at hl 1 rfl) ?_
    refine lv_iload_n hx hb dX0_reckon_21 rfl (lv_at hl 0 rfl) ?_
    refine ro_i (D := D) (va_runV (As := [.int (nI q_1)]) (rest := [.int (nI q_1), .ref w3]) ⟨hx, hb, hml, hown, hts⟩ ((x_reckonEnd l D k st lo h0 h1 h2 h3 h4 n see tm g fl w0 w1 w2 w3 w4 sr2_1 q_1 (by omega) (by omega)) H.size) (cwV 1 hts (gV tw_516 tw_518 tw_4 tw_85 tw_519) rfl rfl rfl (by decide +kernel) ⟨Nat.le_of_ble_eq_true rfl, Nat.le_of_ble_eq_true rfl⟩) (pV hS hAlo hlo hP hK (va_Dlo hD hAlo) hZ [0, 1, 4, 5, 7] (by decide) rfl (ci := 0) (q := (RX0, TX0, 5)) (q0 := 3) rfl rfl) rfl rfl hl.1 rfl (lv_room (Nat.le_of_ble_eq_true rfl)) dX0_reckon_22 ⟨Nat.le_of_ble_eq_true rfl, Nat.le_of_ble_eq_true rfl⟩) hS hA hP (fun r_2 H locs hw_2 hP hS => ?_)
    try dsimp only at hw_2
    refine va_iast hx hb hK hP hD hS 8 1 rfl rfl (vp_in_nI (by omega) (by decide)) dX0_reckon_25 (fun H locs hP hD hS => ?_)
    replace hP : va_P D classes [(h0, .inr (5, (fX5 h1 h2 h3 h4))), (aI k h1 10 (vv n see tm g)), (aI k h2 24 ff), (aI k h3 24 fp), (aI k h4 4 fl), (w0, .inr (0, (fX0 h0 w1 w2 w3 w4))), (aI k w1 768 on2_1), (aI k w2 4 sr2_1), (aI k w3 4 (upd en2_1 (Int32.toNatClampNeg (nI q_1)) r_2)), (aI k w4 8 fo2_1)] H := hP
    replace hD : va_D A [(h0, .inr (5, (fX5 h1 h2 h3 h4))), (aI k h1 10 (vv n see tm g)), (aI k h2 24 ff), (aI k h3 24 fp), (aI k h4 4 fl), (w0, .inr (0, (fX0 h0 w1 w2 w3 w4))), (aI k w1 768 on2_1), (aI k w2 4 sr2_1), (aI k w3 4 (upd en2_1 (Int32.toNatClampNeg (nI q_1)) r_2)), (aI k w4 8 fo2_1)] := hD
    generalize (upd en2_1 (Int32.toNatClampNeg (nI q_1)) r_2) = f_3 at hP hD
    refine lv_aload_n hx hb dX0_reckon_26 rfl (lv_at hl 1 rfl) ?_
    refine va_get (D := D) (ci := 0) (v := .ref h0) (C := RX0) (T := TX0) (N := 5) hx hb hts inX0 hown hK hP 5 rfl rfl 0 (by decide) (hts _ tw_266) (fun _ h9 => h9) rfl dX0_reckon_27 ?_
    refine ro_i (D := D) (va_runV (As := []) (rest := []) ⟨hx, hb, hml, hown, hts⟩ ((x_doors l D k st lo h0 h1 h2 h3 h4 n see tm g) H.size) (cwV 0 hts (gV tw_531 tw_478 tw_479 tw_81 tw_480) rfl rfl rfl (by decide +kernel) ⟨Nat.le_of_ble_eq_true rfl, Nat.le_of_ble_eq_true rfl⟩) (pV hS hAlo hlo hP hK (va_Dlo hD hAlo) hZ [0, 1] (by decide) rfl (ci := 5) (q := (RX5, TX5, 4)) (q0 := 0) rfl rfl) rfl rfl hl.1 rfl (lv_room (Nat.le_of_ble_eq_true rfl)) dX0_reckon_30 ⟨Nat.le_of_ble_eq_true rfl, Nat.le_of_ble_eq_true rfl⟩) hS hA hP (fun r_4 H locs hw_4 hP hS => ?_)
    try dsimp only at hw_4
    subst hw_4
    refine lv_iconst (v := 1) hx hb dX0_reckon_33 (by decide) ?_
    refine lv_isub hx hb dX0_reckon_34 ?_
    refine lv_ti (y := (nI n - 1)) rfl ?_
    refine lv_istore_n (lv' := [(2, .int (nI n - 1)), (1, .int (nI q_1)), (0, .ref w0)]) hx hb dX0_reckon_35 rfl hl (by decide) rfl (fun ls hl => ?_)
    refine W_loop (σ := Nat × (Nat → Int32)) (fun (n_ : Nat) (x_ : Nat × (Nat → Int32)) (H : Heap) (locs : List Loc) (ls : Array Slot) => match x_ with | (qi_5, on2_5) => n_ = 2 * qi_5 ∧ (qi_5 ≤ n) ∧ va_P D classes [(h0, .inr (5, (fX5 h1 h2 h3 h4))), (aI k h1 10 (vv n see tm g)), (aI k h2 24 ff), (aI k h3 24 fp), (aI k h4 4 fl), (w0, .inr (0, (fX0 h0 w1 w2 w3 w4))), (aI k w1 768 on2_5), (aI k w2 4 sr2_1), (aI k w3 4 f_3), (aI k w4 8 fo2_1)] H ∧ va_D A [(h0, .inr (5, (fX5 h1 h2 h3 h4))), (aI k h1 10 (vv n see tm g)), (aI k h2 24 ff), (aI k h3 24 fp), (aI k h4 4 fl), (w0, .inr (0, (fX0 h0 w1 w2 w3 w4))), (aI k w1 768 on2_5), (aI k w2 4 sr2_1), (aI k w3 4 f_3), (aI k w4 8 fo2_1)] ∧ va_S A s.heap H locs ∧ lv_has ls 3 [(2, .int (nI qi_5 - 1)), (1, .int (nI q_1)), (0, .ref w0)]) (fun n_5 x_5 H locs ls hI ih_5 => ?_) _ (n, on2_1) ⟨rfl, (by omega), hP, hD, hS, (lv_sub hl [0, 1, 2] rfl)⟩
    obtain ⟨qi_5, on2_5⟩ := x_5
    obtain ⟨hm_5, hv_5, hP, hD, hS, hl⟩ := hI
    subst hm_5
    rcases qi_5 with _ | qi_5
    · rw [dn0] at hl
      refine lv_iload_n hx hb dX0_reckon_36 rfl (lv_at hl 0 rfl) ?_
      refine lv_if_lt (tgt := 52) hx hb dX0_reckon_37 (by decide) (fun _ => ?_) (fun h => absurd (by decide) h)
      refine lv_aload_n hx hb dX0_reckon_52 rfl (lv_at hl 2 rfl) ?_
      refine va_get (D := D) (ci := 0) (v := .ref w2) (C := RX0) (T := TX0) (N := 5) hx hb hts inX0 hown hK hP 5 rfl rfl 2 (by decide) (hts _ tw_268) (fun _ h9 => h9) rfl dX0_reckon_53 ?_
      refine lv_iload_n hx hb dX0_reckon_56 rfl (lv_at hl 1 rfl) ?_
      refine lv_aload_n hx hb dX0_reckon_57 rfl (lv_at hl 2 rfl) ?_
      refine lv_iload_n hx hb dX0_reckon_58 rfl (lv_at hl 1 rfl) ?_
      refine rw_i (D := D) (wr := [(aI k w2 4 sr2_1), (aI k w3 4 f_3)]) (va_runV (As := [.int (nI q_1)]) (rest := [.int (nI q_1), .ref w2]) ⟨hx, hb, hml, hown, hts⟩ ((x_reckonStart l D k st lo h0 h1 h2 h3 h4 n see tm g ff fp fl w0 w1 w2 w3 w4 on2_5 fo2_1 q_1 (by omega) (by omega) (by omega)) H.size) (cwV 1 hts (gV tw_576 tw_578 tw_7 tw_85 tw_579) rfl rfl rfl (by decide +kernel) ⟨Nat.le_of_ble_eq_true rfl, Nat.le_of_ble_eq_true rfl⟩) (pV hS hAlo hlo hP hK (va_Dlo hD hAlo) hZ [0, 1, 2, 3, 4, 5, 6, 9] (by decide) rfl (ci := 0) (q := (RX0, TX0, 5)) (q0 := 5) rfl rfl) rfl rfl hl.1 rfl (lv_room (Nat.le_of_ble_eq_true rfl)) dX0_reckon_59 ⟨Nat.le_of_ble_eq_true rfl, Nat.le_of_ble_eq_true rfl⟩) hS hA hP hD [0, 1, 2, 3, 4, 5, 6, 9] [7, 8] rfl rfl (by decide) (by decide) (fun r_6 u H locs hw_6 hP hD hS => ?_)
      obtain ⟨fo__6, rfl⟩ : ∃ z, z = u := ⟨_, rfl⟩
      replace hP : va_P D classes [(aI k w2 4 sr2_1), (aI k w3 4 f_3), (h0, .inr (5, (fX5 h1 h2 h3 h4))), (aI k h1 10 (vv n see tm g)), (aI k h2 24 ff), (aI k h3 24 fp), (aI k h4 4 fl), (w0, .inr (0, (fX0 h0 w1 w2 w3 w4))), (aI k w1 768 on2_5), (aI k w4 8 fo__6)] H := hP
      replace hD : va_D A [(aI k w2 4 sr2_1), (aI k w3 4 f_3), (h0, .inr (5, (fX5 h1 h2 h3 h4))), (aI k h1 10 (vv n see tm g)), (aI k h2 24 ff), (aI k h3 24 fp), (aI k h4 4 fl), (w0, .inr (0, (fX0 h0 w1 w2 w3 w4))), (aI k w1 768 on2_5), (aI k w4 8 fo__6)] := hD
      try dsimp only at hw_6
      refine va_iast hx hb hK hP hD hS 0 1 rfl rfl (vp_in_nI (by omega) (by decide)) dX0_reckon_62 (fun H locs hP hD hS => ?_)
      replace hP : va_P D classes [(aI k w2 4 (upd sr2_1 (Int32.toNatClampNeg (nI q_1)) r_6)), (aI k w3 4 f_3), (h0, .inr (5, (fX5 h1 h2 h3 h4))), (aI k h1 10 (vv n see tm g)), (aI k h2 24 ff), (aI k h3 24 fp), (aI k h4 4 fl), (w0, .inr (0, (fX0 h0 w1 w2 w3 w4))), (aI k w1 768 on2_5), (aI k w4 8 fo__6)] H := hP
      replace hD : va_D A [(aI k w2 4 (upd sr2_1 (Int32.toNatClampNeg (nI q_1)) r_6)), (aI k w3 4 f_3), (h0, .inr (5, (fX5 h1 h2 h3 h4))), (aI k h1 10 (vv n see tm g)), (aI k h2 24 ff), (aI k h3 24 fp), (aI k h4 4 fl), (w0, .inr (0, (fX0 h0 w1 w2 w3 w4))), (aI k w1 768 on2_5), (aI k w4 8 fo__6)] := hD
      generalize (upd sr2_1 (Int32.toNatClampNeg (nI q_1)) r_6) = f_7 at hP hD
      refine lv_iinc (v := (nI q_1 - 1)) (lv' := [(1, .int (nI q_1 - 1)), (2, .int (-1)), (0, .ref w0)]) hx hb dX0_reckon_63 hl (k := 1) rfl (dn1 _) (by decide) rfl (fun ls hl => ?_)
      refine lv_goto (tgt := 11) hx hb dX0_reckon_66 (by decide) ?_
      exact ih_1 _ (q_1, on2_5, f_7, f_3, fo__6) _ _ _ (by omega) ⟨rfl, (by omega), (hP.sub [2, 3, 4, 5, 6, 7, 8, 0, 1, 9] rfl), (hD.sub [2, 3, 4, 5, 6, 7, 8, 0, 1, 9] (by decide) rfl), hS, (lv_sub hl [0, 2] rfl)⟩
    · rw [nI_pred] at hl
      refine lv_iload_n hx hb dX0_reckon_36 rfl (lv_at hl 0 rfl) ?_
      refine lv_if_lt (tgt := 52) hx hb dX0_reckon_37 (by decide) (fun h => absurd h (nI_pos0 (by omega))) (fun _ => ?_)
      refine lv_aload_n hx hb dX0_reckon_40 rfl (lv_at hl 2 rfl) ?_
      refine lv_iload_n hx hb dX0_reckon_41 rfl (lv_at hl 1 rfl) ?_
      refine lv_iload_n hx hb dX0_reckon_42 rfl (lv_at hl 0 rfl) ?_
      refine rw_v (D := D) (wr := [(aI k w2 4 sr2_1), (aI k w4 8 fo2_1)]) (va_runV (As := [.int (nI q_1), .int (nI qi_5)]) (rest := []) ⟨hx, hb, hml, hown, hts⟩ ((x_reckonDoor l D k st lo h0 h1 h2 h3 h4 n see tm g ff fp fl w0 w1 w2 w3 w4 on2_5 f_3 q_1 qi_5 (by omega) (by omega) (by omega) (by omega)) H.size) (cwV 2 hts (gV tw_532 tw_534 tw_5 tw_85 tw_535) rfl rfl rfl (by decide +kernel) ⟨Nat.le_of_ble_eq_true rfl, Nat.le_of_ble_eq_true rfl⟩) (pV hS hAlo hlo hP hK (va_Dlo hD hAlo) hZ [0, 1, 2, 3, 4, 5, 6, 8] (by decide) rfl (ci := 0) (q := (RX0, TX0, 5)) (q0 := 5) rfl rfl) rfl rfl hl.1 rfl (lv_room (Nat.le_of_ble_eq_true rfl)) dX0_reckon_43 ⟨Nat.le_of_ble_eq_true rfl, Nat.le_of_ble_eq_true rfl⟩) hS hA hP hD [0, 1, 2, 3, 4, 5, 6, 8] [7, 9] rfl rfl (by decide) (by decide) (fun u H locs hw_8 hP hD hS => ?_)
      obtain ⟨on__8, rfl⟩ : ∃ z, z = u := ⟨_, rfl⟩
      replace hP : va_P D classes [(aI k w2 4 sr2_1), (aI k w4 8 fo2_1), (h0, .inr (5, (fX5 h1 h2 h3 h4))), (aI k h1 10 (vv n see tm g)), (aI k h2 24 ff), (aI k h3 24 fp), (aI k h4 4 fl), (w0, .inr (0, (fX0 h0 w1 w2 w3 w4))), (aI k w1 768 on__8), (aI k w3 4 f_3)] H := hP
      replace hD : va_D A [(aI k w2 4 sr2_1), (aI k w4 8 fo2_1), (h0, .inr (5, (fX5 h1 h2 h3 h4))), (aI k h1 10 (vv n see tm g)), (aI k h2 24 ff), (aI k h3 24 fp), (aI k h4 4 fl), (w0, .inr (0, (fX0 h0 w1 w2 w3 w4))), (aI k w1 768 on__8), (aI k w3 4 f_3)] := hD
      try dsimp only at hw_8
      refine lv_iinc (v := (nI qi_5 - 1)) (lv' := [(2, .int (nI qi_5 - 1)), (1, .int (nI q_1)), (0, .ref w0)]) hx hb dX0_reckon_46 hl (k := 0) rfl (dn1 _) (by decide) rfl (fun ls hl => ?_)
      refine lv_goto (tgt := 36) hx hb dX0_reckon_49 (by decide) ?_
      exact ih_5 _ (qi_5, on__8) _ _ _ (by omega) ⟨rfl, (by omega), (hP.sub [2, 3, 4, 5, 6, 7, 8, 0, 9, 1] rfl), (hD.sub [2, 3, 4, 5, 6, 7, 8, 0, 9, 1] (by decide) rfl), hS, (lv_sub hl [0, 1, 2] rfl)⟩

theorem dX0_isTakenByAll_0 : decode cX0_isTakenByAll 0 = .ok (.iconst 1, 1) := by decide +kernel
theorem dX0_isTakenByAll_1 : decode cX0_isTakenByAll 1 = .ok (.istore_n 3, 1) := by decide +kernel
theorem dX0_isTakenByAll_2 : decode cX0_isTakenByAll 2 = .ok (.iload_n 3, 1) := by decide +kernel
theorem dX0_isTakenByAll_3 : decode cX0_isTakenByAll 3 = .ok (.aload_n 0, 1) := by decide +kernel
theorem dX0_isTakenByAll_4 : decode cX0_isTakenByAll 4 = .ok (.getfield 24, 3) := by decide +kernel
theorem dX0_isTakenByAll_7 : decode cX0_isTakenByAll 7 = .ok (.iload_n 2, 1) := by decide +kernel
theorem dX0_isTakenByAll_8 : decode cX0_isTakenByAll 8 = .ok (.invokevirtual 60, 3) := by decide +kernel
theorem dX0_isTakenByAll_11 : decode cX0_isTakenByAll 11 = .ok (.if_icmp .ge 21, 3) := by decide +kernel
theorem dX0_isTakenByAll_14 : decode cX0_isTakenByAll 14 = .ok (.aload_n 0, 1) := by decide +kernel
theorem dX0_isTakenByAll_15 : decode cX0_isTakenByAll 15 = .ok (.iload_n 1, 1) := by decide +kernel
theorem dX0_isTakenByAll_16 : decode cX0_isTakenByAll 16 = .ok (.iload_n 2, 1) := by decide +kernel
theorem dX0_isTakenByAll_17 : decode cX0_isTakenByAll 17 = .ok (.iload_n 3, 1) := by decide +kernel
theorem dX0_isTakenByAll_18 : decode cX0_isTakenByAll 18 = .ok (.invokevirtual 96, 3) := by decide +kernel
theorem dX0_isTakenByAll_21 : decode cX0_isTakenByAll 21 = .ok (.ifCond .ne 5, 3) := by decide +kernel
theorem dX0_isTakenByAll_24 : decode cX0_isTakenByAll 24 = .ok (.iconst 0, 1) := by decide +kernel
theorem dX0_isTakenByAll_25 : decode cX0_isTakenByAll 25 = .ok (.ireturn, 1) := by decide +kernel
theorem dX0_isTakenByAll_26 : decode cX0_isTakenByAll 26 = .ok (.iinc 3 2, 3) := by decide +kernel
theorem dX0_isTakenByAll_29 : decode cX0_isTakenByAll 29 = .ok (.goto (-27), 3) := by decide +kernel
theorem dX0_isTakenByAll_32 : decode cX0_isTakenByAll 32 = .ok (.iconst 1, 1) := by decide +kernel
theorem dX0_isTakenByAll_33 : decode cX0_isTakenByAll 33 = .ok (.ireturn, 1) := by decide +kernel
set_option maxHeartbeats 4000000 in
set_option maxRecDepth 100000 in
theorem x_isTakenByAll (l : Launch) (D : va_G) (k : Nat → ClassId) (st : Nat → Nat) (lo : Nat) (h0 : Nat) (h1 : Nat) (h2 : Nat) (h3 : Nat) (h4 : Nat) (n : Nat) (see : Nat) (tm : Nat) (g : Nat → Int32) (fp : Nat → Int32) (fl : Nat → Int32) (w0 : Nat) (w1 : Nat) (w2 : Nat) (w3 : Nat) (w4 : Nat) (on : Nat → Int32) (rn : Nat) (i : Nat) (hn : n ≤ 24) (hsee : see ≤ 2) (hrn : rn ≤ 3) (hi : i < n) : CRi l D k st lo yX0_isTakenByAll cX0_isTakenByAll 4 (some .boolean) ({ frames := 3, cells := 0, slots := 0, locals := 81 }) [.ref w0, .int (nI rn), .int (nI i)] [(h0, .inr (5, (fX5 h1 h2 h3 h4))), (aI k h1 10 (vv n see tm g)), (aI k h3 24 fp), (aI k h4 4 fl), (w0, .inr (0, (fX0 h0 w1 w2 w3 w4))), (aI k w1 768 on)] (fun r => r = 1 ∨ r = 0) := by
  intro sz
  refine Met.ofW (cc := cX0_isTakenByAll) (maxL := 4) (ret := (some .boolean)) (by decide) rfl ?_
  intro p e s m args below meth c s₁ B hml hv
  obtain ⟨rfl, hsz, hlo, hP, hK, hDL, hZ⟩ := hv
  have hx := B.exec
  have hb := B.bytes
  have hr := B.returns
  have hts := WS_ts B.pre
  have hown : s.vm.findClass RX0 = some m.cls := findClass_of_methodNamed B.named
  have hlocks := B.notSynchronized
  subst hsz
  have hA : ∀ q : Nat, s.heap.size ≤ q → (fun q : Nat => s.heap.size ≤ q) q := fun _ h => h
  have hAlo : ∀ q : Nat, (fun q : Nat => s.heap.size ≤ q) q → lo ≤ q := fun q h => Nat.le_trans hlo h
  have hS : va_S (fun q : Nat => s.heap.size ≤ q) s.heap s.heap [] := va_S.rf
  have hl := lv_entry ([.ref w0, .int (nI rn), .int (nI i)]) (n := 4) (Nat.le_of_ble_eq_true rfl)
  rw [lg_entry_eq]
  generalize (lg_sl ([.ref w0, .int (nI rn), .int (nI i)]) ++ List.replicate (4 - (lg_sl ([.ref w0, .int (nI rn), .int (nI i)])).length) Slot.unset).toArray = ls at hl ⊢
  have hl : lv_has ls 4 [(0, .ref w0), (1, .int (nI rn)), (2, .int (nI i))] := hl
  refine lv_iconst (v := 1) hx hb dX0_isTakenByAll_0 (by decide) ?_
  refine lv_istore_n (lv' := [(3, .int 1), (0, .ref w0), (1, .int (nI rn)), (2, .int (nI i))]) hx hb dX0_isTakenByAll_1 rfl hl (by decide) rfl (fun ls hl => ?_)
  refine W_loop (σ := Nat) (fun (n_ : Nat) (g2_1 : Nat) (H : Heap) (locs : List Loc) (ls : Array Slot) => n_ = 10 - g2_1 ∧ (g2_1 ≤ 9) ∧ va_P D classes [(h0, .inr (5, (fX5 h1 h2 h3 h4))), (aI k h1 10 (vv n see tm g)), (aI k h3 24 fp), (aI k h4 4 fl), (w0, .inr (0, (fX0 h0 w1 w2 w3 w4))), (aI k w1 768 on)] H ∧ va_S (fun q : Nat => s.heap.size ≤ q) s.heap H locs ∧ lv_has ls 4 [(3, .int (nI g2_1)), (0, .ref w0), (1, .int (nI rn)), (2, .int (nI i))]) (fun n_1 x_1 H locs ls hI ih_1 => ?_) _ 1 ⟨rfl, (by omega), hP, hS, (lv_sub hl [0, 1, 2, 3] rfl)⟩
  obtain ⟨g2_1, rfl⟩ : ∃ z, z = x_1 := ⟨_, rfl⟩
  obtain ⟨hm_1, hv_1, hP, hS, hl⟩ := hI
  subst hm_1
  refine lv_iload_n hx hb dX0_isTakenByAll_2 rfl (lv_at hl 0 rfl) ?_
  refine lv_aload_n hx hb dX0_isTakenByAll_3 rfl (lv_at hl 1 rfl) ?_
  refine va_get (D := D) (ci := 0) (v := .ref h0) (C := RX0) (T := TX0) (N := 5) hx hb hts inX0 hown hK hP 4 rfl rfl 0 (by decide) (hts _ tw_266) (fun _ h9 => h9) rfl dX0_isTakenByAll_4 ?_
  refine lv_iload_n hx hb dX0_isTakenByAll_7 rfl (lv_at hl 3 rfl) ?_
  refine ro_i (D := D) (va_runV (As := [.int (nI i)]) (rest := [.int (nI g2_1)]) ⟨hx, hb, hml, hown, hts⟩ ((x_sightsAt l D k st lo h0 h1 h2 h3 h4 n see tm g i (by omega) (by omega) (by omega)) H.size) (cwV 1 hts (gV tw_536 tw_537 tw_538 tw_81 tw_539) rfl rfl rfl (by decide +kernel) ⟨Nat.le_of_ble_eq_true rfl, Nat.le_of_ble_eq_true rfl⟩) (pV hS hAlo hlo hP hK hDL hZ [0, 1] (by decide) rfl (ci := 5) (q := (RX5, TX5, 4)) (q0 := 0) rfl rfl) rfl rfl hl.1 rfl (lv_room (Nat.le_of_ble_eq_true rfl)) dX0_isTakenByAll_8 ⟨Nat.le_of_ble_eq_true rfl, Nat.le_of_ble_eq_true rfl⟩) hS hA hP (fun r_2 H locs hw_2 hP hS => ?_)
  try dsimp only at hw_2
  obtain ⟨zs_3, rfl, hza_3, hzb_3, hzq_3⟩ := hw_2
  refine lv_icmp_ge (tgt := 32) hx hb dX0_isTakenByAll_11 (by decide) (fun c_4 => ?_) (fun c_4 => ?_)
  · have c_4 := (nI_leI (a := zs_3) (b := g2_1) (by omega) (by omega)).mp c_4
    refine lv_iconst (v := 1) hx hb dX0_isTakenByAll_32 (by decide) ?_
    exact W.zret (v := 1) (ty := .boolean) hx hb hr rfl (fun t ht hW => ⟨⟨1, (), rfl, .inl rfl, trivial⟩, hS.F ht⟩) hS.2.2 dX0_isTakenByAll_33
  · have c_4 : ¬ (zs_3 ≤ g2_1) := fun h => c_4 ((nI_leI (a := zs_3) (b := g2_1) (by omega) (by omega)).mpr h)
    refine lv_aload_n hx hb dX0_isTakenByAll_14 rfl (lv_at hl 1 rfl) ?_
    refine lv_iload_n hx hb dX0_isTakenByAll_15 rfl (lv_at hl 2 rfl) ?_
    refine lv_iload_n hx hb dX0_isTakenByAll_16 rfl (lv_at hl 3 rfl) ?_
    refine lv_iload_n hx hb dX0_isTakenByAll_17 rfl (lv_at hl 0 rfl) ?_
    refine ro_i (D := D) (va_runV (As := [.int (nI rn), .int (nI i), .int (nI g2_1)]) (rest := []) ⟨hx, hb, hml, hown, hts⟩ ((x_isTaken l D k st lo h0 h1 h2 h3 h4 n see tm g fp fl w0 w1 w2 w3 w4 on rn i g2_1 (by omega) (by omega) (by omega)) H.size) (cwV 3 hts (gV tw_662 tw_638 tw_639 tw_85 tw_640) rfl rfl rfl (by decide +kernel) ⟨Nat.le_of_ble_eq_true rfl, Nat.le_of_ble_eq_true rfl⟩) (pV hS hAlo hlo hP hK hDL hZ [0, 1, 2, 3, 4, 5] (by decide) rfl (ci := 0) (q := (RX0, TX0, 5)) (q0 := 4) rfl rfl) rfl rfl hl.1 rfl (lv_room (Nat.le_of_ble_eq_true rfl)) dX0_isTakenByAll_18 ⟨Nat.le_of_ble_eq_true rfl, Nat.le_of_ble_eq_true rfl⟩) hS hA hP (fun r_5 H locs hw_5 hP hS => ?_)
    try dsimp only at hw_5
    rcases hw_5 with rfl | rfl
    · refine lv_if_ne (tgt := 26) hx hb dX0_isTakenByAll_21 (by decide) (fun _ => ?_) (fun h => absurd h (by decide))
      refine lv_iinc (v := (nI (g2_1 + 2))) (lv' := [(3, .int (nI (g2_1 + 2))), (0, .ref w0), (1, .int (nI rn)), (2, .int (nI i))]) hx hb dX0_isTakenByAll_26 hl (k := 0) rfl (nI_add g2_1 2) (by decide) rfl (fun ls hl => ?_)
      refine lv_goto (tgt := 2) hx hb dX0_isTakenByAll_29 (by decide) ?_
      exact ih_1 _ (g2_1 + 2) _ _ _ (by omega) ⟨rfl, (by omega), hP, hS, (lv_sub hl [0, 1, 2, 3] rfl)⟩
    · refine lv_if_ne (tgt := 26) hx hb dX0_isTakenByAll_21 (by decide) (fun h => absurd (by decide) h) (fun _ => ?_)
      refine lv_iconst (v := 0) hx hb dX0_isTakenByAll_24 (by decide) ?_
      exact W.zret (v := 0) (ty := .boolean) hx hb hr rfl (fun t ht hW => ⟨⟨0, (), rfl, .inr rfl, trivial⟩, hS.F ht⟩) hS.2.2 dX0_isTakenByAll_25

theorem dX0_isTakenByAny_0 : decode cX0_isTakenByAny 0 = .ok (.iconst 1, 1) := by decide +kernel
theorem dX0_isTakenByAny_1 : decode cX0_isTakenByAny 1 = .ok (.istore_n 3, 1) := by decide +kernel
theorem dX0_isTakenByAny_2 : decode cX0_isTakenByAny 2 = .ok (.iload_n 3, 1) := by decide +kernel
theorem dX0_isTakenByAny_3 : decode cX0_isTakenByAny 3 = .ok (.aload_n 0, 1) := by decide +kernel
theorem dX0_isTakenByAny_4 : decode cX0_isTakenByAny 4 = .ok (.getfield 24, 3) := by decide +kernel
theorem dX0_isTakenByAny_7 : decode cX0_isTakenByAny 7 = .ok (.iload_n 2, 1) := by decide +kernel
theorem dX0_isTakenByAny_8 : decode cX0_isTakenByAny 8 = .ok (.invokevirtual 60, 3) := by decide +kernel
theorem dX0_isTakenByAny_11 : decode cX0_isTakenByAny 11 = .ok (.if_icmp .ge 21, 3) := by decide +kernel
theorem dX0_isTakenByAny_14 : decode cX0_isTakenByAny 14 = .ok (.aload_n 0, 1) := by decide +kernel
theorem dX0_isTakenByAny_15 : decode cX0_isTakenByAny 15 = .ok (.iload_n 1, 1) := by decide +kernel
theorem dX0_isTakenByAny_16 : decode cX0_isTakenByAny 16 = .ok (.iload_n 2, 1) := by decide +kernel
theorem dX0_isTakenByAny_17 : decode cX0_isTakenByAny 17 = .ok (.iload_n 3, 1) := by decide +kernel
theorem dX0_isTakenByAny_18 : decode cX0_isTakenByAny 18 = .ok (.invokevirtual 96, 3) := by decide +kernel
theorem dX0_isTakenByAny_21 : decode cX0_isTakenByAny 21 = .ok (.ifCond .eq 5, 3) := by decide +kernel
theorem dX0_isTakenByAny_24 : decode cX0_isTakenByAny 24 = .ok (.iconst 1, 1) := by decide +kernel
theorem dX0_isTakenByAny_25 : decode cX0_isTakenByAny 25 = .ok (.ireturn, 1) := by decide +kernel
theorem dX0_isTakenByAny_26 : decode cX0_isTakenByAny 26 = .ok (.iinc 3 2, 3) := by decide +kernel
theorem dX0_isTakenByAny_29 : decode cX0_isTakenByAny 29 = .ok (.goto (-27), 3) := by decide +kernel
theorem dX0_isTakenByAny_32 : decode cX0_isTakenByAny 32 = .ok (.iconst 0, 1) := by decide +kernel
theorem dX0_isTakenByAny_33 : decode cX0_isTakenByAny 33 = .ok (.ireturn, 1) := by decide +kernel
set_option maxHeartbeats 4000000 in
set_option maxRecDepth 100000 in
theorem x_isTakenByAny (l : Launch) (D : va_G) (k : Nat → ClassId) (st : Nat → Nat) (lo : Nat) (h0 : Nat) (h1 : Nat) (h2 : Nat) (h3 : Nat) (h4 : Nat) (n : Nat) (see : Nat) (tm : Nat) (g : Nat → Int32) (fp : Nat → Int32) (fl : Nat → Int32) (w0 : Nat) (w1 : Nat) (w2 : Nat) (w3 : Nat) (w4 : Nat) (on : Nat → Int32) (rn : Nat) (i : Nat) (hn : n ≤ 24) (hsee : see ≤ 2) (hrn : rn ≤ 3) (hi : i < n) : CRi l D k st lo yX0_isTakenByAny cX0_isTakenByAny 4 (some .boolean) ({ frames := 3, cells := 0, slots := 0, locals := 81 }) [.ref w0, .int (nI rn), .int (nI i)] [(h0, .inr (5, (fX5 h1 h2 h3 h4))), (aI k h1 10 (vv n see tm g)), (aI k h3 24 fp), (aI k h4 4 fl), (w0, .inr (0, (fX0 h0 w1 w2 w3 w4))), (aI k w1 768 on)] (fun r => r = 1 ∨ r = 0) := by
  intro sz
  refine Met.ofW (cc := cX0_isTakenByAny) (maxL := 4) (ret := (some .boolean)) (by decide) rfl ?_
  intro p e s m args below meth c s₁ B hml hv
  obtain ⟨rfl, hsz, hlo, hP, hK, hDL, hZ⟩ := hv
  have hx := B.exec
  have hb := B.bytes
  have hr := B.returns
  have hts := WS_ts B.pre
  have hown : s.vm.findClass RX0 = some m.cls := findClass_of_methodNamed B.named
  have hlocks := B.notSynchronized
  subst hsz
  have hA : ∀ q : Nat, s.heap.size ≤ q → (fun q : Nat => s.heap.size ≤ q) q := fun _ h => h
  have hAlo : ∀ q : Nat, (fun q : Nat => s.heap.size ≤ q) q → lo ≤ q := fun q h => Nat.le_trans hlo h
  have hS : va_S (fun q : Nat => s.heap.size ≤ q) s.heap s.heap [] := va_S.rf
  have hl := lv_entry ([.ref w0, .int (nI rn), .int (nI i)]) (n := 4) (Nat.le_of_ble_eq_true rfl)
  rw [lg_entry_eq]
  generalize (lg_sl ([.ref w0, .int (nI rn), .int (nI i)]) ++ List.replicate (4 - (lg_sl ([.ref w0, .int (nI rn), .int (nI i)])).length) Slot.unset).toArray = ls at hl ⊢
  have hl : lv_has ls 4 [(0, .ref w0), (1, .int (nI rn)), (2, .int (nI i))] := hl
  refine lv_iconst (v := 1) hx hb dX0_isTakenByAny_0 (by decide) ?_
  refine lv_istore_n (lv' := [(3, .int 1), (0, .ref w0), (1, .int (nI rn)), (2, .int (nI i))]) hx hb dX0_isTakenByAny_1 rfl hl (by decide) rfl (fun ls hl => ?_)
  refine W_loop (σ := Nat) (fun (n_ : Nat) (g2_1 : Nat) (H : Heap) (locs : List Loc) (ls : Array Slot) => n_ = 10 - g2_1 ∧ (g2_1 ≤ 9) ∧ va_P D classes [(h0, .inr (5, (fX5 h1 h2 h3 h4))), (aI k h1 10 (vv n see tm g)), (aI k h3 24 fp), (aI k h4 4 fl), (w0, .inr (0, (fX0 h0 w1 w2 w3 w4))), (aI k w1 768 on)] H ∧ va_S (fun q : Nat => s.heap.size ≤ q) s.heap H locs ∧ lv_has ls 4 [(3, .int (nI g2_1)), (0, .ref w0), (1, .int (nI rn)), (2, .int (nI i))]) (fun n_1 x_1 H locs ls hI ih_1 => ?_) _ 1 ⟨rfl, (by omega), hP, hS, (lv_sub hl [0, 1, 2, 3] rfl)⟩
  obtain ⟨g2_1, rfl⟩ : ∃ z, z = x_1 := ⟨_, rfl⟩
  obtain ⟨hm_1, hv_1, hP, hS, hl⟩ := hI
  subst hm_1
  refine lv_iload_n hx hb dX0_isTakenByAny_2 rfl (lv_at hl 0 rfl) ?_
  refine lv_aload_n hx hb dX0_isTakenByAny_3 rfl (lv_at hl 1 rfl) ?_
  refine va_get (D := D) (ci := 0) (v := .ref h0) (C := RX0) (T := TX0) (N := 5) hx hb hts inX0 hown hK hP 4 rfl rfl 0 (by decide) (hts _ tw_266) (fun _ h9 => h9) rfl dX0_isTakenByAny_4 ?_
  refine lv_iload_n hx hb dX0_isTakenByAny_7 rfl (lv_at hl 3 rfl) ?_
  refine ro_i (D := D) (va_runV (As := [.int (nI i)]) (rest := [.int (nI g2_1)]) ⟨hx, hb, hml, hown, hts⟩ ((x_sightsAt l D k st lo h0 h1 h2 h3 h4 n see tm g i (by omega) (by omega) (by omega)) H.size) (cwV 1 hts (gV tw_536 tw_537 tw_538 tw_81 tw_539) rfl rfl rfl (by decide +kernel) ⟨Nat.le_of_ble_eq_true rfl, Nat.le_of_ble_eq_true rfl⟩) (pV hS hAlo hlo hP hK hDL hZ [0, 1] (by decide) rfl (ci := 5) (q := (RX5, TX5, 4)) (q0 := 0) rfl rfl) rfl rfl hl.1 rfl (lv_room (Nat.le_of_ble_eq_true rfl)) dX0_isTakenByAny_8 ⟨Nat.le_of_ble_eq_true rfl, Nat.le_of_ble_eq_true rfl⟩) hS hA hP (fun r_2 H locs hw_2 hP hS => ?_)
  try dsimp only at hw_2
  obtain ⟨zs_3, rfl, hza_3, hzb_3, hzq_3⟩ := hw_2
  refine lv_icmp_ge (tgt := 32) hx hb dX0_isTakenByAny_11 (by decide) (fun c_4 => ?_) (fun c_4 => ?_)
  · have c_4 := (nI_leI (a := zs_3) (b := g2_1) (by omega) (by omega)).mp c_4
    refine lv_iconst (v := 0) hx hb dX0_isTakenByAny_32 (by decide) ?_
    exact W.zret (v := 0) (ty := .boolean) hx hb hr rfl (fun t ht hW => ⟨⟨0, (), rfl, .inr rfl, trivial⟩, hS.F ht⟩) hS.2.2 dX0_isTakenByAny_33
  · have c_4 : ¬ (zs_3 ≤ g2_1) := fun h => c_4 ((nI_leI (a := zs_3) (b := g2_1) (by omega) (by omega)).mpr h)
    refine lv_aload_n hx hb dX0_isTakenByAny_14 rfl (lv_at hl 1 rfl) ?_
    refine lv_iload_n hx hb dX0_isTakenByAny_15 rfl (lv_at hl 2 rfl) ?_
    refine lv_iload_n hx hb dX0_isTakenByAny_16 rfl (lv_at hl 3 rfl) ?_
    refine lv_iload_n hx hb dX0_isTakenByAny_17 rfl (lv_at hl 0 rfl) ?_
    refine ro_i (D := D) (va_runV (As := [.int (nI rn), .int (nI i), .int (nI g2_1)]) (rest := []) ⟨hx, hb, hml, hown, hts⟩ ((x_isTaken l D k st lo h0 h1 h2 h3 h4 n see tm g fp fl w0 w1 w2 w3 w4 on rn i g2_1 (by omega) (by omega) (by omega)) H.size) (cwV 3 hts (gV tw_662 tw_638 tw_639 tw_85 tw_640) rfl rfl rfl (by decide +kernel) ⟨Nat.le_of_ble_eq_true rfl, Nat.le_of_ble_eq_true rfl⟩) (pV hS hAlo hlo hP hK hDL hZ [0, 1, 2, 3, 4, 5] (by decide) rfl (ci := 0) (q := (RX0, TX0, 5)) (q0 := 4) rfl rfl) rfl rfl hl.1 rfl (lv_room (Nat.le_of_ble_eq_true rfl)) dX0_isTakenByAny_18 ⟨Nat.le_of_ble_eq_true rfl, Nat.le_of_ble_eq_true rfl⟩) hS hA hP (fun r_5 H locs hw_5 hP hS => ?_)
    try dsimp only at hw_5
    rcases hw_5 with rfl | rfl
    · refine lv_if_eq (tgt := 26) hx hb dX0_isTakenByAny_21 (by decide) (fun h => absurd h (by decide)) (fun _ => ?_)
      refine lv_iconst (v := 1) hx hb dX0_isTakenByAny_24 (by decide) ?_
      exact W.zret (v := 1) (ty := .boolean) hx hb hr rfl (fun t ht hW => ⟨⟨1, (), rfl, .inl rfl, trivial⟩, hS.F ht⟩) hS.2.2 dX0_isTakenByAny_25
    · refine lv_if_eq (tgt := 26) hx hb dX0_isTakenByAny_21 (by decide) (fun _ => ?_) (fun h => absurd (by decide) h)
      refine lv_iinc (v := (nI (g2_1 + 2))) (lv' := [(3, .int (nI (g2_1 + 2))), (0, .ref w0), (1, .int (nI rn)), (2, .int (nI i))]) hx hb dX0_isTakenByAny_26 hl (k := 0) rfl (nI_add g2_1 2) (by decide) rfl (fun ls hl => ?_)
      refine lv_goto (tgt := 2) hx hb dX0_isTakenByAny_29 (by decide) ?_
      exact ih_1 _ (g2_1 + 2) _ _ _ (by omega) ⟨rfl, (by omega), hP, hS, (lv_sub hl [0, 1, 2, 3] rfl)⟩

theorem dX0_barOf_0 : decode cX0_barOf 0 = .ok (.aload_n 0, 1) := by decide +kernel
theorem dX0_barOf_1 : decode cX0_barOf 1 = .ok (.getfield 24, 3) := by decide +kernel
theorem dX0_barOf_4 : decode cX0_barOf 4 = .ok (.invokevirtual 37, 3) := by decide +kernel
theorem dX0_barOf_7 : decode cX0_barOf 7 = .ok (.istore_n 2, 1) := by decide +kernel
theorem dX0_barOf_8 : decode cX0_barOf 8 = .ok (.iload_n 2, 1) := by decide +kernel
theorem dX0_barOf_9 : decode cX0_barOf 9 = .ok (.ifCond .le 20, 3) := by decide +kernel
theorem dX0_barOf_12 : decode cX0_barOf 12 = .ok (.aload_n 0, 1) := by decide +kernel
theorem dX0_barOf_13 : decode cX0_barOf 13 = .ok (.iload_n 1, 1) := by decide +kernel
theorem dX0_barOf_14 : decode cX0_barOf 14 = .ok (.iload_n 2, 1) := by decide +kernel
theorem dX0_barOf_15 : decode cX0_barOf 15 = .ok (.iconst 1, 1) := by decide +kernel
theorem dX0_barOf_16 : decode cX0_barOf 16 = .ok (.isub, 1) := by decide +kernel
theorem dX0_barOf_17 : decode cX0_barOf 17 = .ok (.invokevirtual 89, 3) := by decide +kernel
theorem dX0_barOf_20 : decode cX0_barOf 20 = .ok (.ifCond .eq 9, 3) := by decide +kernel
theorem dX0_barOf_23 : decode cX0_barOf 23 = .ok (.iinc 2 (-1), 3) := by decide +kernel
theorem dX0_barOf_26 : decode cX0_barOf 26 = .ok (.goto (-18), 3) := by decide +kernel
theorem dX0_barOf_29 : decode cX0_barOf 29 = .ok (.iconst 0, 1) := by decide +kernel
theorem dX0_barOf_30 : decode cX0_barOf 30 = .ok (.istore_n 3, 1) := by decide +kernel
theorem dX0_barOf_31 : decode cX0_barOf 31 = .ok (.iload_n 3, 1) := by decide +kernel
theorem dX0_barOf_32 : decode cX0_barOf 32 = .ok (.iload_n 2, 1) := by decide +kernel
theorem dX0_barOf_33 : decode cX0_barOf 33 = .ok (.if_icmp .ge 20, 3) := by decide +kernel
theorem dX0_barOf_36 : decode cX0_barOf 36 = .ok (.aload_n 0, 1) := by decide +kernel
theorem dX0_barOf_37 : decode cX0_barOf 37 = .ok (.iload_n 1, 1) := by decide +kernel
theorem dX0_barOf_38 : decode cX0_barOf 38 = .ok (.iload_n 3, 1) := by decide +kernel
theorem dX0_barOf_39 : decode cX0_barOf 39 = .ok (.invokevirtual 93, 3) := by decide +kernel
theorem dX0_barOf_42 : decode cX0_barOf 42 = .ok (.ifCond .eq 5, 3) := by decide +kernel
theorem dX0_barOf_45 : decode cX0_barOf 45 = .ok (.iconst (-1), 1) := by decide +kernel
theorem dX0_barOf_46 : decode cX0_barOf 46 = .ok (.ireturn, 1) := by decide +kernel
theorem dX0_barOf_47 : decode cX0_barOf 47 = .ok (.iinc 3 1, 3) := by decide +kernel
theorem dX0_barOf_50 : decode cX0_barOf 50 = .ok (.goto (-19), 3) := by decide +kernel
theorem dX0_barOf_53 : decode cX0_barOf 53 = .ok (.iload_n 2, 1) := by decide +kernel
theorem dX0_barOf_54 : decode cX0_barOf 54 = .ok (.ireturn, 1) := by decide +kernel
set_option maxHeartbeats 4000000 in
set_option maxRecDepth 100000 in
theorem x_barOf (l : Launch) (D : va_G) (k : Nat → ClassId) (st : Nat → Nat) (lo : Nat) (h0 : Nat) (h1 : Nat) (h2 : Nat) (h3 : Nat) (h4 : Nat) (n : Nat) (see : Nat) (tm : Nat) (g : Nat → Int32) (fp : Nat → Int32) (fl : Nat → Int32) (w0 : Nat) (w1 : Nat) (w2 : Nat) (w3 : Nat) (w4 : Nat) (on : Nat → Int32) (rn : Nat) (hn : n ≤ 24) (hsee : see ≤ 2) (hrn : rn ≤ 3) : CRi l D k st lo yX0_barOf cX0_barOf 4 (some .int) ({ frames := 4, cells := 0, slots := 0, locals := 104 }) [.ref w0, .int (nI rn)] [(h0, .inr (5, (fX5 h1 h2 h3 h4))), (aI k h1 10 (vv n see tm g)), (aI k h3 24 fp), (aI k h4 4 fl), (w0, .inr (0, (fX0 h0 w1 w2 w3 w4))), (aI k w1 768 on)] (fun _ => True) := by
  intro sz
  refine Met.ofW (cc := cX0_barOf) (maxL := 4) (ret := (some .int)) (by decide) rfl ?_
  intro p e s m args below meth c s₁ B hml hv
  obtain ⟨rfl, hsz, hlo, hP, hK, hDL, hZ⟩ := hv
  have hx := B.exec
  have hb := B.bytes
  have hr := B.returns
  have hts := WS_ts B.pre
  have hown : s.vm.findClass RX0 = some m.cls := findClass_of_methodNamed B.named
  have hlocks := B.notSynchronized
  subst hsz
  have hA : ∀ q : Nat, s.heap.size ≤ q → (fun q : Nat => s.heap.size ≤ q) q := fun _ h => h
  have hAlo : ∀ q : Nat, (fun q : Nat => s.heap.size ≤ q) q → lo ≤ q := fun q h => Nat.le_trans hlo h
  have hS : va_S (fun q : Nat => s.heap.size ≤ q) s.heap s.heap [] := va_S.rf
  have hl := lv_entry ([.ref w0, .int (nI rn)]) (n := 4) (Nat.le_of_ble_eq_true rfl)
  rw [lg_entry_eq]
  generalize (lg_sl ([.ref w0, .int (nI rn)]) ++ List.replicate (4 - (lg_sl ([.ref w0, .int (nI rn)])).length) Slot.unset).toArray = ls at hl ⊢
  have hl : lv_has ls 4 [(0, .ref w0), (1, .int (nI rn))] := hl
  refine lv_aload_n hx hb dX0_barOf_0 rfl (lv_at hl 0 rfl) ?_
  refine va_get (D := D) (ci := 0) (v := .ref h0) (C := RX0) (T := TX0) (N := 5) hx hb hts inX0 hown hK hP 4 rfl rfl 0 (by decide) (hts _ tw_266) (fun _ h9 => h9) rfl dX0_barOf_1 ?_
  refine ro_i (D := D) (va_runV (As := []) (rest := []) ⟨hx, hb, hml, hown, hts⟩ ((x_doors l D k st lo h0 h1 h2 h3 h4 n see tm g) s.heap.size) (cwV 0 hts (gV tw_531 tw_478 tw_479 tw_81 tw_480) rfl rfl rfl (by decide +kernel) ⟨Nat.le_of_ble_eq_true rfl, Nat.le_of_ble_eq_true rfl⟩) (pV hS hAlo hlo hP hK hDL hZ [0, 1] (by decide) rfl (ci := 5) (q := (RX5, TX5, 4)) (q0 := 0) rfl rfl) rfl rfl hl.1 rfl (lv_room (Nat.le_of_ble_eq_true rfl)) dX0_barOf_4 ⟨Nat.le_of_ble_eq_true rfl, Nat.le_of_ble_eq_true rfl⟩) hS hA hP (fun r_1 H locs hw_1 hP hS => ?_)
  try dsimp only at hw_1
  subst hw_1
  refine lv_istore_n (lv' := [(2, .int (nI n)), (0, .ref w0), (1, .int (nI rn))]) hx hb dX0_barOf_7 rfl hl (by decide) rfl (fun ls hl => ?_)
  refine W_loop (σ := Nat) (fun (n_ : Nat) (bb_2 : Nat) (H : Heap) (locs : List Loc) (ls : Array Slot) => n_ = 2 * bb_2 ∧ (bb_2 ≤ n) ∧ va_P D classes [(h0, .inr (5, (fX5 h1 h2 h3 h4))), (aI k h1 10 (vv n see tm g)), (aI k h3 24 fp), (aI k h4 4 fl), (w0, .inr (0, (fX0 h0 w1 w2 w3 w4))), (aI k w1 768 on)] H ∧ va_S (fun q : Nat => s.heap.size ≤ q) s.heap H locs ∧ lv_has ls 4 [(2, .int (nI bb_2)), (0, .ref w0), (1, .int (nI rn))]) (fun n_2 x_2 H locs ls hI ih_2 => ?_) _ n ⟨rfl, (by omega), hP, hS, (lv_sub hl [0, 1, 2] rfl)⟩
  obtain ⟨bb_2, rfl⟩ : ∃ z, z = x_2 := ⟨_, rfl⟩
  obtain ⟨hm_2, hv_2, hP, hS, hl⟩ := hI
  subst hm_2
  refine lv_iload_n hx hb dX0_barOf_8 rfl (lv_at hl 0 rfl) ?_
  refine lv_if_le (tgt := 29) hx hb dX0_barOf_9 (by decide) (fun c_3 => ?_) (fun c_3 => ?_)
  · have c_3 := (nI_leI (a := bb_2) (b := 0) (by omega) (by omega)).mp c_3
    refine lv_iconst (v := 0) hx hb dX0_barOf_29 (by decide) ?_
    refine lv_istore_n (lv' := [(3, .int 0), (2, .int (nI bb_2)), (0, .ref w0), (1, .int (nI rn))]) hx hb dX0_barOf_30 rfl hl (by decide) rfl (fun ls hl => ?_)
    refine W_loop (σ := Nat) (fun (n_ : Nat) (ii_4 : Nat) (H : Heap) (locs : List Loc) (ls : Array Slot) => n_ = 25 - ii_4 ∧ (ii_4 ≤ 24) ∧ va_P D classes [(h0, .inr (5, (fX5 h1 h2 h3 h4))), (aI k h1 10 (vv n see tm g)), (aI k h3 24 fp), (aI k h4 4 fl), (w0, .inr (0, (fX0 h0 w1 w2 w3 w4))), (aI k w1 768 on)] H ∧ va_S (fun q : Nat => s.heap.size ≤ q) s.heap H locs ∧ lv_has ls 4 [(3, .int (nI ii_4)), (2, .int (nI bb_2)), (0, .ref w0), (1, .int (nI rn))]) (fun n_4 x_4 H locs ls hI ih_4 => ?_) _ 0 ⟨rfl, (by omega), hP, hS, (lv_sub hl [0, 1, 2, 3] rfl)⟩
    obtain ⟨ii_4, rfl⟩ : ∃ z, z = x_4 := ⟨_, rfl⟩
    obtain ⟨hm_4, hv_4, hP, hS, hl⟩ := hI
    subst hm_4
    refine lv_iload_n hx hb dX0_barOf_31 rfl (lv_at hl 0 rfl) ?_
    refine lv_iload_n hx hb dX0_barOf_32 rfl (lv_at hl 1 rfl) ?_
    refine lv_icmp_ge (tgt := 53) hx hb dX0_barOf_33 (by decide) (fun c_5 => ?_) (fun c_5 => ?_)
    · have c_5 := (nI_leI (a := bb_2) (b := ii_4) (by omega) (by omega)).mp c_5
      refine lv_iload_n hx hb dX0_barOf_53 rfl (lv_at hl 1 rfl) ?_
      exact W.iret (v := (nI bb_2)) hx hb hr (fun t ht hW => ⟨⟨(nI bb_2), (), rfl, trivial, trivial⟩, hS.F ht⟩) hS.2.2 dX0_barOf_54
    · have c_5 : ¬ (bb_2 ≤ ii_4) := fun h => c_5 ((nI_leI (a := bb_2) (b := ii_4) (by omega) (by omega)).mpr h)
      refine lv_aload_n hx hb dX0_barOf_36 rfl (lv_at hl 2 rfl) ?_
      refine lv_iload_n hx hb dX0_barOf_37 rfl (lv_at hl 3 rfl) ?_
      refine lv_iload_n hx hb dX0_barOf_38 rfl (lv_at hl 0 rfl) ?_
      refine ro_i (D := D) (va_runV (As := [.int (nI rn), .int (nI ii_4)]) (rest := []) ⟨hx, hb, hml, hown, hts⟩ ((x_isTakenByAny l D k st lo h0 h1 h2 h3 h4 n see tm g fp fl w0 w1 w2 w3 w4 on rn ii_4 (by omega) (by omega) (by omega) (by omega)) H.size) (cwV 2 hts (gV tw_663 tw_665 tw_13 tw_85 tw_666) rfl rfl rfl (by decide +kernel) ⟨Nat.le_of_ble_eq_true rfl, Nat.le_of_ble_eq_true rfl⟩) (pV hS hAlo hlo hP hK hDL hZ [0, 1, 2, 3, 4, 5] (by decide) rfl (ci := 0) (q := (RX0, TX0, 5)) (q0 := 4) rfl rfl) rfl rfl hl.1 rfl (lv_room (Nat.le_of_ble_eq_true rfl)) dX0_barOf_39 ⟨Nat.le_of_ble_eq_true rfl, Nat.le_of_ble_eq_true rfl⟩) hS hA hP (fun r_6 H locs hw_6 hP hS => ?_)
      try dsimp only at hw_6
      rcases hw_6 with rfl | rfl
      · refine lv_if_eq (tgt := 47) hx hb dX0_barOf_42 (by decide) (fun h => absurd h (by decide)) (fun _ => ?_)
        refine lv_iconst (v := (-1)) hx hb dX0_barOf_45 (by decide) ?_
        exact W.iret (v := (-1)) hx hb hr (fun t ht hW => ⟨⟨(-1), (), rfl, trivial, trivial⟩, hS.F ht⟩) hS.2.2 dX0_barOf_46
      · refine lv_if_eq (tgt := 47) hx hb dX0_barOf_42 (by decide) (fun _ => ?_) (fun h => absurd (by decide) h)
        refine lv_iinc (v := (nI (ii_4 + 1))) (lv' := [(3, .int (nI (ii_4 + 1))), (2, .int (nI bb_2)), (0, .ref w0), (1, .int (nI rn))]) hx hb dX0_barOf_47 hl (k := 0) rfl (nI_add ii_4 1) (by decide) rfl (fun ls hl => ?_)
        refine lv_goto (tgt := 31) hx hb dX0_barOf_50 (by decide) ?_
        exact ih_4 _ (ii_4 + 1) _ _ _ (by omega) ⟨rfl, (by omega), hP, hS, (lv_sub hl [0, 1, 2, 3] rfl)⟩
  · have c_3 : ¬ (bb_2 ≤ 0) := fun h => c_3 ((nI_leI (a := bb_2) (b := 0) (by omega) (by omega)).mpr h)
    refine lv_aload_n hx hb dX0_barOf_12 rfl (lv_at hl 1 rfl) ?_
    refine lv_iload_n hx hb dX0_barOf_13 rfl (lv_at hl 2 rfl) ?_
    refine lv_iload_n hx hb dX0_barOf_14 rfl (lv_at hl 0 rfl) ?_
    refine lv_iconst (v := 1) hx hb dX0_barOf_15 (by decide) ?_
    refine lv_isub hx hb dX0_barOf_16 ?_
    refine lv_ti (y := (nI (bb_2 - 1))) (pk_sub (a := bb_2) (b := 1) (by omega)) ?_
    refine ro_i (D := D) (va_runV (As := [.int (nI rn), .int (nI (bb_2 - 1))]) (rest := []) ⟨hx, hb, hml, hown, hts⟩ ((x_isTakenByAll l D k st lo h0 h1 h2 h3 h4 n see tm g fp fl w0 w1 w2 w3 w4 on rn (bb_2 - 1) (by omega) (by omega) (by omega) (by omega)) H.size) (cwV 2 hts (gV tw_658 tw_660 tw_12 tw_85 tw_661) rfl rfl rfl (by decide +kernel) ⟨Nat.le_of_ble_eq_true rfl, Nat.le_of_ble_eq_true rfl⟩) (pV hS hAlo hlo hP hK hDL hZ [0, 1, 2, 3, 4, 5] (by decide) rfl (ci := 0) (q := (RX0, TX0, 5)) (q0 := 4) rfl rfl) rfl rfl hl.1 rfl (lv_room (Nat.le_of_ble_eq_true rfl)) dX0_barOf_17 ⟨Nat.le_of_ble_eq_true rfl, Nat.le_of_ble_eq_true rfl⟩) hS hA hP (fun r_7 H locs hw_7 hP hS => ?_)
    try dsimp only at hw_7
    rcases hw_7 with rfl | rfl
    · refine lv_if_eq (tgt := 29) hx hb dX0_barOf_20 (by decide) (fun h => absurd h (by decide)) (fun _ => ?_)
      refine lv_iinc (v := (nI (bb_2 - 1))) (lv' := [(2, .int (nI (bb_2 - 1))), (0, .ref w0), (1, .int (nI rn))]) hx hb dX0_barOf_23 hl (k := 0) rfl (by rw [dn1]; exact pk_sub (a := bb_2) (b := 1) (by omega)) (by decide) rfl (fun ls hl => ?_)
      refine lv_goto (tgt := 8) hx hb dX0_barOf_26 (by decide) ?_
      exact ih_2 _ (bb_2 - 1) _ _ _ (by omega) ⟨rfl, (by omega), hP, hS, (lv_sub hl [0, 1, 2] rfl)⟩
    · refine lv_if_eq (tgt := 29) hx hb dX0_barOf_20 (by decide) (fun _ => ?_) (fun h => absurd (by decide) h)
      refine lv_iconst (v := 0) hx hb dX0_barOf_29 (by decide) ?_
      refine lv_istore_n (lv' := [(3, .int 0), (2, .int (nI bb_2)), (0, .ref w0), (1, .int (nI rn))]) hx hb dX0_barOf_30 rfl hl (by decide) rfl (fun ls hl => ?_)
      refine W_loop (σ := Nat) (fun (n_ : Nat) (ii_8 : Nat) (H : Heap) (locs : List Loc) (ls : Array Slot) => n_ = 25 - ii_8 ∧ (ii_8 ≤ 24) ∧ va_P D classes [(h0, .inr (5, (fX5 h1 h2 h3 h4))), (aI k h1 10 (vv n see tm g)), (aI k h3 24 fp), (aI k h4 4 fl), (w0, .inr (0, (fX0 h0 w1 w2 w3 w4))), (aI k w1 768 on)] H ∧ va_S (fun q : Nat => s.heap.size ≤ q) s.heap H locs ∧ lv_has ls 4 [(3, .int (nI ii_8)), (2, .int (nI bb_2)), (0, .ref w0), (1, .int (nI rn))]) (fun n_8 x_8 H locs ls hI ih_8 => ?_) _ 0 ⟨rfl, (by omega), hP, hS, (lv_sub hl [0, 1, 2, 3] rfl)⟩
      obtain ⟨ii_8, rfl⟩ : ∃ z, z = x_8 := ⟨_, rfl⟩
      obtain ⟨hm_8, hv_8, hP, hS, hl⟩ := hI
      subst hm_8
      refine lv_iload_n hx hb dX0_barOf_31 rfl (lv_at hl 0 rfl) ?_
      refine lv_iload_n hx hb dX0_barOf_32 rfl (lv_at hl 1 rfl) ?_
      refine lv_icmp_ge (tgt := 53) hx hb dX0_barOf_33 (by decide) (fun c_9 => ?_) (fun c_9 => ?_)
      · have c_9 := (nI_leI (a := bb_2) (b := ii_8) (by omega) (by omega)).mp c_9
        refine lv_iload_n hx hb dX0_barOf_53 rfl (lv_at hl 1 rfl) ?_
        exact W.iret (v := (nI bb_2)) hx hb hr (fun t ht hW => ⟨⟨(nI bb_2), (), rfl, trivial, trivial⟩, hS.F ht⟩) hS.2.2 dX0_barOf_54
      · have c_9 : ¬ (bb_2 ≤ ii_8) := fun h => c_9 ((nI_leI (a := bb_2) (b := ii_8) (by omega) (by omega)).mpr h)
        refine lv_aload_n hx hb dX0_barOf_36 rfl (lv_at hl 2 rfl) ?_
        refine lv_iload_n hx hb dX0_barOf_37 rfl (lv_at hl 3 rfl) ?_
        refine lv_iload_n hx hb dX0_barOf_38 rfl (lv_at hl 0 rfl) ?_
        refine ro_i (D := D) (va_runV (As := [.int (nI rn), .int (nI ii_8)]) (rest := []) ⟨hx, hb, hml, hown, hts⟩ ((x_isTakenByAny l D k st lo h0 h1 h2 h3 h4 n see tm g fp fl w0 w1 w2 w3 w4 on rn ii_8 (by omega) (by omega) (by omega) (by omega)) H.size) (cwV 2 hts (gV tw_663 tw_665 tw_13 tw_85 tw_666) rfl rfl rfl (by decide +kernel) ⟨Nat.le_of_ble_eq_true rfl, Nat.le_of_ble_eq_true rfl⟩) (pV hS hAlo hlo hP hK hDL hZ [0, 1, 2, 3, 4, 5] (by decide) rfl (ci := 0) (q := (RX0, TX0, 5)) (q0 := 4) rfl rfl) rfl rfl hl.1 rfl (lv_room (Nat.le_of_ble_eq_true rfl)) dX0_barOf_39 ⟨Nat.le_of_ble_eq_true rfl, Nat.le_of_ble_eq_true rfl⟩) hS hA hP (fun r_10 H locs hw_10 hP hS => ?_)
        try dsimp only at hw_10
        rcases hw_10 with rfl | rfl
        · refine lv_if_eq (tgt := 47) hx hb dX0_barOf_42 (by decide) (fun h => absurd h (by decide)) (fun _ => ?_)
          refine lv_iconst (v := (-1)) hx hb dX0_barOf_45 (by decide) ?_
          exact W.iret (v := (-1)) hx hb hr (fun t ht hW => ⟨⟨(-1), (), rfl, trivial, trivial⟩, hS.F ht⟩) hS.2.2 dX0_barOf_46
        · refine lv_if_eq (tgt := 47) hx hb dX0_barOf_42 (by decide) (fun _ => ?_) (fun h => absurd (by decide) h)
          refine lv_iinc (v := (nI (ii_8 + 1))) (lv' := [(3, .int (nI (ii_8 + 1))), (2, .int (nI bb_2)), (0, .ref w0), (1, .int (nI rn))]) hx hb dX0_barOf_47 hl (k := 0) rfl (nI_add ii_8 1) (by decide) rfl (fun ls hl => ?_)
          refine lv_goto (tgt := 31) hx hb dX0_barOf_50 (by decide) ?_
          exact ih_8 _ (ii_8 + 1) _ _ _ (by omega) ⟨rfl, (by omega), hP, hS, (lv_sub hl [0, 1, 2, 3] rfl)⟩

theorem dX0_firstWrong_0 : decode cX0_firstWrong 0 = .ok (.aload_n 2, 1) := by decide +kernel
theorem dX0_firstWrong_1 : decode cX0_firstWrong 1 = .ok (.getfield 100, 3) := by decide +kernel
theorem dX0_firstWrong_4 : decode cX0_firstWrong 4 = .ok (.aload_n 0, 1) := by decide +kernel
theorem dX0_firstWrong_5 : decode cX0_firstWrong 5 = .ok (.getfield 24, 3) := by decide +kernel
theorem dX0_firstWrong_8 : decode cX0_firstWrong 8 = .ok (.invokevirtual 37, 3) := by decide +kernel
theorem dX0_firstWrong_11 : decode cX0_firstWrong 11 = .ok (.invokestatic 54, 3) := by decide +kernel
theorem dX0_firstWrong_14 : decode cX0_firstWrong 14 = .ok (.istore 4, 2) := by decide +kernel
theorem dX0_firstWrong_16 : decode cX0_firstWrong 16 = .ok (.iconst 0, 1) := by decide +kernel
theorem dX0_firstWrong_17 : decode cX0_firstWrong 17 = .ok (.istore 5, 2) := by decide +kernel
theorem dX0_firstWrong_19 : decode cX0_firstWrong 19 = .ok (.iload 5, 2) := by decide +kernel
theorem dX0_firstWrong_21 : decode cX0_firstWrong 21 = .ok (.iload 4, 2) := by decide +kernel
theorem dX0_firstWrong_23 : decode cX0_firstWrong 23 = .ok (.if_icmp .ge 110, 3) := by decide +kernel
theorem dX0_firstWrong_26 : decode cX0_firstWrong 26 = .ok (.iload 5, 2) := by decide +kernel
theorem dX0_firstWrong_28 : decode cX0_firstWrong 28 = .ok (.aload_n 0, 1) := by decide +kernel
theorem dX0_firstWrong_29 : decode cX0_firstWrong 29 = .ok (.getfield 24, 3) := by decide +kernel
theorem dX0_firstWrong_32 : decode cX0_firstWrong 32 = .ok (.getfield 28, 3) := by decide +kernel
theorem dX0_firstWrong_35 : decode cX0_firstWrong 35 = .ok (.bipush 6, 2) := by decide +kernel
theorem dX0_firstWrong_37 : decode cX0_firstWrong 37 = .ok (.iaload, 1) := by decide +kernel
theorem dX0_firstWrong_38 : decode cX0_firstWrong 38 = .ok (.iadd, 1) := by decide +kernel
theorem dX0_firstWrong_39 : decode cX0_firstWrong 39 = .ok (.iconst 1, 1) := by decide +kernel
theorem dX0_firstWrong_40 : decode cX0_firstWrong 40 = .ok (.iadd, 1) := by decide +kernel
theorem dX0_firstWrong_41 : decode cX0_firstWrong 41 = .ok (.aload_n 0, 1) := by decide +kernel
theorem dX0_firstWrong_42 : decode cX0_firstWrong 42 = .ok (.getfield 24, 3) := by decide +kernel
theorem dX0_firstWrong_45 : decode cX0_firstWrong 45 = .ok (.invokevirtual 37, 3) := by decide +kernel
theorem dX0_firstWrong_48 : decode cX0_firstWrong 48 = .ok (.invokestatic 54, 3) := by decide +kernel
theorem dX0_firstWrong_51 : decode cX0_firstWrong 51 = .ok (.istore 6, 2) := by decide +kernel
theorem dX0_firstWrong_53 : decode cX0_firstWrong 53 = .ok (.iload 6, 2) := by decide +kernel
theorem dX0_firstWrong_55 : decode cX0_firstWrong 55 = .ok (.iload 4, 2) := by decide +kernel
theorem dX0_firstWrong_57 : decode cX0_firstWrong 57 = .ok (.if_icmp .gt 70, 3) := by decide +kernel
theorem dX0_firstWrong_60 : decode cX0_firstWrong 60 = .ok (.aload_n 2, 1) := by decide +kernel
theorem dX0_firstWrong_61 : decode cX0_firstWrong 61 = .ok (.iload 5, 2) := by decide +kernel
theorem dX0_firstWrong_63 : decode cX0_firstWrong 63 = .ok (.invokevirtual 106, 3) := by decide +kernel
theorem dX0_firstWrong_66 : decode cX0_firstWrong 66 = .ok (.ifCond .eq 61, 3) := by decide +kernel
theorem dX0_firstWrong_69 : decode cX0_firstWrong 69 = .ok (.aload_n 2, 1) := by decide +kernel
theorem dX0_firstWrong_70 : decode cX0_firstWrong 70 = .ok (.getfield 110, 3) := by decide +kernel
theorem dX0_firstWrong_73 : decode cX0_firstWrong 73 = .ok (.iload 5, 2) := by decide +kernel
theorem dX0_firstWrong_75 : decode cX0_firstWrong 75 = .ok (.ishr, 1) := by decide +kernel
theorem dX0_firstWrong_76 : decode cX0_firstWrong 76 = .ok (.aload_n 0, 1) := by decide +kernel
theorem dX0_firstWrong_77 : decode cX0_firstWrong 77 = .ok (.getfield 24, 3) := by decide +kernel
theorem dX0_firstWrong_80 : decode cX0_firstWrong 80 = .ok (.iload 5, 2) := by decide +kernel
theorem dX0_firstWrong_82 : decode cX0_firstWrong 82 = .ok (.invokevirtual 60, 3) := by decide +kernel
theorem dX0_firstWrong_85 : decode cX0_firstWrong 85 = .ok (.iconst 1, 1) := by decide +kernel
theorem dX0_firstWrong_86 : decode cX0_firstWrong 86 = .ok (.isub, 1) := by decide +kernel
theorem dX0_firstWrong_87 : decode cX0_firstWrong 87 = .ok (.iand, 1) := by decide +kernel
theorem dX0_firstWrong_88 : decode cX0_firstWrong 88 = .ok (.istore 7, 2) := by decide +kernel
theorem dX0_firstWrong_90 : decode cX0_firstWrong 90 = .ok (.iload_n 3, 1) := by decide +kernel
theorem dX0_firstWrong_91 : decode cX0_firstWrong 91 = .ok (.ifCond .eq 16, 3) := by decide +kernel
theorem dX0_firstWrong_94 : decode cX0_firstWrong 94 = .ok (.iload 5, 2) := by decide +kernel
theorem dX0_firstWrong_96 : decode cX0_firstWrong 96 = .ok (.iload 4, 2) := by decide +kernel
theorem dX0_firstWrong_98 : decode cX0_firstWrong 98 = .ok (.iconst 1, 1) := by decide +kernel
theorem dX0_firstWrong_99 : decode cX0_firstWrong 99 = .ok (.isub, 1) := by decide +kernel
theorem dX0_firstWrong_100 : decode cX0_firstWrong 100 = .ok (.if_icmp .ne 7, 3) := by decide +kernel
theorem dX0_firstWrong_103 : decode cX0_firstWrong 103 = .ok (.iconst 1, 1) := by decide +kernel
theorem dX0_firstWrong_104 : decode cX0_firstWrong 104 = .ok (.goto 4, 3) := by decide +kernel
theorem dX0_firstWrong_107 : decode cX0_firstWrong 107 = .ok (.iconst 0, 1) := by decide +kernel
theorem dX0_firstWrong_108 : decode cX0_firstWrong 108 = .ok (.istore 8, 2) := by decide +kernel
theorem dX0_firstWrong_110 : decode cX0_firstWrong 110 = .ok (.aload_n 0, 1) := by decide +kernel
theorem dX0_firstWrong_111 : decode cX0_firstWrong 111 = .ok (.iload_n 1, 1) := by decide +kernel
theorem dX0_firstWrong_112 : decode cX0_firstWrong 112 = .ok (.iload 5, 2) := by decide +kernel
theorem dX0_firstWrong_114 : decode cX0_firstWrong 114 = .ok (.iload 7, 2) := by decide +kernel
theorem dX0_firstWrong_116 : decode cX0_firstWrong 116 = .ok (.invokevirtual 96, 3) := by decide +kernel
theorem dX0_firstWrong_119 : decode cX0_firstWrong 119 = .ok (.iload 8, 2) := by decide +kernel
theorem dX0_firstWrong_121 : decode cX0_firstWrong 121 = .ok (.if_icmp .eq 6, 3) := by decide +kernel
theorem dX0_firstWrong_124 : decode cX0_firstWrong 124 = .ok (.iload 5, 2) := by decide +kernel
theorem dX0_firstWrong_126 : decode cX0_firstWrong 126 = .ok (.ireturn, 1) := by decide +kernel
theorem dX0_firstWrong_127 : decode cX0_firstWrong 127 = .ok (.iinc 5 1, 3) := by decide +kernel
theorem dX0_firstWrong_130 : decode cX0_firstWrong 130 = .ok (.goto (-111), 3) := by decide +kernel
theorem dX0_firstWrong_133 : decode cX0_firstWrong 133 = .ok (.iconst (-1), 1) := by decide +kernel
theorem dX0_firstWrong_134 : decode cX0_firstWrong 134 = .ok (.ireturn, 1) := by decide +kernel
set_option maxHeartbeats 4000000 in
set_option maxRecDepth 100000 in
theorem x_firstWrong (l : Launch) (D : va_G) (k : Nat → ClassId) (st : Nat → Nat) (lo : Nat) (h0 : Nat) (h1 : Nat) (h2 : Nat) (h3 : Nat) (h4 : Nat) (n : Nat) (see : Nat) (tm : Nat) (g : Nat → Int32) (fp : Nat → Int32) (fl : Nat → Int32) (w0 : Nat) (w1 : Nat) (w2 : Nat) (w3 : Nat) (w4 : Nat) (on : Nat → Int32) (c0 : Nat) (c1 : Nat) (c2 : Nat) (cc : Nat) (rz : Nat) (ro : Int32) (sd : Int32) (rn : Nat) (p2 : Int32) (hn : n ≤ 24) (hsee : see ≤ 2) (hrn : rn ≤ 3) (hrz : rz ≤ 24) : CRi l D k st lo yX0_firstWrong cX0_firstWrong 9 (some .int) ({ frames := 3, cells := 0, slots := 0, locals := 81 }) [.ref w0, .int (nI rn), .ref c0, .int p2] [(h0, .inr (5, (fX5 h1 h2 h3 h4))), (aI k h1 10 (vv n see tm g)), (aI k h3 24 fp), (aI k h4 4 fl), (w0, .inr (0, (fX0 h0 w1 w2 w3 w4))), (aI k w1 768 on), (c0, .inr (4, (fX4 c1 c2 (nI cc) (nI rz) ro sd)))] (fun _ => True) := by
  intro sz
  refine Met.ofW (cc := cX0_firstWrong) (maxL := 9) (ret := (some .int)) (by decide) rfl ?_
  intro p e s m args below meth c s₁ B hml hv
  obtain ⟨rfl, hsz, hlo, hP, hK, hDL, hZ⟩ := hv
  have hx := B.exec
  have hb := B.bytes
  have hr := B.returns
  have hts := WS_ts B.pre
  have hown : s.vm.findClass RX0 = some m.cls := findClass_of_methodNamed B.named
  have hlocks := B.notSynchronized
  subst hsz
  have hA : ∀ q : Nat, s.heap.size ≤ q → (fun q : Nat => s.heap.size ≤ q) q := fun _ h => h
  have hAlo : ∀ q : Nat, (fun q : Nat => s.heap.size ≤ q) q → lo ≤ q := fun q h => Nat.le_trans hlo h
  have hS : va_S (fun q : Nat => s.heap.size ≤ q) s.heap s.heap [] := va_S.rf
  have hl := lv_entry ([.ref w0, .int (nI rn), .ref c0, .int p2]) (n := 9) (Nat.le_of_ble_eq_true rfl)
  rw [lg_entry_eq]
  generalize (lg_sl ([.ref w0, .int (nI rn), .ref c0, .int p2]) ++ List.replicate (9 - (lg_sl ([.ref w0, .int (nI rn), .ref c0, .int p2])).length) Slot.unset).toArray = ls at hl ⊢
  have hl : lv_has ls 9 [(0, .ref w0), (1, .int (nI rn)), (2, .ref c0), (3, .int p2)] := hl
  refine lv_aload_n hx hb dX0_firstWrong_0 rfl (lv_at hl 2 rfl) ?_
  refine va_get (D := D) (ci := 4) (v := .int (nI rz)) (C := RX4) (T := TX4) (N := 6) hx hb hts inX4 hown hK hP 6 rfl rfl 3 (by decide) (hts _ tw_183) (fun _ h9 => h9) rfl dX0_firstWrong_1 ?_
  refine lv_aload_n hx hb dX0_firstWrong_4 rfl (lv_at hl 0 rfl) ?_
  refine va_get (D := D) (ci := 0) (v := .ref h0) (C := RX0) (T := TX0) (N := 5) hx hb hts inX0 hown hK hP 4 rfl rfl 0 (by decide) (hts _ tw_266) (fun _ h9 => h9) rfl dX0_firstWrong_5 ?_
  refine ro_i (D := D) (va_runV (As := []) (rest := [.int (nI rz)]) ⟨hx, hb, hml, hown, hts⟩ ((x_doors l D k st lo h0 h1 h2 h3 h4 n see tm g) s.heap.size) (cwV 0 hts (gV tw_531 tw_478 tw_479 tw_81 tw_480) rfl rfl rfl (by decide +kernel) ⟨Nat.le_of_ble_eq_true rfl, Nat.le_of_ble_eq_true rfl⟩) (pV hS hAlo hlo hP hK hDL hZ [0, 1] (by decide) rfl (ci := 5) (q := (RX5, TX5, 4)) (q0 := 0) rfl rfl) rfl rfl hl.1 rfl (lv_room (Nat.le_of_ble_eq_true rfl)) dX0_firstWrong_8 ⟨Nat.le_of_ble_eq_true rfl, Nat.le_of_ble_eq_true rfl⟩) hS hA hP (fun r_1 H locs hw_1 hP hS => ?_)
  try dsimp only at hw_1
  subst hw_1
  refine va_mmin hx hb (by rw [hml]; exact hl.1.symm) hown (hts _ tw_528) (hts _ tw_529) (hts _ tw_93) (hts _ tw_530) (Nat.le_of_ble_eq_true rfl) (Nat.le_of_ble_eq_true rfl) (Nat.le_of_ble_eq_true rfl) (Nat.le_of_ble_eq_true rfl) dX0_firstWrong_11 ?_
  refine lv_ti (y := (nI (min rz n))) (mminN (by omega) (by omega)) ?_
  refine lv_istore (lv' := [(4, .int (nI (min rz n))), (0, .ref w0), (1, .int (nI rn)), (2, .ref c0), (3, .int p2)]) hx hb dX0_firstWrong_14 hl (by decide) rfl (fun ls hl => ?_)
  refine lv_iconst (v := 0) hx hb dX0_firstWrong_16 (by decide) ?_
  refine lv_istore (lv' := [(5, .int 0), (4, .int (nI (min rz n))), (0, .ref w0), (1, .int (nI rn)), (2, .ref c0), (3, .int p2)]) hx hb dX0_firstWrong_17 hl (by decide) rfl (fun ls hl => ?_)
  refine W_loop (σ := Nat) (fun (n_ : Nat) (ii_3 : Nat) (H : Heap) (locs : List Loc) (ls : Array Slot) => n_ = 25 - ii_3 ∧ (ii_3 ≤ min rz n) ∧ va_P D classes [(h0, .inr (5, (fX5 h1 h2 h3 h4))), (aI k h1 10 (vv n see tm g)), (aI k h3 24 fp), (aI k h4 4 fl), (w0, .inr (0, (fX0 h0 w1 w2 w3 w4))), (aI k w1 768 on), (c0, .inr (4, (fX4 c1 c2 (nI cc) (nI rz) ro sd)))] H ∧ va_S (fun q : Nat => s.heap.size ≤ q) s.heap H locs ∧ lv_has ls 9 [(5, .int (nI ii_3)), (4, .int (nI (min rz n))), (0, .ref w0), (1, .int (nI rn)), (2, .ref c0), (3, .int p2)]) (fun n_3 x_3 H locs ls hI ih_3 => ?_) _ 0 ⟨rfl, (by omega), hP, hS, (lv_sub hl [0, 1, 2, 3, 4, 5] rfl)⟩
  obtain ⟨ii_3, rfl⟩ : ∃ z, z = x_3 := ⟨_, rfl⟩
  obtain ⟨hm_3, hv_3, hP, hS, hl⟩ := hI
  subst hm_3
  refine lv_iload hx hb dX0_firstWrong_19 (lv_at hl 0 rfl) ?_
  refine lv_iload hx hb dX0_firstWrong_21 (lv_at hl 1 rfl) ?_
  refine lv_icmp_ge (tgt := 133) hx hb dX0_firstWrong_23 (by decide) (fun c_4 => ?_) (fun c_4 => ?_)
  · have c_4 := (nI_leI (a := (min rz n)) (b := ii_3) (by omega) (by omega)).mp c_4
    refine lv_iconst (v := (-1)) hx hb dX0_firstWrong_133 (by decide) ?_
    exact W.iret (v := (-1)) hx hb hr (fun t ht hW => ⟨⟨(-1), (), rfl, trivial, trivial⟩, hS.F ht⟩) hS.2.2 dX0_firstWrong_134
  · have c_4 : ¬ ((min rz n) ≤ ii_3) := fun h => c_4 ((nI_leI (a := (min rz n)) (b := ii_3) (by omega) (by omega)).mpr h)
    refine lv_iload hx hb dX0_firstWrong_26 (lv_at hl 0 rfl) ?_
    refine lv_aload_n hx hb dX0_firstWrong_28 rfl (lv_at hl 2 rfl) ?_
    refine va_get (D := D) (ci := 0) (v := .ref h0) (C := RX0) (T := TX0) (N := 5) hx hb hts inX0 hown hK hP 4 rfl rfl 0 (by decide) (hts _ tw_266) (fun _ h9 => h9) rfl dX0_firstWrong_29 ?_
    refine va_get (D := D) (ci := 5) (v := .ref h1) (C := RX5) (T := TX5) (N := 4) hx hb hts inX5 hown hK hP 0 rfl rfl 0 (by decide) (hts _ tw_147) (fun _ h9 => h9) rfl dX0_firstWrong_32 ?_
    refine lv_bipush (v := 6) hx hb dX0_firstWrong_35 (by decide) ?_
    refine va_iald hx hb hK hP 1 1 rfl rfl (by unfold vp_in; decide) dX0_firstWrong_37 ?_
    refine lv_ti (y := (nI see)) (by rfl) ?_
    refine lv_iadd hx hb dX0_firstWrong_38 ?_
    refine lv_ti (y := (nI (ii_3 + see))) (nI_add ii_3 see) ?_
    refine lv_iconst (v := 1) hx hb dX0_firstWrong_39 (by decide) ?_
    refine lv_iadd hx hb dX0_firstWrong_40 ?_
    refine lv_ti (y := (nI (ii_3 + see + 1))) (nI_add (ii_3 + see) 1) ?_
    refine lv_aload_n hx hb dX0_firstWrong_41 rfl (lv_at hl 2 rfl) ?_
    refine va_get (D := D) (ci := 0) (v := .ref h0) (C := RX0) (T := TX0) (N := 5) hx hb hts inX0 hown hK hP 4 rfl rfl 0 (by decide) (hts _ tw_266) (fun _ h9 => h9) rfl dX0_firstWrong_42 ?_
    refine ro_i (D := D) (va_runV (As := []) (rest := [.int (nI (ii_3 + see + 1))]) ⟨hx, hb, hml, hown, hts⟩ ((x_doors l D k st lo h0 h1 h2 h3 h4 n see tm g) H.size) (cwV 0 hts (gV tw_531 tw_478 tw_479 tw_81 tw_480) rfl rfl rfl (by decide +kernel) ⟨Nat.le_of_ble_eq_true rfl, Nat.le_of_ble_eq_true rfl⟩) (pV hS hAlo hlo hP hK hDL hZ [0, 1] (by decide) rfl (ci := 5) (q := (RX5, TX5, 4)) (q0 := 0) rfl rfl) rfl rfl hl.1 rfl (lv_room (Nat.le_of_ble_eq_true rfl)) dX0_firstWrong_45 ⟨Nat.le_of_ble_eq_true rfl, Nat.le_of_ble_eq_true rfl⟩) hS hA hP (fun r_5 H locs hw_5 hP hS => ?_)
    try dsimp only at hw_5
    subst hw_5
    refine va_mmin hx hb (by rw [hml]; exact hl.1.symm) hown (hts _ tw_528) (hts _ tw_529) (hts _ tw_93) (hts _ tw_530) (Nat.le_of_ble_eq_true rfl) (Nat.le_of_ble_eq_true rfl) (Nat.le_of_ble_eq_true rfl) (Nat.le_of_ble_eq_true rfl) dX0_firstWrong_48 ?_
    refine lv_ti (y := (nI (min (ii_3 + see + 1) n))) (mminN (by omega) (by omega)) ?_
    refine lv_istore (lv' := [(6, .int (nI (min (ii_3 + see + 1) n))), (5, .int (nI ii_3)), (4, .int (nI (min rz n))), (0, .ref w0), (1, .int (nI rn)), (2, .ref c0), (3, .int p2)]) hx hb dX0_firstWrong_51 hl (by decide) rfl (fun ls hl => ?_)
    refine lv_iload hx hb dX0_firstWrong_53 (lv_at hl 0 rfl) ?_
    refine lv_iload hx hb dX0_firstWrong_55 (lv_at hl 2 rfl) ?_
    refine lv_icmp_gt (tgt := 127) hx hb dX0_firstWrong_57 (by decide) (fun c_7 => ?_) (fun c_7 => ?_)
    · have c_7 := (nI_ltI (a := (min rz n)) (b := (min (ii_3 + see + 1) n)) (by omega) (by omega)).mp c_7
      refine lv_iinc (v := (nI (ii_3 + 1))) (lv' := [(5, .int (nI (ii_3 + 1))), (6, .int (nI (min (ii_3 + see + 1) n))), (4, .int (nI (min rz n))), (0, .ref w0), (1, .int (nI rn)), (2, .ref c0), (3, .int p2)]) hx hb dX0_firstWrong_127 hl (k := 1) rfl (nI_add ii_3 1) (by decide) rfl (fun ls hl => ?_)
      refine lv_goto (tgt := 19) hx hb dX0_firstWrong_130 (by decide) ?_
      exact ih_3 _ (ii_3 + 1) _ _ _ (by omega) ⟨rfl, (by omega), hP, hS, (lv_sub hl [0, 2, 3, 4, 5, 6] rfl)⟩
    · have c_7 : ¬ ((min rz n) < (min (ii_3 + see + 1) n)) := fun h => c_7 ((nI_ltI (a := (min rz n)) (b := (min (ii_3 + see + 1) n)) (by omega) (by omega)).mpr h)
      refine lv_aload_n hx hb dX0_firstWrong_60 rfl (lv_at hl 5 rfl) ?_
      refine lv_iload hx hb dX0_firstWrong_61 (lv_at hl 1 rfl) ?_
      refine ro_i (D := D) (va_runV (As := [.int (nI ii_3)]) (rest := []) ⟨hx, hb, hml, hown, hts⟩ ((x_sawFree l D k st lo c0 c1 c2 cc rz ro sd (nI ii_3)) H.size) (cwV 1 hts (gV tw_760 tw_753 tw_754 tw_82 tw_755) rfl rfl rfl (by decide +kernel) ⟨Nat.le_of_ble_eq_true rfl, Nat.le_of_ble_eq_true rfl⟩) (pV hS hAlo hlo hP hK hDL hZ [6] (by decide) rfl (ci := 4) (q := (RX4, TX4, 6)) (q0 := 0) rfl rfl) rfl rfl hl.1 rfl (lv_room (Nat.le_of_ble_eq_true rfl)) dX0_firstWrong_63 ⟨Nat.le_of_ble_eq_true rfl, Nat.le_of_ble_eq_true rfl⟩) hS hA hP (fun r_8 H locs hw_8 hP hS => ?_)
      try dsimp only at hw_8
      rcases hw_8 with rfl | rfl
      · refine lv_if_eq (tgt := 127) hx hb dX0_firstWrong_66 (by decide) (fun h => absurd h (by decide)) (fun _ => ?_)
        refine lv_aload_n hx hb dX0_firstWrong_69 rfl (lv_at hl 5 rfl) ?_
        refine va_get (D := D) (ci := 4) (v := .int ro) (C := RX4) (T := TX4) (N := 6) hx hb hts inX4 hown hK hP 6 rfl rfl 4 (by decide) (hts _ tw_186) (fun _ h9 => h9) rfl dX0_firstWrong_70 ?_
        refine lv_iload hx hb dX0_firstWrong_73 (lv_at hl 1 rfl) ?_
        refine lv_ishr hx hb dX0_firstWrong_75 ?_
        refine lv_topi (fun x_9 ex_9 => ?_)
        refine lv_aload_n hx hb dX0_firstWrong_76 rfl (lv_at hl 3 rfl) ?_
        refine va_get (D := D) (ci := 0) (v := .ref h0) (C := RX0) (T := TX0) (N := 5) hx hb hts inX0 hown hK hP 4 rfl rfl 0 (by decide) (hts _ tw_266) (fun _ h9 => h9) rfl dX0_firstWrong_77 ?_
        refine lv_iload hx hb dX0_firstWrong_80 (lv_at hl 1 rfl) ?_
        refine ro_i (D := D) (va_runV (As := [.int (nI ii_3)]) (rest := [.int x_9]) ⟨hx, hb, hml, hown, hts⟩ ((x_sightsAt l D k st lo h0 h1 h2 h3 h4 n see tm g ii_3 (by omega) (by omega) (by omega)) H.size) (cwV 1 hts (gV tw_536 tw_537 tw_538 tw_81 tw_539) rfl rfl rfl (by decide +kernel) ⟨Nat.le_of_ble_eq_true rfl, Nat.le_of_ble_eq_true rfl⟩) (pV hS hAlo hlo hP hK hDL hZ [0, 1] (by decide) rfl (ci := 5) (q := (RX5, TX5, 4)) (q0 := 0) rfl rfl) rfl rfl hl.1 rfl (lv_room (Nat.le_of_ble_eq_true rfl)) dX0_firstWrong_82 ⟨Nat.le_of_ble_eq_true rfl, Nat.le_of_ble_eq_true rfl⟩) hS hA hP (fun r_10 H locs hw_10 hP hS => ?_)
        try dsimp only at hw_10
        obtain ⟨zs_11, rfl, hza_11, hzb_11, hzq_11⟩ := hw_10
        refine lv_iconst (v := 1) hx hb dX0_firstWrong_85 (by decide) ?_
        refine lv_isub hx hb dX0_firstWrong_86 ?_
        refine lv_ti (y := (nI zs_11 - 1)) rfl ?_
        obtain ⟨q_12, hq_12, eq_12⟩ := hzq_11
        obtain ⟨z_12, hz_12, ez_12⟩ := mk8 hq_12 x_9
        refine lv_iand hx hb dX0_firstWrong_87 ?_
        refine lv_ti (y := (nI z_12)) (by rw [eq_12]; exact ez_12) ?_
        refine lv_istore (lv' := [(7, .int (nI z_12)), (6, .int (nI (min (ii_3 + see + 1) n))), (5, .int (nI ii_3)), (4, .int (nI (min rz n))), (0, .ref w0), (1, .int (nI rn)), (2, .ref c0), (3, .int p2)]) hx hb dX0_firstWrong_88 hl (by decide) rfl (fun ls hl => ?_)
        refine lv_iload_n hx hb dX0_firstWrong_90 rfl (lv_at hl 7 rfl) ?_
        refine lv_if_eq (tgt := 107) hx hb dX0_firstWrong_91 (by decide) (fun c_13 => ?_) (fun c_13 => ?_)
        · refine lv_iconst (v := 0) hx hb dX0_firstWrong_107 (by decide) ?_
          refine lv_istore (lv' := [(8, .int 0), (7, .int (nI z_12)), (6, .int (nI (min (ii_3 + see + 1) n))), (5, .int (nI ii_3)), (4, .int (nI (min rz n))), (0, .ref w0), (1, .int (nI rn)), (2, .ref c0), (3, .int p2)]) hx hb dX0_firstWrong_108 hl (by decide) rfl (fun ls hl => ?_)
          refine lv_aload_n hx hb dX0_firstWrong_110 rfl (lv_at hl 5 rfl) ?_
          refine lv_iload_n hx hb dX0_firstWrong_111 rfl (lv_at hl 6 rfl) ?_
          refine lv_iload hx hb dX0_firstWrong_112 (lv_at hl 3 rfl) ?_
          refine lv_iload hx hb dX0_firstWrong_114 (lv_at hl 1 rfl) ?_
          refine ro_i (D := D) (va_runV (As := [.int (nI rn), .int (nI ii_3), .int (nI z_12)]) (rest := []) ⟨hx, hb, hml, hown, hts⟩ ((x_isTaken l D k st lo h0 h1 h2 h3 h4 n see tm g fp fl w0 w1 w2 w3 w4 on rn ii_3 z_12 (by omega) (by omega) (by omega)) H.size) (cwV 3 hts (gV tw_662 tw_638 tw_639 tw_85 tw_640) rfl rfl rfl (by decide +kernel) ⟨Nat.le_of_ble_eq_true rfl, Nat.le_of_ble_eq_true rfl⟩) (pV hS hAlo hlo hP hK hDL hZ [0, 1, 2, 3, 4, 5] (by decide) rfl (ci := 0) (q := (RX0, TX0, 5)) (q0 := 4) rfl rfl) rfl rfl hl.1 rfl (lv_room (Nat.le_of_ble_eq_true rfl)) dX0_firstWrong_116 ⟨Nat.le_of_ble_eq_true rfl, Nat.le_of_ble_eq_true rfl⟩) hS hA hP (fun r_14 H locs hw_14 hP hS => ?_)
          try dsimp only at hw_14
          rcases hw_14 with rfl | rfl
          · refine lv_iload hx hb dX0_firstWrong_119 (lv_at hl 0 rfl) ?_
            refine lv_icmp_eq (tgt := 127) hx hb dX0_firstWrong_121 (by decide) (fun h => absurd h (by decide)) (fun _ => ?_)
            refine lv_iload hx hb dX0_firstWrong_124 (lv_at hl 3 rfl) ?_
            exact W.iret (v := (nI ii_3)) hx hb hr (fun t ht hW => ⟨⟨(nI ii_3), (), rfl, trivial, trivial⟩, hS.F ht⟩) hS.2.2 dX0_firstWrong_126
          · refine lv_iload hx hb dX0_firstWrong_119 (lv_at hl 0 rfl) ?_
            refine lv_icmp_eq (tgt := 127) hx hb dX0_firstWrong_121 (by decide) (fun _ => ?_) (fun h => absurd (by decide) h)
            refine lv_iinc (v := (nI (ii_3 + 1))) (lv' := [(5, .int (nI (ii_3 + 1))), (8, .int 0), (7, .int (nI z_12)), (6, .int (nI (min (ii_3 + see + 1) n))), (4, .int (nI (min rz n))), (0, .ref w0), (1, .int (nI rn)), (2, .ref c0), (3, .int p2)]) hx hb dX0_firstWrong_127 hl (k := 3) rfl (nI_add ii_3 1) (by decide) rfl (fun ls hl => ?_)
            refine lv_goto (tgt := 19) hx hb dX0_firstWrong_130 (by decide) ?_
            exact ih_3 _ (ii_3 + 1) _ _ _ (by omega) ⟨rfl, (by omega), hP, hS, (lv_sub hl [0, 4, 5, 6, 7, 8] rfl)⟩
        · refine lv_iload hx hb dX0_firstWrong_94 (lv_at hl 2 rfl) ?_
          refine lv_iload hx hb dX0_firstWrong_96 (lv_at hl 3 rfl) ?_
          refine lv_iconst (v := 1) hx hb dX0_firstWrong_98 (by decide) ?_
          refine lv_isub hx hb dX0_firstWrong_99 ?_
          refine lv_ti (y := (nI ((min rz n) - 1))) (pk_sub (a := (min rz n)) (b := 1) (by omega)) ?_
          refine lv_icmp_ne (tgt := 107) hx hb dX0_firstWrong_100 (by decide) (fun c_15 => ?_) (fun c_15 => ?_)
          · have c_15 : ¬ (ii_3 = ((min rz n) - 1)) := fun h => c_15 ((nI_eq (a := ii_3) (b := ((min rz n) - 1)) (by omega) (by omega)).mpr h)
            refine lv_iconst (v := 0) hx hb dX0_firstWrong_107 (by decide) ?_
            refine lv_istore (lv' := [(8, .int 0), (7, .int (nI z_12)), (6, .int (nI (min (ii_3 + see + 1) n))), (5, .int (nI ii_3)), (4, .int (nI (min rz n))), (0, .ref w0), (1, .int (nI rn)), (2, .ref c0), (3, .int p2)]) hx hb dX0_firstWrong_108 hl (by decide) rfl (fun ls hl => ?_)
            refine lv_aload_n hx hb dX0_firstWrong_110 rfl (lv_at hl 5 rfl) ?_
            refine lv_iload_n hx hb dX0_firstWrong_111 rfl (lv_at hl 6 rfl) ?_
            refine lv_iload hx hb dX0_firstWrong_112 (lv_at hl 3 rfl) ?_
            refine lv_iload hx hb dX0_firstWrong_114 (lv_at hl 1 rfl) ?_
            refine ro_i (D := D) (va_runV (As := [.int (nI rn), .int (nI ii_3), .int (nI z_12)]) (rest := []) ⟨hx, hb, hml, hown, hts⟩ ((x_isTaken l D k st lo h0 h1 h2 h3 h4 n see tm g fp fl w0 w1 w2 w3 w4 on rn ii_3 z_12 (by omega) (by omega) (by omega)) H.size) (cwV 3 hts (gV tw_662 tw_638 tw_639 tw_85 tw_640) rfl rfl rfl (by decide +kernel) ⟨Nat.le_of_ble_eq_true rfl, Nat.le_of_ble_eq_true rfl⟩) (pV hS hAlo hlo hP hK hDL hZ [0, 1, 2, 3, 4, 5] (by decide) rfl (ci := 0) (q := (RX0, TX0, 5)) (q0 := 4) rfl rfl) rfl rfl hl.1 rfl (lv_room (Nat.le_of_ble_eq_true rfl)) dX0_firstWrong_116 ⟨Nat.le_of_ble_eq_true rfl, Nat.le_of_ble_eq_true rfl⟩) hS hA hP (fun r_16 H locs hw_16 hP hS => ?_)
            try dsimp only at hw_16
            rcases hw_16 with rfl | rfl
            · refine lv_iload hx hb dX0_firstWrong_119 (lv_at hl 0 rfl) ?_
              refine lv_icmp_eq (tgt := 127) hx hb dX0_firstWrong_121 (by decide) (fun h => absurd h (by decide)) (fun _ => ?_)
              refine lv_iload hx hb dX0_firstWrong_124 (lv_at hl 3 rfl) ?_
              exact W.iret (v := (nI ii_3)) hx hb hr (fun t ht hW => ⟨⟨(nI ii_3), (), rfl, trivial, trivial⟩, hS.F ht⟩) hS.2.2 dX0_firstWrong_126
            · refine lv_iload hx hb dX0_firstWrong_119 (lv_at hl 0 rfl) ?_
              refine lv_icmp_eq (tgt := 127) hx hb dX0_firstWrong_121 (by decide) (fun _ => ?_) (fun h => absurd (by decide) h)
              refine lv_iinc (v := (nI (ii_3 + 1))) (lv' := [(5, .int (nI (ii_3 + 1))), (8, .int 0), (7, .int (nI z_12)), (6, .int (nI (min (ii_3 + see + 1) n))), (4, .int (nI (min rz n))), (0, .ref w0), (1, .int (nI rn)), (2, .ref c0), (3, .int p2)]) hx hb dX0_firstWrong_127 hl (k := 3) rfl (nI_add ii_3 1) (by decide) rfl (fun ls hl => ?_)
              refine lv_goto (tgt := 19) hx hb dX0_firstWrong_130 (by decide) ?_
              exact ih_3 _ (ii_3 + 1) _ _ _ (by omega) ⟨rfl, (by omega), hP, hS, (lv_sub hl [0, 4, 5, 6, 7, 8] rfl)⟩
          · have c_15 := (nI_eq (a := ii_3) (b := ((min rz n) - 1)) (by omega) (by omega)).mp c_15
            refine lv_iconst (v := 1) hx hb dX0_firstWrong_103 (by decide) ?_
            refine lv_goto (tgt := 108) hx hb dX0_firstWrong_104 (by decide) ?_
            refine lv_istore (lv' := [(8, .int 1), (7, .int (nI z_12)), (6, .int (nI (min (ii_3 + see + 1) n))), (5, .int (nI ii_3)), (4, .int (nI (min rz n))), (0, .ref w0), (1, .int (nI rn)), (2, .ref c0), (3, .int p2)]) hx hb dX0_firstWrong_108 hl (by decide) rfl (fun ls hl => ?_)
            refine lv_aload_n hx hb dX0_firstWrong_110 rfl (lv_at hl 5 rfl) ?_
            refine lv_iload_n hx hb dX0_firstWrong_111 rfl (lv_at hl 6 rfl) ?_
            refine lv_iload hx hb dX0_firstWrong_112 (lv_at hl 3 rfl) ?_
            refine lv_iload hx hb dX0_firstWrong_114 (lv_at hl 1 rfl) ?_
            refine ro_i (D := D) (va_runV (As := [.int (nI rn), .int (nI ii_3), .int (nI z_12)]) (rest := []) ⟨hx, hb, hml, hown, hts⟩ ((x_isTaken l D k st lo h0 h1 h2 h3 h4 n see tm g fp fl w0 w1 w2 w3 w4 on rn ii_3 z_12 (by omega) (by omega) (by omega)) H.size) (cwV 3 hts (gV tw_662 tw_638 tw_639 tw_85 tw_640) rfl rfl rfl (by decide +kernel) ⟨Nat.le_of_ble_eq_true rfl, Nat.le_of_ble_eq_true rfl⟩) (pV hS hAlo hlo hP hK hDL hZ [0, 1, 2, 3, 4, 5] (by decide) rfl (ci := 0) (q := (RX0, TX0, 5)) (q0 := 4) rfl rfl) rfl rfl hl.1 rfl (lv_room (Nat.le_of_ble_eq_true rfl)) dX0_firstWrong_116 ⟨Nat.le_of_ble_eq_true rfl, Nat.le_of_ble_eq_true rfl⟩) hS hA hP (fun r_17 H locs hw_17 hP hS => ?_)
            try dsimp only at hw_17
            rcases hw_17 with rfl | rfl
            · refine lv_iload hx hb dX0_firstWrong_119 (lv_at hl 0 rfl) ?_
              refine lv_icmp_eq (tgt := 127) hx hb dX0_firstWrong_121 (by decide) (fun _ => ?_) (fun h => absurd (by decide) h)
              refine lv_iinc (v := (nI (ii_3 + 1))) (lv' := [(5, .int (nI (ii_3 + 1))), (8, .int 1), (7, .int (nI z_12)), (6, .int (nI (min (ii_3 + see + 1) n))), (4, .int (nI (min rz n))), (0, .ref w0), (1, .int (nI rn)), (2, .ref c0), (3, .int p2)]) hx hb dX0_firstWrong_127 hl (k := 3) rfl (nI_add ii_3 1) (by decide) rfl (fun ls hl => ?_)
              refine lv_goto (tgt := 19) hx hb dX0_firstWrong_130 (by decide) ?_
              exact ih_3 _ (ii_3 + 1) _ _ _ (by omega) ⟨rfl, (by omega), hP, hS, (lv_sub hl [0, 4, 5, 6, 7, 8] rfl)⟩
            · refine lv_iload hx hb dX0_firstWrong_119 (lv_at hl 0 rfl) ?_
              refine lv_icmp_eq (tgt := 127) hx hb dX0_firstWrong_121 (by decide) (fun h => absurd h (by decide)) (fun _ => ?_)
              refine lv_iload hx hb dX0_firstWrong_124 (lv_at hl 3 rfl) ?_
              exact W.iret (v := (nI ii_3)) hx hb hr (fun t ht hW => ⟨⟨(nI ii_3), (), rfl, trivial, trivial⟩, hS.F ht⟩) hS.2.2 dX0_firstWrong_126
      · refine lv_if_eq (tgt := 127) hx hb dX0_firstWrong_66 (by decide) (fun _ => ?_) (fun h => absurd (by decide) h)
        refine lv_iinc (v := (nI (ii_3 + 1))) (lv' := [(5, .int (nI (ii_3 + 1))), (6, .int (nI (min (ii_3 + see + 1) n))), (4, .int (nI (min rz n))), (0, .ref w0), (1, .int (nI rn)), (2, .ref c0), (3, .int p2)]) hx hb dX0_firstWrong_127 hl (k := 1) rfl (nI_add ii_3 1) (by decide) rfl (fun ls hl => ?_)
        refine lv_goto (tgt := 19) hx hb dX0_firstWrong_130 (by decide) ?_
        exact ih_3 _ (ii_3 + 1) _ _ _ (by omega) ⟨rfl, (by omega), hP, hS, (lv_sub hl [0, 2, 3, 4, 5, 6] rfl)⟩


theorem dX0_reckonStart_0 : decode cX0_reckonStart 0 = .ok (.aload_n 0, 1) := by decide +kernel
theorem dX0_reckonStart_1 : decode cX0_reckonStart 1 = .ok (.getfield 24, 3) := by decide +kernel
theorem dX0_reckonStart_4 : decode cX0_reckonStart 4 = .ok (.iconst 0, 1) := by decide +kernel
theorem dX0_reckonStart_5 : decode cX0_reckonStart 5 = .ok (.invokevirtual 60, 3) := by decide +kernel
theorem dX0_reckonStart_8 : decode cX0_reckonStart 8 = .ok (.istore_n 2, 1) := by decide +kernel
theorem dX0_reckonStart_9 : decode cX0_reckonStart 9 = .ok (.iconst 0, 1) := by decide +kernel
theorem dX0_reckonStart_10 : decode cX0_reckonStart 10 = .ok (.istore_n 3, 1) := by decide +kernel
theorem dX0_reckonStart_11 : decode cX0_reckonStart 11 = .ok (.iload_n 3, 1) := by decide +kernel
theorem dX0_reckonStart_12 : decode cX0_reckonStart 12 = .ok (.iload_n 2, 1) := by decide +kernel
theorem dX0_reckonStart_13 : decode cX0_reckonStart 13 = .ok (.if_icmp .ge 28, 3) := by decide +kernel
theorem dX0_reckonStart_16 : decode cX0_reckonStart 16 = .ok (.iload_n 3, 1) := by decide +kernel
theorem dX0_reckonStart_17 : decode cX0_reckonStart 17 = .ok (.bipush 8, 2) := by decide +kernel
theorem dX0_reckonStart_19 : decode cX0_reckonStart 19 = .ok (.if_icmp .ge 22, 3) := by decide +kernel
theorem dX0_reckonStart_22 : decode cX0_reckonStart 22 = .ok (.aload_n 0, 1) := by decide +kernel
theorem dX0_reckonStart_23 : decode cX0_reckonStart 23 = .ok (.getfield 21, 3) := by decide +kernel
theorem dX0_reckonStart_26 : decode cX0_reckonStart 26 = .ok (.iload_n 3, 1) := by decide +kernel
theorem dX0_reckonStart_27 : decode cX0_reckonStart 27 = .ok (.aload_n 0, 1) := by decide +kernel
theorem dX0_reckonStart_28 : decode cX0_reckonStart 28 = .ok (.iload_n 1, 1) := by decide +kernel
theorem dX0_reckonStart_29 : decode cX0_reckonStart 29 = .ok (.iconst 0, 1) := by decide +kernel
theorem dX0_reckonStart_30 : decode cX0_reckonStart 30 = .ok (.iload_n 3, 1) := by decide +kernel
theorem dX0_reckonStart_31 : decode cX0_reckonStart 31 = .ok (.invokevirtual 73, 3) := by decide +kernel
theorem dX0_reckonStart_34 : decode cX0_reckonStart 34 = .ok (.iastore, 1) := by decide +kernel
theorem dX0_reckonStart_35 : decode cX0_reckonStart 35 = .ok (.iinc 3 1, 3) := by decide +kernel
theorem dX0_reckonStart_38 : decode cX0_reckonStart 38 = .ok (.goto (-27), 3) := by decide +kernel
theorem dX0_reckonStart_41 : decode cX0_reckonStart 41 = .ok (.aload_n 0, 1) := by decide +kernel
theorem dX0_reckonStart_42 : decode cX0_reckonStart 42 = .ok (.getfield 24, 3) := by decide +kernel
theorem dX0_reckonStart_45 : decode cX0_reckonStart 45 = .ok (.getfield 28, 3) := by decide +kernel
theorem dX0_reckonStart_48 : decode cX0_reckonStart 48 = .ok (.bipush 6, 2) := by decide +kernel
theorem dX0_reckonStart_50 : decode cX0_reckonStart 50 = .ok (.iaload, 1) := by decide +kernel
theorem dX0_reckonStart_51 : decode cX0_reckonStart 51 = .ok (.istore_n 3, 1) := by decide +kernel
theorem dX0_reckonStart_52 : decode cX0_reckonStart 52 = .ok (.iload_n 3, 1) := by decide +kernel
theorem dX0_reckonStart_53 : decode cX0_reckonStart 53 = .ok (.ifCond .lt 95, 3) := by decide +kernel
theorem dX0_reckonStart_56 : decode cX0_reckonStart 56 = .ok (.iconst 1, 1) := by decide +kernel
theorem dX0_reckonStart_57 : decode cX0_reckonStart 57 = .ok (.iload_n 3, 1) := by decide +kernel
theorem dX0_reckonStart_58 : decode cX0_reckonStart 58 = .ok (.ishl, 1) := by decide +kernel
theorem dX0_reckonStart_59 : decode cX0_reckonStart 59 = .ok (.istore 4, 2) := by decide +kernel
theorem dX0_reckonStart_61 : decode cX0_reckonStart 61 = .ok (.iconst 0, 1) := by decide +kernel
theorem dX0_reckonStart_62 : decode cX0_reckonStart 62 = .ok (.istore 5, 2) := by decide +kernel
theorem dX0_reckonStart_64 : decode cX0_reckonStart 64 = .ok (.iload 4, 2) := by decide +kernel
theorem dX0_reckonStart_66 : decode cX0_reckonStart 66 = .ok (.iload_n 2, 1) := by decide +kernel
theorem dX0_reckonStart_67 : decode cX0_reckonStart 67 = .ok (.if_icmp .ge 75, 3) := by decide +kernel
theorem dX0_reckonStart_70 : decode cX0_reckonStart 70 = .ok (.iload 5, 2) := by decide +kernel
theorem dX0_reckonStart_72 : decode cX0_reckonStart 72 = .ok (.iload 4, 2) := by decide +kernel
theorem dX0_reckonStart_74 : decode cX0_reckonStart 74 = .ok (.if_icmp .ge 68, 3) := by decide +kernel
theorem dX0_reckonStart_77 : decode cX0_reckonStart 77 = .ok (.iload_n 3, 1) := by decide +kernel
theorem dX0_reckonStart_78 : decode cX0_reckonStart 78 = .ok (.ifCond .le 18, 3) := by decide +kernel
theorem dX0_reckonStart_81 : decode cX0_reckonStart 81 = .ok (.iload 5, 2) := by decide +kernel
theorem dX0_reckonStart_83 : decode cX0_reckonStart 83 = .ok (.iload_n 3, 1) := by decide +kernel
theorem dX0_reckonStart_84 : decode cX0_reckonStart 84 = .ok (.iconst 1, 1) := by decide +kernel
theorem dX0_reckonStart_85 : decode cX0_reckonStart 85 = .ok (.isub, 1) := by decide +kernel
theorem dX0_reckonStart_86 : decode cX0_reckonStart 86 = .ok (.ishr, 1) := by decide +kernel
theorem dX0_reckonStart_87 : decode cX0_reckonStart 87 = .ok (.iconst 1, 1) := by decide +kernel
theorem dX0_reckonStart_88 : decode cX0_reckonStart 88 = .ok (.iand, 1) := by decide +kernel
theorem dX0_reckonStart_89 : decode cX0_reckonStart 89 = .ok (.ifCond .eq 7, 3) := by decide +kernel
theorem dX0_reckonStart_92 : decode cX0_reckonStart 92 = .ok (.iconst 1, 1) := by decide +kernel
theorem dX0_reckonStart_93 : decode cX0_reckonStart 93 = .ok (.goto 4, 3) := by decide +kernel
theorem dX0_reckonStart_96 : decode cX0_reckonStart 96 = .ok (.iconst 0, 1) := by decide +kernel
theorem dX0_reckonStart_97 : decode cX0_reckonStart 97 = .ok (.istore 6, 2) := by decide +kernel
theorem dX0_reckonStart_99 : decode cX0_reckonStart 99 = .ok (.aload_n 0, 1) := by decide +kernel
theorem dX0_reckonStart_100 : decode cX0_reckonStart 100 = .ok (.getfield 21, 3) := by decide +kernel
theorem dX0_reckonStart_103 : decode cX0_reckonStart 103 = .ok (.iload 5, 2) := by decide +kernel
theorem dX0_reckonStart_105 : decode cX0_reckonStart 105 = .ok (.aload_n 0, 1) := by decide +kernel
theorem dX0_reckonStart_106 : decode cX0_reckonStart 106 = .ok (.getfield 24, 3) := by decide +kernel
theorem dX0_reckonStart_109 : decode cX0_reckonStart 109 = .ok (.iload_n 3, 1) := by decide +kernel
theorem dX0_reckonStart_110 : decode cX0_reckonStart 110 = .ok (.iload 6, 2) := by decide +kernel
theorem dX0_reckonStart_112 : decode cX0_reckonStart 112 = .ok (.invokevirtual 76, 3) := by decide +kernel
theorem dX0_reckonStart_115 : decode cX0_reckonStart 115 = .ok (.aload_n 0, 1) := by decide +kernel
theorem dX0_reckonStart_116 : decode cX0_reckonStart 116 = .ok (.getfield 21, 3) := by decide +kernel
theorem dX0_reckonStart_119 : decode cX0_reckonStart 119 = .ok (.iload 5, 2) := by decide +kernel
theorem dX0_reckonStart_121 : decode cX0_reckonStart 121 = .ok (.iload 4, 2) := by decide +kernel
theorem dX0_reckonStart_123 : decode cX0_reckonStart 123 = .ok (.ior, 1) := by decide +kernel
theorem dX0_reckonStart_124 : decode cX0_reckonStart 124 = .ok (.iaload, 1) := by decide +kernel
theorem dX0_reckonStart_125 : decode cX0_reckonStart 125 = .ok (.aload_n 0, 1) := by decide +kernel
theorem dX0_reckonStart_126 : decode cX0_reckonStart 126 = .ok (.getfield 21, 3) := by decide +kernel
theorem dX0_reckonStart_129 : decode cX0_reckonStart 129 = .ok (.iload 5, 2) := by decide +kernel
theorem dX0_reckonStart_131 : decode cX0_reckonStart 131 = .ok (.iaload, 1) := by decide +kernel
theorem dX0_reckonStart_132 : decode cX0_reckonStart 132 = .ok (.invokestatic 80, 3) := by decide +kernel
theorem dX0_reckonStart_135 : decode cX0_reckonStart 135 = .ok (.iastore, 1) := by decide +kernel
theorem dX0_reckonStart_136 : decode cX0_reckonStart 136 = .ok (.iinc 5 1, 3) := by decide +kernel
theorem dX0_reckonStart_139 : decode cX0_reckonStart 139 = .ok (.goto (-75), 3) := by decide +kernel
theorem dX0_reckonStart_142 : decode cX0_reckonStart 142 = .ok (.iinc 3 (-1), 3) := by decide +kernel
theorem dX0_reckonStart_145 : decode cX0_reckonStart 145 = .ok (.goto (-93), 3) := by decide +kernel
theorem dX0_reckonStart_148 : decode cX0_reckonStart 148 = .ok (.aload_n 0, 1) := by decide +kernel
theorem dX0_reckonStart_149 : decode cX0_reckonStart 149 = .ok (.getfield 21, 3) := by decide +kernel
theorem dX0_reckonStart_152 : decode cX0_reckonStart 152 = .ok (.iconst 0, 1) := by decide +kernel
theorem dX0_reckonStart_153 : decode cX0_reckonStart 153 = .ok (.iaload, 1) := by decide +kernel
theorem dX0_reckonStart_154 : decode cX0_reckonStart 154 = .ok (.ireturn, 1) := by decide +kernel
set_option maxHeartbeats 4000000 in
set_option maxRecDepth 100000 in
theorem x_reckonStart (l : Launch) (D : va_G) (k : Nat → ClassId) (st : Nat → Nat) (lo : Nat) (h0 : Nat) (h1 : Nat) (h2 : Nat) (h3 : Nat) (h4 : Nat) (n : Nat) (see : Nat) (tm : Nat) (g : Nat → Int32) (ff : Nat → Int32) (fp : Nat → Int32) (fl : Nat → Int32) (w0 : Nat) (w1 : Nat) (w2 : Nat) (w3 : Nat) (w4 : Nat) (on : Nat → Int32) (fo : Nat → Int32) (rn : Nat) (hn : n ≤ 24) (hsee : see ≤ 2) (hrn : rn ≤ 3) : CWi l D k st lo yX0_reckonStart cX0_reckonStart 7 (some .int) ({ frames := 3, cells := 0, slots := 0, locals := 84 }) 0 0 [.ref w0, .int (nI rn)] [(h0, .inr (5, [.ref h1, .ref h2, .ref h3, .ref h4])), (h1, .inl (k 1, 10, .inl (vv n see tm g))), (h2, .inl (k 1, 24, .inl ff)), (h3, .inl (k 1, 24, .inl fp)), (h4, .inl (k 1, 4, .inl fl)), (w0, .inr (0, [.ref h0, .ref w1, .ref w2, .ref w3, .ref w4])), (w1, .inl (k 1, 768, .inl on)), (w4, .inl (k 1, 8, .inl fo))] (fun (r : Int32) (fo_ : (Nat → Int32)) => True) (fun (fo_ : (Nat → Int32)) => [(h0, .inr (5, [.ref h1, .ref h2, .ref h3, .ref h4])), (h1, .inl (k 1, 10, .inl (vv n see tm g))), (h2, .inl (k 1, 24, .inl ff)), (h3, .inl (k 1, 24, .inl fp)), (h4, .inl (k 1, 4, .inl fl)), (w0, .inr (0, [.ref h0, .ref w1, .ref w2, .ref w3, .ref w4])), (w1, .inl (k 1, 768, .inl on)), (w4, .inl (k 1, 8, .inl fo_))]) := by
  intro sz
  refine Met.ofW (cc := cX0_reckonStart) (maxL := 7) (ret := (some .int)) (by decide) rfl ?_
  intro p e s m args below meth c s₁ B hml hv
  obtain ⟨rfl, hsz, hlo, hP, hK, hDL, hZ⟩ := hv
  have hx := B.exec
  have hb := B.bytes
  have hr := B.returns
  have hts := WS_ts B.pre
  have hown : s.vm.findClass RX0 = some m.cls := findClass_of_methodNamed B.named
  have hlocks := B.notSynchronized
  subst hsz
  have hD := hDL.self (sz := s.heap.size)
  have hAlo := A_lo hDL hlo
  generalize hAe : va_A [(h0, .inr (5, [.ref h1, .ref h2, .ref h3, .ref h4])), (h1, .inl (k 1, 10, .inl (vv n see tm g))), (h2, .inl (k 1, 24, .inl ff)), (h3, .inl (k 1, 24, .inl fp)), (h4, .inl (k 1, 4, .inl fl)), (w0, .inr (0, [.ref h0, .ref w1, .ref w2, .ref w3, .ref w4])), (w1, .inl (k 1, 768, .inl on)), (w4, .inl (k 1, 8, .inl fo))] s.heap.size = A at hD hAlo ⊢
  have hA : ∀ q : Nat, s.heap.size ≤ q → A q := fun q h => by rw [← hAe]; exact Or.inr h
  have hS : va_S A s.heap s.heap [] := va_S.rf
  have hl := lv_entry ([.ref w0, .int (nI rn)]) (n := 7) (Nat.le_of_ble_eq_true rfl)
  rw [lg_entry_eq]
  generalize (lg_sl ([.ref w0, .int (nI rn)]) ++ List.replicate (7 - (lg_sl ([.ref w0, .int (nI rn)])).length) Slot.unset).toArray = ls at hl ⊢
  have hl : lv_has ls 7 [(0, .ref w0), (1, .int (nI rn))] := hl
  refine lv_aload_n hx hb dX0_reckonStart_0 rfl (lv_at hl 0 rfl) ?_
  refine va_get (D := D) (ci := 0) (v := .ref h0) (C := RX0) (T := TX0) (N := 5) hx hb hts inX0 hown hK hP 5 rfl rfl 0 (by decide) (hts _ tw_266) (fun _ h9 => h9) rfl dX0_reckonStart_1 ?_
  refine lv_iconst (v := 0) hx hb dX0_reckonStart_4 (by decide) ?_
  refine ro_i (D := D) (va_runV (As := [.int 0]) (rest := []) ⟨hx, hb, hml, hown, hts⟩ ((x_sightsAt l D k st lo h0 h1 h2 h3 h4 n see tm g 0 (by omega) (by omega) (by omega)) s.heap.size) (cwV 1 hts (gV tw_536 tw_537 tw_538 tw_81 tw_539) rfl rfl rfl (by decide +kernel) ⟨Nat.le_of_ble_eq_true rfl, Nat.le_of_ble_eq_true rfl⟩) (pV hS hAlo hlo hP hK (va_Dlo hD hAlo) hZ [0, 1] (by decide) rfl (ci := 5) (q0 := 0) rfl rfl) rfl rfl hl.1 rfl (lv_room (Nat.le_of_ble_eq_true rfl)) dX0_reckonStart_5 ⟨Nat.le_of_ble_eq_true rfl, Nat.le_of_ble_eq_true rfl⟩) hS hA hP (fun r_1 H locs hw_1 hP hS => ?_)
  try dsimp only at hw_1
  obtain ⟨zs_2, rfl, hza_2, hzb_2, hzq_2⟩ := hw_1
  refine lv_istore_n (lv' := [(2, .int (nI zs_2)), (0, .ref w0), (1, .int (nI rn))]) hx hb dX0_reckonStart_8 rfl hl (by decide) rfl (fun ls hl => ?_)
  refine lv_iconst (v := 0) hx hb dX0_reckonStart_9 (by decide) ?_
  refine lv_istore_n (lv' := [(3, .int 0), (2, .int (nI zs_2)), (0, .ref w0), (1, .int (nI rn))]) hx hb dX0_reckonStart_10 rfl hl (by decide) rfl (fun ls hl => ?_)
  refine W_loop (σ := Nat × (Nat → Int32)) (fun (n_ : Nat) (x_ : Nat × (Nat → Int32)) (H : Heap) (locs : List Loc) (ls : Array Slot) => match x_ with | (g2_3, fo2_3) => n_ = 8 - g2_3 ∧ (g2_3 ≤ 8) ∧ va_P D classes [(h0, .inr (5, [.ref h1, .ref h2, .ref h3, .ref h4])), (h1, .inl (k 1, 10, .inl (vv n see tm g))), (h2, .inl (k 1, 24, .inl ff)), (h3, .inl (k 1, 24, .inl fp)), (h4, .inl (k 1, 4, .inl fl)), (w0, .inr (0, [.ref h0, .ref w1, .ref w2, .ref w3, .ref w4])), (w1, .inl (k 1, 768, .inl on)), (w4, .inl (k 1, 8, .inl fo2_3))] H ∧ va_D A [(h0, .inr (5, [.ref h1, .ref h2, .ref h3, .ref h4])), (h1, .inl (k 1, 10, .inl (vv n see tm g))), (h2, .inl (k 1, 24, .inl ff)), (h3, .inl (k 1, 24, .inl fp)), (h4, .inl (k 1, 4, .inl fl)), (w0, .inr (0, [.ref h0, .ref w1, .ref w2, .ref w3, .ref w4])), (w1, .inl (k 1, 768, .inl on)), (w4, .inl (k 1, 8, .inl fo2_3))] ∧ va_S A s.heap H locs ∧ lv_has ls 7 [(3, .int (nI g2_3)), (2, .int (nI zs_2)), (0, .ref w0), (1, .int (nI rn))]) (fun n_3 x_3 H locs ls hI ih_3 => ?_) _ (0, fo) ⟨rfl, (by omega), hP, hD, hS, (lv_sub hl [0, 1, 2, 3] rfl)⟩
  obtain ⟨g2_3, fo2_3⟩ := x_3
  obtain ⟨hm_3, hv_3, hP, hD, hS, hl⟩ := hI
  subst hm_3
  refine lv_iload_n hx hb dX0_reckonStart_11 rfl (lv_at hl 0 rfl) ?_
  refine lv_iload_n hx hb dX0_reckonStart_12 rfl (lv_at hl 1 rfl) ?_
  refine lv_icmp_ge (tgt := 41) hx hb dX0_reckonStart_13 (by decide) (fun c_4 => ?_) (fun c_4 => ?_)
  · have c_4 := (nI_leI (a := zs_2) (b := g2_3) (by omega) (by omega)).mp c_4
    refine lv_aload_n hx hb dX0_reckonStart_41 rfl (lv_at hl 2 rfl) ?_
    refine va_get (D := D) (ci := 0) (v := .ref h0) (C := RX0) (T := TX0) (N := 5) hx hb hts inX0 hown hK hP 5 rfl rfl 0 (by decide) (hts _ tw_266) (fun _ h9 => h9) rfl dX0_reckonStart_42 ?_
    refine va_get (D := D) (ci := 5) (v := .ref h1) (C := RX5) (T := TX5) (N := 4) hx hb hts inX5 hown hK hP 0 rfl rfl 0 (by decide) (hts _ tw_147) (fun _ h9 => h9) rfl dX0_reckonStart_45 ?_
    refine lv_bipush (v := 6) hx hb dX0_reckonStart_48 (by decide) ?_
    refine va_iald hx hb hK hP 1 1 rfl rfl (by unfold vp_in; decide) dX0_reckonStart_50 ?_
    refine lv_ti (y := (nI see)) (by rfl) ?_
    refine lv_istore_n (lv' := [(3, .int (nI see)), (2, .int (nI zs_2)), (0, .ref w0), (1, .int (nI rn))]) hx hb dX0_reckonStart_51 rfl hl (by decide) rfl (fun ls hl => ?_)
    refine W_loop (σ := Nat × (Nat → Int32)) (fun (n_ : Nat) (x_ : Nat × (Nat → Int32)) (H : Heap) (locs : List Loc) (ls : Array Slot) => match x_ with | (q_5, fo2_5) => n_ = 2 * q_5 ∧ (q_5 ≤ 3) ∧ va_P D classes [(h0, .inr (5, [.ref h1, .ref h2, .ref h3, .ref h4])), (h1, .inl (k 1, 10, .inl (vv n see tm g))), (h2, .inl (k 1, 24, .inl ff)), (h3, .inl (k 1, 24, .inl fp)), (h4, .inl (k 1, 4, .inl fl)), (w0, .inr (0, [.ref h0, .ref w1, .ref w2, .ref w3, .ref w4])), (w1, .inl (k 1, 768, .inl on)), (w4, .inl (k 1, 8, .inl fo2_5))] H ∧ va_D A [(h0, .inr (5, [.ref h1, .ref h2, .ref h3, .ref h4])), (h1, .inl (k 1, 10, .inl (vv n see tm g))), (h2, .inl (k 1, 24, .inl ff)), (h3, .inl (k 1, 24, .inl fp)), (h4, .inl (k 1, 4, .inl fl)), (w0, .inr (0, [.ref h0, .ref w1, .ref w2, .ref w3, .ref w4])), (w1, .inl (k 1, 768, .inl on)), (w4, .inl (k 1, 8, .inl fo2_5))] ∧ va_S A s.heap H locs ∧ lv_has ls 7 [(3, .int (nI q_5 - 1)), (2, .int (nI zs_2)), (0, .ref w0), (1, .int (nI rn))]) (fun n_5 x_5 H locs ls hI ih_5 => ?_) _ (see + 1, fo2_3) ⟨rfl, (by omega), hP, hD, hS, (by rw [nI_pred]; exact lv_sub hl [0, 1, 2, 3] rfl)⟩
    obtain ⟨q_5, fo2_5⟩ := x_5
    obtain ⟨hm_5, hv_5, hP, hD, hS, hl⟩ := hI
    subst hm_5
    rcases q_5 with _ | q_5
    · rw [dn0] at hl
      refine lv_iload_n hx hb dX0_reckonStart_52 rfl (lv_at hl 0 rfl) ?_
      refine lv_if_lt (tgt := 148) hx hb dX0_reckonStart_53 (by decide) (fun _ => ?_) (fun h => absurd (by decide) h)
      refine lv_aload_n hx hb dX0_reckonStart_148 rfl (lv_at hl 2 rfl) ?_
      refine va_get (D := D) (ci := 0) (v := .ref w4) (C := RX0) (T := TX0) (N := 5) hx hb hts inX0 hown hK hP 5 rfl rfl 4 (by decide) (hts _ tw_272) (fun _ h9 => h9) rfl dX0_reckonStart_149 ?_
      refine lv_iconst (v := 0) hx hb dX0_reckonStart_152 (by decide) ?_
      refine va_iald hx hb hK hP 7 1 rfl rfl (by unfold vp_in; decide) dX0_reckonStart_153 ?_
      refine lv_ti (y := (fo2_5 0)) (by rfl) ?_
      have hP9 := hP.sub (ws' := [(h0, .inr (5, [.ref h1, .ref h2, .ref h3, .ref h4])), (h1, .inl (k 1, 10, .inl (vv n see tm g))), (h2, .inl (k 1, 24, .inl ff)), (h3, .inl (k 1, 24, .inl fp)), (h4, .inl (k 1, 4, .inl fl)), (w0, .inr (0, [.ref h0, .ref w1, .ref w2, .ref w3, .ref w4])), (w1, .inl (k 1, 768, .inl on)), (w4, .inl (k 1, 8, .inl fo2_5))]) [0, 1, 2, 3, 4, 5, 6, 7] rfl
      have hD9 := hD.sub (ws' := [(h0, .inr (5, [.ref h1, .ref h2, .ref h3, .ref h4])), (h1, .inl (k 1, 10, .inl (vv n see tm g))), (h2, .inl (k 1, 24, .inl ff)), (h3, .inl (k 1, 24, .inl fp)), (h4, .inl (k 1, 4, .inl fl)), (w0, .inr (0, [.ref h0, .ref w1, .ref w2, .ref w3, .ref w4])), (w1, .inl (k 1, 768, .inl on)), (w4, .inl (k 1, 8, .inl fo2_5))]) [0, 1, 2, 3, 4, 5, 6, 7] (by decide) rfl
      exact W.iret (v := (fo2_5 0)) hx hb hr (fun t ht hW => ⟨⟨(fo2_5 0), fo2_5, rfl, trivial, by rw [ht]; exact hP9, hD9⟩, hS.F ht⟩) hS.2.2 dX0_reckonStart_154
    · rw [nI_pred] at hl
      refine lv_iload_n hx hb dX0_reckonStart_52 rfl (lv_at hl 0 rfl) ?_
      refine lv_if_lt (tgt := 148) hx hb dX0_reckonStart_53 (by decide) (fun h => absurd h (nI_pos0 (by omega))) (fun _ => ?_)
      refine lv_iconst (v := 1) hx hb dX0_reckonStart_56 (by decide) ?_
      refine lv_iload_n hx hb dX0_reckonStart_57 rfl (lv_at hl 0 rfl) ?_
      obtain ⟨pw_6, epw_6⟩ : ∃ z : Nat, z = 2 ^ (q_5) := ⟨_, rfl⟩
      have hpw_6 : 1 ≤ pw_6 ∧ pw_6 ≤ 4 := by rw [epw_6]; exact pw4 (by omega)
      refine lv_ishl hx hb dX0_reckonStart_58 ?_
      refine lv_ti (y := (nI pw_6)) (by rw [epw_6]; exact shl1 q_5 (by omega)) ?_
      refine lv_istore (lv' := [(4, .int (nI pw_6)), (3, .int (nI q_5)), (2, .int (nI zs_2)), (0, .ref w0), (1, .int (nI rn))]) hx hb dX0_reckonStart_59 hl (by decide) rfl (fun ls hl => ?_)
      refine lv_iconst (v := 0) hx hb dX0_reckonStart_61 (by decide) ?_
      refine lv_istore (lv' := [(5, .int 0), (4, .int (nI pw_6)), (3, .int (nI q_5)), (2, .int (nI zs_2)), (0, .ref w0), (1, .int (nI rn))]) hx hb dX0_reckonStart_62 hl (by decide) rfl (fun ls hl => ?_)
      refine W_loop (σ := Nat × (Nat → Int32)) (fun (n_ : Nat) (x_ : Nat × (Nat → Int32)) (H : Heap) (locs : List Loc) (ls : Array Slot) => match x_ with | (g2_7, fo2_7) => n_ = 5 - g2_7 ∧ (g2_7 ≤ 4) ∧ va_P D classes [(h0, .inr (5, [.ref h1, .ref h2, .ref h3, .ref h4])), (h1, .inl (k 1, 10, .inl (vv n see tm g))), (h2, .inl (k 1, 24, .inl ff)), (h3, .inl (k 1, 24, .inl fp)), (h4, .inl (k 1, 4, .inl fl)), (w0, .inr (0, [.ref h0, .ref w1, .ref w2, .ref w3, .ref w4])), (w1, .inl (k 1, 768, .inl on)), (w4, .inl (k 1, 8, .inl fo2_7))] H ∧ va_D A [(h0, .inr (5, [.ref h1, .ref h2, .ref h3, .ref h4])), (h1, .inl (k 1, 10, .inl (vv n see tm g))), (h2, .inl (k 1, 24, .inl ff)), (h3, .inl (k 1, 24, .inl fp)), (h4, .inl (k 1, 4, .inl fl)), (w0, .inr (0, [.ref h0, .ref w1, .ref w2, .ref w3, .ref w4])), (w1, .inl (k 1, 768, .inl on)), (w4, .inl (k 1, 8, .inl fo2_7))] ∧ va_S A s.heap H locs ∧ lv_has ls 7 [(5, .int (nI g2_7)), (4, .int (nI pw_6)), (3, .int (nI q_5)), (2, .int (nI zs_2)), (0, .ref w0), (1, .int (nI rn))]) (fun n_7 x_7 H locs ls hI ih_7 => ?_) _ (0, fo2_5) ⟨rfl, (by omega), hP, hD, hS, (lv_sub hl [0, 1, 2, 3, 4, 5] rfl)⟩
      obtain ⟨g2_7, fo2_7⟩ := x_7
      obtain ⟨hm_7, hv_7, hP, hD, hS, hl⟩ := hI
      subst hm_7
      refine lv_iload hx hb dX0_reckonStart_64 (lv_at hl 1 rfl) ?_
      refine lv_iload_n hx hb dX0_reckonStart_66 rfl (lv_at hl 3 rfl) ?_
      refine lv_icmp_ge (tgt := 142) hx hb dX0_reckonStart_67 (by decide) (fun c_8 => ?_) (fun c_8 => ?_)
      · have c_8 := (nI_leI (a := zs_2) (b := pw_6) (by omega) (by omega)).mp c_8
        refine lv_iinc (v := (nI q_5 - 1)) (lv' := [(3, .int (nI q_5 - 1)), (5, .int (nI g2_7)), (4, .int (nI pw_6)), (2, .int (nI zs_2)), (0, .ref w0), (1, .int (nI rn))]) hx hb dX0_reckonStart_142 hl (k := 2) rfl (dn1 _) (by decide) rfl (fun ls hl => ?_)
        refine lv_goto (tgt := 52) hx hb dX0_reckonStart_145 (by decide) ?_
        exact ih_5 _ (q_5, fo2_7) _ _ _ (by omega) ⟨rfl, (by omega), hP, hD, hS, (lv_sub hl [0, 3, 4, 5] rfl)⟩
      · have c_8 : ¬ (zs_2 ≤ pw_6) := fun h => c_8 ((nI_leI (a := zs_2) (b := pw_6) (by omega) (by omega)).mpr h)
        refine lv_iload hx hb dX0_reckonStart_70 (lv_at hl 0 rfl) ?_
        refine lv_iload hx hb dX0_reckonStart_72 (lv_at hl 1 rfl) ?_
        refine lv_icmp_ge (tgt := 142) hx hb dX0_reckonStart_74 (by decide) (fun c_9 => ?_) (fun c_9 => ?_)
        · have c_9 := (nI_leI (a := pw_6) (b := g2_7) (by omega) (by omega)).mp c_9
          refine lv_iinc (v := (nI q_5 - 1)) (lv' := [(3, .int (nI q_5 - 1)), (5, .int (nI g2_7)), (4, .int (nI pw_6)), (2, .int (nI zs_2)), (0, .ref w0), (1, .int (nI rn))]) hx hb dX0_reckonStart_142 hl (k := 2) rfl (dn1 _) (by decide) rfl (fun ls hl => ?_)
          refine lv_goto (tgt := 52) hx hb dX0_reckonStart_145 (by decide) ?_
          exact ih_5 _ (q_5, fo2_7) _ _ _ (by omega) ⟨rfl, (by omega), hP, hD, hS, (lv_sub hl [0, 3, 4, 5] rfl)⟩
        · have c_9 : ¬ (pw_6 ≤ g2_7) := fun h => c_9 ((nI_leI (a := pw_6) (b := g2_7) (by omega) (by omega)).mpr h)
          refine lv_iload_n hx hb dX0_reckonStart_77 rfl (lv_at hl 2 rfl) ?_
          refine lv_if_le (tgt := 96) hx hb dX0_reckonStart_78 (by decide) (fun c_10 => ?_) (fun c_10 => ?_)
          · have c_10 := (nI_leI (a := q_5) (b := 0) (by omega) (by omega)).mp c_10
            refine lv_iconst (v := 0) hx hb dX0_reckonStart_96 (by decide) ?_
            refine lv_istore (lv' := [(6, .int 0), (5, .int (nI g2_7)), (4, .int (nI pw_6)), (3, .int (nI q_5)), (2, .int (nI zs_2)), (0, .ref w0), (1, .int (nI rn))]) hx hb dX0_reckonStart_97 hl (by decide) rfl (fun ls hl => ?_)
            refine lv_aload_n hx hb dX0_reckonStart_99 rfl (lv_at hl 5 rfl) ?_
            refine va_get (D := D) (ci := 0) (v := .ref w4) (C := RX0) (T := TX0) (N := 5) hx hb hts inX0 hown hK hP 5 rfl rfl 4 (by decide) (hts _ tw_272) (fun _ h9 => h9) rfl dX0_reckonStart_100 ?_
            refine lv_iload hx hb dX0_reckonStart_103 (lv_at hl 1 rfl) ?_
            refine lv_aload_n hx hb dX0_reckonStart_105 rfl (lv_at hl 5 rfl) ?_
            refine va_get (D := D) (ci := 0) (v := .ref h0) (C := RX0) (T := TX0) (N := 5) hx hb hts inX0 hown hK hP 5 rfl rfl 0 (by decide) (hts _ tw_266) (fun _ h9 => h9) rfl dX0_reckonStart_106 ?_
            refine lv_iload_n hx hb dX0_reckonStart_109 rfl (lv_at hl 3 rfl) ?_
            refine lv_iload hx hb dX0_reckonStart_110 (lv_at hl 0 rfl) ?_
            refine ro_i (D := D) (va_runV (As := [.int (nI q_5), .int 0]) (rest := [.int (nI g2_7), .ref w4]) ⟨hx, hb, hml, hown, hts⟩ ((x_chanceOf l D k st lo h0 h1 h2 h3 h4 n see tm g ff q_5 0 (by omega)) H.size) (cwV 2 hts (gV tw_564 tw_565 tw_566 tw_81 tw_567) rfl rfl rfl (by decide +kernel) ⟨Nat.le_of_ble_eq_true rfl, Nat.le_of_ble_eq_true rfl⟩) (pV hS hAlo hlo hP hK (va_Dlo hD hAlo) hZ [0, 1, 2] (by decide) rfl (ci := 5) (q0 := 0) rfl rfl) rfl rfl hl.1 rfl (lv_room (Nat.le_of_ble_eq_true rfl)) dX0_reckonStart_112 ⟨Nat.le_of_ble_eq_true rfl, Nat.le_of_ble_eq_true rfl⟩) hS hA hP (fun r_11 H locs hw_11 hP hS => ?_)
            try dsimp only at hw_11
            refine lv_aload_n hx hb dX0_reckonStart_115 rfl (lv_at hl 5 rfl) ?_
            refine va_get (D := D) (ci := 0) (v := .ref w4) (C := RX0) (T := TX0) (N := 5) hx hb hts inX0 hown hK hP 5 rfl rfl 4 (by decide) (hts _ tw_272) (fun _ h9 => h9) rfl dX0_reckonStart_116 ?_
            refine lv_iload hx hb dX0_reckonStart_119 (lv_at hl 1 rfl) ?_
            refine lv_iload hx hb dX0_reckonStart_121 (lv_at hl 2 rfl) ?_
            obtain ⟨ov_12, hov_12, eov_12⟩ := or8 g2_7 (by omega) pw_6 (by omega)
            refine lv_ior hx hb dX0_reckonStart_123 ?_
            refine lv_ti (y := (nI ov_12)) eov_12 ?_
            refine va_iald hx hb hK hP 7 1 rfl rfl (vp_in_nI (by omega) (by decide)) dX0_reckonStart_124 ?_
            refine lv_ti (y := (fo2_7 ov_12)) (by rw [nI_clamp (by omega)]) ?_
            refine lv_aload_n hx hb dX0_reckonStart_125 rfl (lv_at hl 5 rfl) ?_
            refine va_get (D := D) (ci := 0) (v := .ref w4) (C := RX0) (T := TX0) (N := 5) hx hb hts inX0 hown hK hP 5 rfl rfl 4 (by decide) (hts _ tw_272) (fun _ h9 => h9) rfl dX0_reckonStart_126 ?_
            refine lv_iload hx hb dX0_reckonStart_129 (lv_at hl 1 rfl) ?_
            refine va_iald hx hb hK hP 7 1 rfl rfl (vp_in_nI (by omega) (by decide)) dX0_reckonStart_131 ?_
            refine lv_ti (y := (fo2_7 g2_7)) (by rw [nI_clamp (by omega)]) ?_
            refine ro_i (D := D) (va_runSN (As := [.int r_11, .int (fo2_7 ov_12), .int (fo2_7 g2_7)]) (rest := [.int (nI g2_7), .ref w4]) ⟨hx, hb, hml, hown, hts⟩ ((x_mixed l D k st lo r_11 (fo2_7 ov_12) (fo2_7 g2_7)) H.size) ⟨va_cnB 3 hts (gLW tw_570) rfl rfl rfl (hZ.2.2.2.2.2.2.2.2.1.1 (RX0, 80, yX7_mixed, RX7) (List.mem_of_getElem? (i := 5) rfl)) (hts _ tw_79) (by decide +kernel) ⟨Nat.le_of_ble_eq_true rfl, Nat.le_of_ble_eq_true rfl⟩, hts _ tw_569, trivial⟩ (pS hS hAlo hlo hP hK (va_Dlo hD hAlo) hZ [] (by decide) rfl) rfl rfl hl.1 rfl (lv_room (Nat.le_of_ble_eq_true rfl)) dX0_reckonStart_132 ⟨Nat.le_of_ble_eq_true rfl, Nat.le_of_ble_eq_true rfl⟩) hS hA hP (fun r_13 H locs hw_13 hP hS => ?_)
            try dsimp only at hw_13
            refine va_iast hx hb hK hP hD hS 7 1 rfl rfl (vp_in_nI (by omega) (by decide)) dX0_reckonStart_135 (fun H locs hP hD hS => ?_)
            replace hP : va_P D classes [(h0, .inr (5, [.ref h1, .ref h2, .ref h3, .ref h4])), (h1, .inl (k 1, 10, .inl (vv n see tm g))), (h2, .inl (k 1, 24, .inl ff)), (h3, .inl (k 1, 24, .inl fp)), (h4, .inl (k 1, 4, .inl fl)), (w0, .inr (0, [.ref h0, .ref w1, .ref w2, .ref w3, .ref w4])), (w1, .inl (k 1, 768, .inl on)), (w4, .inl (k 1, 8, .inl (upd fo2_7 (Int32.toNatClampNeg (nI g2_7)) r_13)))] H := hP
            replace hD : va_D A [(h0, .inr (5, [.ref h1, .ref h2, .ref h3, .ref h4])), (h1, .inl (k 1, 10, .inl (vv n see tm g))), (h2, .inl (k 1, 24, .inl ff)), (h3, .inl (k 1, 24, .inl fp)), (h4, .inl (k 1, 4, .inl fl)), (w0, .inr (0, [.ref h0, .ref w1, .ref w2, .ref w3, .ref w4])), (w1, .inl (k 1, 768, .inl on)), (w4, .inl (k 1, 8, .inl (upd fo2_7 (Int32.toNatClampNeg (nI g2_7)) r_13)))] := hD
            generalize (upd fo2_7 (Int32.toNatClampNeg (nI g2_7)) r_13) = f_14 at hP hD
            refine lv_iinc (v := (nI (g2_7 + 1))) (lv' := [(5, .int (nI (g2_7 + 1))), (6, .int 0), (4, .int (nI pw_6)), (3, .int (nI q_5)), (2, .int (nI zs_2)), (0, .ref w0), (1, .int (nI rn))]) hx hb dX0_reckonStart_136 hl (k := 1) rfl (nI_add g2_7 1) (by decide) rfl (fun ls hl => ?_)
            refine lv_goto (tgt := 64) hx hb dX0_reckonStart_139 (by decide) ?_
            exact ih_7 _ (g2_7 + 1, f_14) _ _ _ (by omega) ⟨rfl, (by omega), hP, hD, hS, (lv_sub hl [0, 2, 3, 4, 5, 6] rfl)⟩
          · have c_10 : ¬ (q_5 ≤ 0) := fun h => c_10 ((nI_leI (a := q_5) (b := 0) (by omega) (by omega)).mpr h)
            refine lv_iload hx hb dX0_reckonStart_81 (lv_at hl 0 rfl) ?_
            refine lv_iload_n hx hb dX0_reckonStart_83 rfl (lv_at hl 2 rfl) ?_
            refine lv_iconst (v := 1) hx hb dX0_reckonStart_84 (by decide) ?_
            refine lv_isub hx hb dX0_reckonStart_85 ?_
            refine lv_ti (y := (nI (q_5 - 1))) (pk_sub (a := q_5) (b := 1) (by omega)) ?_
            refine lv_ishr hx hb dX0_reckonStart_86 ?_
            refine lv_topi (fun x_15 ex_15 => ?_)
            refine lv_iconst (v := 1) hx hb dX0_reckonStart_87 (by decide) ?_
            refine lv_iand hx hb dX0_reckonStart_88 ?_
            refine lv_topi (fun x_16 ex_16 => ?_)
            refine lv_if_eq (tgt := 96) hx hb dX0_reckonStart_89 (by decide) (fun c_17 => ?_) (fun c_17 => ?_)
            · refine lv_iconst (v := 0) hx hb dX0_reckonStart_96 (by decide) ?_
              refine lv_istore (lv' := [(6, .int 0), (5, .int (nI g2_7)), (4, .int (nI pw_6)), (3, .int (nI q_5)), (2, .int (nI zs_2)), (0, .ref w0), (1, .int (nI rn))]) hx hb dX0_reckonStart_97 hl (by decide) rfl (fun ls hl => ?_)
              refine lv_aload_n hx hb dX0_reckonStart_99 rfl (lv_at hl 5 rfl) ?_
              refine va_get (D := D) (ci := 0) (v := .ref w4) (C := RX0) (T := TX0) (N := 5) hx hb hts inX0 hown hK hP 5 rfl rfl 4 (by decide) (hts _ tw_272) (fun _ h9 => h9) rfl dX0_reckonStart_100 ?_
              refine lv_iload hx hb dX0_reckonStart_103 (lv_at hl 1 rfl) ?_
              refine lv_aload_n hx hb dX0_reckonStart_105 rfl (lv_at hl 5 rfl) ?_
              refine va_get (D := D) (ci := 0) (v := .ref h0) (C := RX0) (T := TX0) (N := 5) hx hb hts inX0 hown hK hP 5 rfl rfl 0 (by decide) (hts _ tw_266) (fun _ h9 => h9) rfl dX0_reckonStart_106 ?_
              refine lv_iload_n hx hb dX0_reckonStart_109 rfl (lv_at hl 3 rfl) ?_
              refine lv_iload hx hb dX0_reckonStart_110 (lv_at hl 0 rfl) ?_
              refine ro_i (D := D) (va_runV (As := [.int (nI q_5), .int 0]) (rest := [.int (nI g2_7), .ref w4]) ⟨hx, hb, hml, hown, hts⟩ ((x_chanceOf l D k st lo h0 h1 h2 h3 h4 n see tm g ff q_5 0 (by omega)) H.size) (cwV 2 hts (gV tw_564 tw_565 tw_566 tw_81 tw_567) rfl rfl rfl (by decide +kernel) ⟨Nat.le_of_ble_eq_true rfl, Nat.le_of_ble_eq_true rfl⟩) (pV hS hAlo hlo hP hK (va_Dlo hD hAlo) hZ [0, 1, 2] (by decide) rfl (ci := 5) (q0 := 0) rfl rfl) rfl rfl hl.1 rfl (lv_room (Nat.le_of_ble_eq_true rfl)) dX0_reckonStart_112 ⟨Nat.le_of_ble_eq_true rfl, Nat.le_of_ble_eq_true rfl⟩) hS hA hP (fun r_18 H locs hw_18 hP hS => ?_)
              try dsimp only at hw_18
              refine lv_aload_n hx hb dX0_reckonStart_115 rfl (lv_at hl 5 rfl) ?_
              refine va_get (D := D) (ci := 0) (v := .ref w4) (C := RX0) (T := TX0) (N := 5) hx hb hts inX0 hown hK hP 5 rfl rfl 4 (by decide) (hts _ tw_272) (fun _ h9 => h9) rfl dX0_reckonStart_116 ?_
              refine lv_iload hx hb dX0_reckonStart_119 (lv_at hl 1 rfl) ?_
              refine lv_iload hx hb dX0_reckonStart_121 (lv_at hl 2 rfl) ?_
              obtain ⟨ov_19, hov_19, eov_19⟩ := or8 g2_7 (by omega) pw_6 (by omega)
              refine lv_ior hx hb dX0_reckonStart_123 ?_
              refine lv_ti (y := (nI ov_19)) eov_19 ?_
              refine va_iald hx hb hK hP 7 1 rfl rfl (vp_in_nI (by omega) (by decide)) dX0_reckonStart_124 ?_
              refine lv_ti (y := (fo2_7 ov_19)) (by rw [nI_clamp (by omega)]) ?_
              refine lv_aload_n hx hb dX0_reckonStart_125 rfl (lv_at hl 5 rfl) ?_
              refine va_get (D := D) (ci := 0) (v := .ref w4) (C := RX0) (T := TX0) (N := 5) hx hb hts inX0 hown hK hP 5 rfl rfl 4 (by decide) (hts _ tw_272) (fun _ h9 => h9) rfl dX0_reckonStart_126 ?_
              refine lv_iload hx hb dX0_reckonStart_129 (lv_at hl 1 rfl) ?_
              refine va_iald hx hb hK hP 7 1 rfl rfl (vp_in_nI (by omega) (by decide)) dX0_reckonStart_131 ?_
              refine lv_ti (y := (fo2_7 g2_7)) (by rw [nI_clamp (by omega)]) ?_
              refine ro_i (D := D) (va_runSN (As := [.int r_18, .int (fo2_7 ov_19), .int (fo2_7 g2_7)]) (rest := [.int (nI g2_7), .ref w4]) ⟨hx, hb, hml, hown, hts⟩ ((x_mixed l D k st lo r_18 (fo2_7 ov_19) (fo2_7 g2_7)) H.size) ⟨va_cnB 3 hts (gLW tw_570) rfl rfl rfl (hZ.2.2.2.2.2.2.2.2.1.1 (RX0, 80, yX7_mixed, RX7) (List.mem_of_getElem? (i := 5) rfl)) (hts _ tw_79) (by decide +kernel) ⟨Nat.le_of_ble_eq_true rfl, Nat.le_of_ble_eq_true rfl⟩, hts _ tw_569, trivial⟩ (pS hS hAlo hlo hP hK (va_Dlo hD hAlo) hZ [] (by decide) rfl) rfl rfl hl.1 rfl (lv_room (Nat.le_of_ble_eq_true rfl)) dX0_reckonStart_132 ⟨Nat.le_of_ble_eq_true rfl, Nat.le_of_ble_eq_true rfl⟩) hS hA hP (fun r_20 H locs hw_20 hP hS => ?_)
              try dsimp only at hw_20
              refine va_iast hx hb hK hP hD hS 7 1 rfl rfl (vp_in_nI (by omega) (by decide)) dX0_reckonStart_135 (fun H locs hP hD hS => ?_)
              replace hP : va_P D classes [(h0, .inr (5, [.ref h1, .ref h2, .ref h3, .ref h4])), (h1, .inl (k 1, 10, .inl (vv n see tm g))), (h2, .inl (k 1, 24, .inl ff)), (h3, .inl (k 1, 24, .inl fp)), (h4, .inl (k 1, 4, .inl fl)), (w0, .inr (0, [.ref h0, .ref w1, .ref w2, .ref w3, .ref w4])), (w1, .inl (k 1, 768, .inl on)), (w4, .inl (k 1, 8, .inl (upd fo2_7 (Int32.toNatClampNeg (nI g2_7)) r_20)))] H := hP
              replace hD : va_D A [(h0, .inr (5, [.ref h1, .ref h2, .ref h3, .ref h4])), (h1, .inl (k 1, 10, .inl (vv n see tm g))), (h2, .inl (k 1, 24, .inl ff)), (h3, .inl (k 1, 24, .inl fp)), (h4, .inl (k 1, 4, .inl fl)), (w0, .inr (0, [.ref h0, .ref w1, .ref w2, .ref w3, .ref w4])), (w1, .inl (k 1, 768, .inl on)), (w4, .inl (k 1, 8, .inl (upd fo2_7 (Int32.toNatClampNeg (nI g2_7)) r_20)))] := hD
              generalize (upd fo2_7 (Int32.toNatClampNeg (nI g2_7)) r_20) = f_21 at hP hD
              refine lv_iinc (v := (nI (g2_7 + 1))) (lv' := [(5, .int (nI (g2_7 + 1))), (6, .int 0), (4, .int (nI pw_6)), (3, .int (nI q_5)), (2, .int (nI zs_2)), (0, .ref w0), (1, .int (nI rn))]) hx hb dX0_reckonStart_136 hl (k := 1) rfl (nI_add g2_7 1) (by decide) rfl (fun ls hl => ?_)
              refine lv_goto (tgt := 64) hx hb dX0_reckonStart_139 (by decide) ?_
              exact ih_7 _ (g2_7 + 1, f_21) _ _ _ (by omega) ⟨rfl, (by omega), hP, hD, hS, (lv_sub hl [0, 2, 3, 4, 5, 6] rfl)⟩
            · refine lv_iconst (v := 1) hx hb dX0_reckonStart_92 (by decide) ?_
              refine lv_goto (tgt := 97) hx hb dX0_reckonStart_93 (by decide) ?_
              refine lv_istore (lv' := [(6, .int 1), (5, .int (nI g2_7)), (4, .int (nI pw_6)), (3, .int (nI q_5)), (2, .int (nI zs_2)), (0, .ref w0), (1, .int (nI rn))]) hx hb dX0_reckonStart_97 hl (by decide) rfl (fun ls hl => ?_)
              refine lv_aload_n hx hb dX0_reckonStart_99 rfl (lv_at hl 5 rfl) ?_
              refine va_get (D := D) (ci := 0) (v := .ref w4) (C := RX0) (T := TX0) (N := 5) hx hb hts inX0 hown hK hP 5 rfl rfl 4 (by decide) (hts _ tw_272) (fun _ h9 => h9) rfl dX0_reckonStart_100 ?_
              refine lv_iload hx hb dX0_reckonStart_103 (lv_at hl 1 rfl) ?_
              refine lv_aload_n hx hb dX0_reckonStart_105 rfl (lv_at hl 5 rfl) ?_
              refine va_get (D := D) (ci := 0) (v := .ref h0) (C := RX0) (T := TX0) (N := 5) hx hb hts inX0 hown hK hP 5 rfl rfl 0 (by decide) (hts _ tw_266) (fun _ h9 => h9) rfl dX0_reckonStart_106 ?_
              refine lv_iload_n hx hb dX0_reckonStart_109 rfl (lv_at hl 3 rfl) ?_
              refine lv_iload hx hb dX0_reckonStart_110 (lv_at hl 0 rfl) ?_
              refine ro_i (D := D) (va_runV (As := [.int (nI q_5), .int 1]) (rest := [.int (nI g2_7), .ref w4]) ⟨hx, hb, hml, hown, hts⟩ ((x_chanceOf l D k st lo h0 h1 h2 h3 h4 n see tm g ff q_5 1 (by omega)) H.size) (cwV 2 hts (gV tw_564 tw_565 tw_566 tw_81 tw_567) rfl rfl rfl (by decide +kernel) ⟨Nat.le_of_ble_eq_true rfl, Nat.le_of_ble_eq_true rfl⟩) (pV hS hAlo hlo hP hK (va_Dlo hD hAlo) hZ [0, 1, 2] (by decide) rfl (ci := 5) (q0 := 0) rfl rfl) rfl rfl hl.1 rfl (lv_room (Nat.le_of_ble_eq_true rfl)) dX0_reckonStart_112 ⟨Nat.le_of_ble_eq_true rfl, Nat.le_of_ble_eq_true rfl⟩) hS hA hP (fun r_22 H locs hw_22 hP hS => ?_)
              try dsimp only at hw_22
              refine lv_aload_n hx hb dX0_reckonStart_115 rfl (lv_at hl 5 rfl) ?_
              refine va_get (D := D) (ci := 0) (v := .ref w4) (C := RX0) (T := TX0) (N := 5) hx hb hts inX0 hown hK hP 5 rfl rfl 4 (by decide) (hts _ tw_272) (fun _ h9 => h9) rfl dX0_reckonStart_116 ?_
              refine lv_iload hx hb dX0_reckonStart_119 (lv_at hl 1 rfl) ?_
              refine lv_iload hx hb dX0_reckonStart_121 (lv_at hl 2 rfl) ?_
              obtain ⟨ov_23, hov_23, eov_23⟩ := or8 g2_7 (by omega) pw_6 (by omega)
              refine lv_ior hx hb dX0_reckonStart_123 ?_
              refine lv_ti (y := (nI ov_23)) eov_23 ?_
              refine va_iald hx hb hK hP 7 1 rfl rfl (vp_in_nI (by omega) (by decide)) dX0_reckonStart_124 ?_
              refine lv_ti (y := (fo2_7 ov_23)) (by rw [nI_clamp (by omega)]) ?_
              refine lv_aload_n hx hb dX0_reckonStart_125 rfl (lv_at hl 5 rfl) ?_
              refine va_get (D := D) (ci := 0) (v := .ref w4) (C := RX0) (T := TX0) (N := 5) hx hb hts inX0 hown hK hP 5 rfl rfl 4 (by decide) (hts _ tw_272) (fun _ h9 => h9) rfl dX0_reckonStart_126 ?_
              refine lv_iload hx hb dX0_reckonStart_129 (lv_at hl 1 rfl) ?_
              refine va_iald hx hb hK hP 7 1 rfl rfl (vp_in_nI (by omega) (by decide)) dX0_reckonStart_131 ?_
              refine lv_ti (y := (fo2_7 g2_7)) (by rw [nI_clamp (by omega)]) ?_
              refine ro_i (D := D) (va_runSN (As := [.int r_22, .int (fo2_7 ov_23), .int (fo2_7 g2_7)]) (rest := [.int (nI g2_7), .ref w4]) ⟨hx, hb, hml, hown, hts⟩ ((x_mixed l D k st lo r_22 (fo2_7 ov_23) (fo2_7 g2_7)) H.size) ⟨va_cnB 3 hts (gLW tw_570) rfl rfl rfl (hZ.2.2.2.2.2.2.2.2.1.1 (RX0, 80, yX7_mixed, RX7) (List.mem_of_getElem? (i := 5) rfl)) (hts _ tw_79) (by decide +kernel) ⟨Nat.le_of_ble_eq_true rfl, Nat.le_of_ble_eq_true rfl⟩, hts _ tw_569, trivial⟩ (pS hS hAlo hlo hP hK (va_Dlo hD hAlo) hZ [] (by decide) rfl) rfl rfl hl.1 rfl (lv_room (Nat.le_of_ble_eq_true rfl)) dX0_reckonStart_132 ⟨Nat.le_of_ble_eq_true rfl, Nat.le_of_ble_eq_true rfl⟩) hS hA hP (fun r_24 H locs hw_24 hP hS => ?_)
              try dsimp only at hw_24
              refine va_iast hx hb hK hP hD hS 7 1 rfl rfl (vp_in_nI (by omega) (by decide)) dX0_reckonStart_135 (fun H locs hP hD hS => ?_)
              replace hP : va_P D classes [(h0, .inr (5, [.ref h1, .ref h2, .ref h3, .ref h4])), (h1, .inl (k 1, 10, .inl (vv n see tm g))), (h2, .inl (k 1, 24, .inl ff)), (h3, .inl (k 1, 24, .inl fp)), (h4, .inl (k 1, 4, .inl fl)), (w0, .inr (0, [.ref h0, .ref w1, .ref w2, .ref w3, .ref w4])), (w1, .inl (k 1, 768, .inl on)), (w4, .inl (k 1, 8, .inl (upd fo2_7 (Int32.toNatClampNeg (nI g2_7)) r_24)))] H := hP
              replace hD : va_D A [(h0, .inr (5, [.ref h1, .ref h2, .ref h3, .ref h4])), (h1, .inl (k 1, 10, .inl (vv n see tm g))), (h2, .inl (k 1, 24, .inl ff)), (h3, .inl (k 1, 24, .inl fp)), (h4, .inl (k 1, 4, .inl fl)), (w0, .inr (0, [.ref h0, .ref w1, .ref w2, .ref w3, .ref w4])), (w1, .inl (k 1, 768, .inl on)), (w4, .inl (k 1, 8, .inl (upd fo2_7 (Int32.toNatClampNeg (nI g2_7)) r_24)))] := hD
              generalize (upd fo2_7 (Int32.toNatClampNeg (nI g2_7)) r_24) = f_25 at hP hD
              refine lv_iinc (v := (nI (g2_7 + 1))) (lv' := [(5, .int (nI (g2_7 + 1))), (6, .int 1), (4, .int (nI pw_6)), (3, .int (nI q_5)), (2, .int (nI zs_2)), (0, .ref w0), (1, .int (nI rn))]) hx hb dX0_reckonStart_136 hl (k := 1) rfl (nI_add g2_7 1) (by decide) rfl (fun ls hl => ?_)
              refine lv_goto (tgt := 64) hx hb dX0_reckonStart_139 (by decide) ?_
              exact ih_7 _ (g2_7 + 1, f_25) _ _ _ (by omega) ⟨rfl, (by omega), hP, hD, hS, (lv_sub hl [0, 2, 3, 4, 5, 6] rfl)⟩
  · have c_4 : ¬ (zs_2 ≤ g2_3) := fun h => c_4 ((nI_leI (a := zs_2) (b := g2_3) (by omega) (by omega)).mpr h)
    refine lv_iload_n hx hb dX0_reckonStart_16 rfl (lv_at hl 0 rfl) ?_
    refine lv_bipush (v := 8) hx hb dX0_reckonStart_17 (by decide) ?_
    refine lv_icmp_ge (tgt := 41) hx hb dX0_reckonStart_19 (by decide) (fun c_26 => ?_) (fun c_26 => ?_)
    · have c_26 := (nI_leI (a := 8) (b := g2_3) (by omega) (by omega)).mp c_26
      refine lv_aload_n hx hb dX0_reckonStart_41 rfl (lv_at hl 2 rfl) ?_
      refine va_get (D := D) (ci := 0) (v := .ref h0) (C := RX0) (T := TX0) (N := 5) hx hb hts inX0 hown hK hP 5 rfl rfl 0 (by decide) (hts _ tw_266) (fun _ h9 => h9) rfl dX0_reckonStart_42 ?_
      refine va_get (D := D) (ci := 5) (v := .ref h1) (C := RX5) (T := TX5) (N := 4) hx hb hts inX5 hown hK hP 0 rfl rfl 0 (by decide) (hts _ tw_147) (fun _ h9 => h9) rfl dX0_reckonStart_45 ?_
      refine lv_bipush (v := 6) hx hb dX0_reckonStart_48 (by decide) ?_
      refine va_iald hx hb hK hP 1 1 rfl rfl (by unfold vp_in; decide) dX0_reckonStart_50 ?_
      refine lv_ti (y := (nI see)) (by rfl) ?_
      refine lv_istore_n (lv' := [(3, .int (nI see)), (2, .int (nI zs_2)), (0, .ref w0), (1, .int (nI rn))]) hx hb dX0_reckonStart_51 rfl hl (by decide) rfl (fun ls hl => ?_)
      refine W_loop (σ := Nat × (Nat → Int32)) (fun (n_ : Nat) (x_ : Nat × (Nat → Int32)) (H : Heap) (locs : List Loc) (ls : Array Slot) => match x_ with | (q_27, fo2_27) => n_ = 2 * q_27 ∧ (q_27 ≤ 3) ∧ va_P D classes [(h0, .inr (5, [.ref h1, .ref h2, .ref h3, .ref h4])), (h1, .inl (k 1, 10, .inl (vv n see tm g))), (h2, .inl (k 1, 24, .inl ff)), (h3, .inl (k 1, 24, .inl fp)), (h4, .inl (k 1, 4, .inl fl)), (w0, .inr (0, [.ref h0, .ref w1, .ref w2, .ref w3, .ref w4])), (w1, .inl (k 1, 768, .inl on)), (w4, .inl (k 1, 8, .inl fo2_27))] H ∧ va_D A [(h0, .inr (5, [.ref h1, .ref h2, .ref h3, .ref h4])), (h1, .inl (k 1, 10, .inl (vv n see tm g))), (h2, .inl (k 1, 24, .inl ff)), (h3, .inl (k 1, 24, .inl fp)), (h4, .inl (k 1, 4, .inl fl)), (w0, .inr (0, [.ref h0, .ref w1, .ref w2, .ref w3, .ref w4])), (w1, .inl (k 1, 768, .inl on)), (w4, .inl (k 1, 8, .inl fo2_27))] ∧ va_S A s.heap H locs ∧ lv_has ls 7 [(3, .int (nI q_27 - 1)), (2, .int (nI zs_2)), (0, .ref w0), (1, .int (nI rn))]) (fun n_27 x_27 H locs ls hI ih_27 => ?_) _ (see + 1, fo2_3) ⟨rfl, (by omega), hP, hD, hS, (by rw [nI_pred]; exact lv_sub hl [0, 1, 2, 3] rfl)⟩
      obtain ⟨q_27, fo2_27⟩ := x_27
      obtain ⟨hm_27, hv_27, hP, hD, hS, hl⟩ := hI
      subst hm_27
      rcases q_27 with _ | q_27
      · rw [dn0] at hl
        refine lv_iload_n hx hb dX0_reckonStart_52 rfl (lv_at hl 0 rfl) ?_
        refine lv_if_lt (tgt := 148) hx hb dX0_reckonStart_53 (by decide) (fun _ => ?_) (fun h => absurd (by decide) h)
        refine lv_aload_n hx hb dX0_reckonStart_148 rfl (lv_at hl 2 rfl) ?_
        refine va_get (D := D) (ci := 0) (v := .ref w4) (C := RX0) (T := TX0) (N := 5) hx hb hts inX0 hown hK hP 5 rfl rfl 4 (by decide) (hts _ tw_272) (fun _ h9 => h9) rfl dX0_reckonStart_149 ?_
        refine lv_iconst (v := 0) hx hb dX0_reckonStart_152 (by decide) ?_
        refine va_iald hx hb hK hP 7 1 rfl rfl (by unfold vp_in; decide) dX0_reckonStart_153 ?_
        refine lv_ti (y := (fo2_27 0)) (by rfl) ?_
        have hP9 := hP.sub (ws' := [(h0, .inr (5, [.ref h1, .ref h2, .ref h3, .ref h4])), (h1, .inl (k 1, 10, .inl (vv n see tm g))), (h2, .inl (k 1, 24, .inl ff)), (h3, .inl (k 1, 24, .inl fp)), (h4, .inl (k 1, 4, .inl fl)), (w0, .inr (0, [.ref h0, .ref w1, .ref w2, .ref w3, .ref w4])), (w1, .inl (k 1, 768, .inl on)), (w4, .inl (k 1, 8, .inl fo2_27))]) [0, 1, 2, 3, 4, 5, 6, 7] rfl
        have hD9 := hD.sub (ws' := [(h0, .inr (5, [.ref h1, .ref h2, .ref h3, .ref h4])), (h1, .inl (k 1, 10, .inl (vv n see tm g))), (h2, .inl (k 1, 24, .inl ff)), (h3, .inl (k 1, 24, .inl fp)), (h4, .inl (k 1, 4, .inl fl)), (w0, .inr (0, [.ref h0, .ref w1, .ref w2, .ref w3, .ref w4])), (w1, .inl (k 1, 768, .inl on)), (w4, .inl (k 1, 8, .inl fo2_27))]) [0, 1, 2, 3, 4, 5, 6, 7] (by decide) rfl
        exact W.iret (v := (fo2_27 0)) hx hb hr (fun t ht hW => ⟨⟨(fo2_27 0), fo2_27, rfl, trivial, by rw [ht]; exact hP9, hD9⟩, hS.F ht⟩) hS.2.2 dX0_reckonStart_154
      · rw [nI_pred] at hl
        refine lv_iload_n hx hb dX0_reckonStart_52 rfl (lv_at hl 0 rfl) ?_
        refine lv_if_lt (tgt := 148) hx hb dX0_reckonStart_53 (by decide) (fun h => absurd h (nI_pos0 (by omega))) (fun _ => ?_)
        refine lv_iconst (v := 1) hx hb dX0_reckonStart_56 (by decide) ?_
        refine lv_iload_n hx hb dX0_reckonStart_57 rfl (lv_at hl 0 rfl) ?_
        obtain ⟨pw_28, epw_28⟩ : ∃ z : Nat, z = 2 ^ (q_27) := ⟨_, rfl⟩
        have hpw_28 : 1 ≤ pw_28 ∧ pw_28 ≤ 4 := by rw [epw_28]; exact pw4 (by omega)
        refine lv_ishl hx hb dX0_reckonStart_58 ?_
        refine lv_ti (y := (nI pw_28)) (by rw [epw_28]; exact shl1 q_27 (by omega)) ?_
        refine lv_istore (lv' := [(4, .int (nI pw_28)), (3, .int (nI q_27)), (2, .int (nI zs_2)), (0, .ref w0), (1, .int (nI rn))]) hx hb dX0_reckonStart_59 hl (by decide) rfl (fun ls hl => ?_)
        refine lv_iconst (v := 0) hx hb dX0_reckonStart_61 (by decide) ?_
        refine lv_istore (lv' := [(5, .int 0), (4, .int (nI pw_28)), (3, .int (nI q_27)), (2, .int (nI zs_2)), (0, .ref w0), (1, .int (nI rn))]) hx hb dX0_reckonStart_62 hl (by decide) rfl (fun ls hl => ?_)
        refine W_loop (σ := Nat × (Nat → Int32)) (fun (n_ : Nat) (x_ : Nat × (Nat → Int32)) (H : Heap) (locs : List Loc) (ls : Array Slot) => match x_ with | (g2_29, fo2_29) => n_ = 5 - g2_29 ∧ (g2_29 ≤ 4) ∧ va_P D classes [(h0, .inr (5, [.ref h1, .ref h2, .ref h3, .ref h4])), (h1, .inl (k 1, 10, .inl (vv n see tm g))), (h2, .inl (k 1, 24, .inl ff)), (h3, .inl (k 1, 24, .inl fp)), (h4, .inl (k 1, 4, .inl fl)), (w0, .inr (0, [.ref h0, .ref w1, .ref w2, .ref w3, .ref w4])), (w1, .inl (k 1, 768, .inl on)), (w4, .inl (k 1, 8, .inl fo2_29))] H ∧ va_D A [(h0, .inr (5, [.ref h1, .ref h2, .ref h3, .ref h4])), (h1, .inl (k 1, 10, .inl (vv n see tm g))), (h2, .inl (k 1, 24, .inl ff)), (h3, .inl (k 1, 24, .inl fp)), (h4, .inl (k 1, 4, .inl fl)), (w0, .inr (0, [.ref h0, .ref w1, .ref w2, .ref w3, .ref w4])), (w1, .inl (k 1, 768, .inl on)), (w4, .inl (k 1, 8, .inl fo2_29))] ∧ va_S A s.heap H locs ∧ lv_has ls 7 [(5, .int (nI g2_29)), (4, .int (nI pw_28)), (3, .int (nI q_27)), (2, .int (nI zs_2)), (0, .ref w0), (1, .int (nI rn))]) (fun n_29 x_29 H locs ls hI ih_29 => ?_) _ (0, fo2_27) ⟨rfl, (by omega), hP, hD, hS, (lv_sub hl [0, 1, 2, 3, 4, 5] rfl)⟩
        obtain ⟨g2_29, fo2_29⟩ := x_29
        obtain ⟨hm_29, hv_29, hP, hD, hS, hl⟩ := hI
        subst hm_29
        refine lv_iload hx hb dX0_reckonStart_64 (lv_at hl 1 rfl) ?_
        refine lv_iload_n hx hb dX0_reckonStart_66 rfl (lv_at hl 3 rfl) ?_
        refine lv_icmp_ge (tgt := 142) hx hb dX0_reckonStart_67 (by decide) (fun c_30 => ?_) (fun c_30 => ?_)
        · have c_30 := (nI_leI (a := zs_2) (b := pw_28) (by omega) (by omega)).mp c_30
          refine lv_iinc (v := (nI q_27 - 1)) (lv' := [(3, .int (nI q_27 - 1)), (5, .int (nI g2_29)), (4, .int (nI pw_28)), (2, .int (nI zs_2)), (0, .ref w0), (1, .int (nI rn))]) hx hb dX0_reckonStart_142 hl (k := 2) rfl (dn1 _) (by decide) rfl (fun ls hl => ?_)
          refine lv_goto (tgt := 52) hx hb dX0_reckonStart_145 (by decide) ?_
          exact ih_27 _ (q_27, fo2_29) _ _ _ (by omega) ⟨rfl, (by omega), hP, hD, hS, (lv_sub hl [0, 3, 4, 5] rfl)⟩
        · have c_30 : ¬ (zs_2 ≤ pw_28) := fun h => c_30 ((nI_leI (a := zs_2) (b := pw_28) (by omega) (by omega)).mpr h)
          refine lv_iload hx hb dX0_reckonStart_70 (lv_at hl 0 rfl) ?_
          refine lv_iload hx hb dX0_reckonStart_72 (lv_at hl 1 rfl) ?_
          refine lv_icmp_ge (tgt := 142) hx hb dX0_reckonStart_74 (by decide) (fun c_31 => ?_) (fun c_31 => ?_)
          · have c_31 := (nI_leI (a := pw_28) (b := g2_29) (by omega) (by omega)).mp c_31
            refine lv_iinc (v := (nI q_27 - 1)) (lv' := [(3, .int (nI q_27 - 1)), (5, .int (nI g2_29)), (4, .int (nI pw_28)), (2, .int (nI zs_2)), (0, .ref w0), (1, .int (nI rn))]) hx hb dX0_reckonStart_142 hl (k := 2) rfl (dn1 _) (by decide) rfl (fun ls hl => ?_)
            refine lv_goto (tgt := 52) hx hb dX0_reckonStart_145 (by decide) ?_
            exact ih_27 _ (q_27, fo2_29) _ _ _ (by omega) ⟨rfl, (by omega), hP, hD, hS, (lv_sub hl [0, 3, 4, 5] rfl)⟩
          · have c_31 : ¬ (pw_28 ≤ g2_29) := fun h => c_31 ((nI_leI (a := pw_28) (b := g2_29) (by omega) (by omega)).mpr h)
            refine lv_iload_n hx hb dX0_reckonStart_77 rfl (lv_at hl 2 rfl) ?_
            refine lv_if_le (tgt := 96) hx hb dX0_reckonStart_78 (by decide) (fun c_32 => ?_) (fun c_32 => ?_)
            · have c_32 := (nI_leI (a := q_27) (b := 0) (by omega) (by omega)).mp c_32
              refine lv_iconst (v := 0) hx hb dX0_reckonStart_96 (by decide) ?_
              refine lv_istore (lv' := [(6, .int 0), (5, .int (nI g2_29)), (4, .int (nI pw_28)), (3, .int (nI q_27)), (2, .int (nI zs_2)), (0, .ref w0), (1, .int (nI rn))]) hx hb dX0_reckonStart_97 hl (by decide) rfl (fun ls hl => ?_)
              refine lv_aload_n hx hb dX0_reckonStart_99 rfl (lv_at hl 5 rfl) ?_
              refine va_get (D := D) (ci := 0) (v := .ref w4) (C := RX0) (T := TX0) (N := 5) hx hb hts inX0 hown hK hP 5 rfl rfl 4 (by decide) (hts _ tw_272) (fun _ h9 => h9) rfl dX0_reckonStart_100 ?_
              refine lv_iload hx hb dX0_reckonStart_103 (lv_at hl 1 rfl) ?_
              refine lv_aload_n hx hb dX0_reckonStart_105 rfl (lv_at hl 5 rfl) ?_
              refine va_get (D := D) (ci := 0) (v := .ref h0) (C := RX0) (T := TX0) (N := 5) hx hb hts inX0 hown hK hP 5 rfl rfl 0 (by decide) (hts _ tw_266) (fun _ h9 => h9) rfl dX0_reckonStart_106 ?_
              refine lv_iload_n hx hb dX0_reckonStart_109 rfl (lv_at hl 3 rfl) ?_
              refine lv_iload hx hb dX0_reckonStart_110 (lv_at hl 0 rfl) ?_
              refine ro_i (D := D) (va_runV (As := [.int (nI q_27), .int 0]) (rest := [.int (nI g2_29), .ref w4]) ⟨hx, hb, hml, hown, hts⟩ ((x_chanceOf l D k st lo h0 h1 h2 h3 h4 n see tm g ff q_27 0 (by omega)) H.size) (cwV 2 hts (gV tw_564 tw_565 tw_566 tw_81 tw_567) rfl rfl rfl (by decide +kernel) ⟨Nat.le_of_ble_eq_true rfl, Nat.le_of_ble_eq_true rfl⟩) (pV hS hAlo hlo hP hK (va_Dlo hD hAlo) hZ [0, 1, 2] (by decide) rfl (ci := 5) (q0 := 0) rfl rfl) rfl rfl hl.1 rfl (lv_room (Nat.le_of_ble_eq_true rfl)) dX0_reckonStart_112 ⟨Nat.le_of_ble_eq_true rfl, Nat.le_of_ble_eq_true rfl⟩) hS hA hP (fun r_33 H locs hw_33 hP hS => ?_)
              try dsimp only at hw_33
              refine lv_aload_n hx hb dX0_reckonStart_115 rfl (lv_at hl 5 rfl) ?_
              refine va_get (D := D) (ci := 0) (v := .ref w4) (C := RX0) (T := TX0) (N := 5) hx hb hts inX0 hown hK hP 5 rfl rfl 4 (by decide) (hts _ tw_272) (fun _ h9 => h9) rfl dX0_reckonStart_116 ?_
              refine lv_iload hx hb dX0_reckonStart_119 (lv_at hl 1 rfl) ?_
              refine lv_iload hx hb dX0_reckonStart_121 (lv_at hl 2 rfl) ?_
              obtain ⟨ov_34, hov_34, eov_34⟩ := or8 g2_29 (by omega) pw_28 (by omega)
              refine lv_ior hx hb dX0_reckonStart_123 ?_
              refine lv_ti (y := (nI ov_34)) eov_34 ?_
              refine va_iald hx hb hK hP 7 1 rfl rfl (vp_in_nI (by omega) (by decide)) dX0_reckonStart_124 ?_
              refine lv_ti (y := (fo2_29 ov_34)) (by rw [nI_clamp (by omega)]) ?_
              refine lv_aload_n hx hb dX0_reckonStart_125 rfl (lv_at hl 5 rfl) ?_
              refine va_get (D := D) (ci := 0) (v := .ref w4) (C := RX0) (T := TX0) (N := 5) hx hb hts inX0 hown hK hP 5 rfl rfl 4 (by decide) (hts _ tw_272) (fun _ h9 => h9) rfl dX0_reckonStart_126 ?_
              refine lv_iload hx hb dX0_reckonStart_129 (lv_at hl 1 rfl) ?_
              refine va_iald hx hb hK hP 7 1 rfl rfl (vp_in_nI (by omega) (by decide)) dX0_reckonStart_131 ?_
              refine lv_ti (y := (fo2_29 g2_29)) (by rw [nI_clamp (by omega)]) ?_
              refine ro_i (D := D) (va_runSN (As := [.int r_33, .int (fo2_29 ov_34), .int (fo2_29 g2_29)]) (rest := [.int (nI g2_29), .ref w4]) ⟨hx, hb, hml, hown, hts⟩ ((x_mixed l D k st lo r_33 (fo2_29 ov_34) (fo2_29 g2_29)) H.size) ⟨va_cnB 3 hts (gLW tw_570) rfl rfl rfl (hZ.2.2.2.2.2.2.2.2.1.1 (RX0, 80, yX7_mixed, RX7) (List.mem_of_getElem? (i := 5) rfl)) (hts _ tw_79) (by decide +kernel) ⟨Nat.le_of_ble_eq_true rfl, Nat.le_of_ble_eq_true rfl⟩, hts _ tw_569, trivial⟩ (pS hS hAlo hlo hP hK (va_Dlo hD hAlo) hZ [] (by decide) rfl) rfl rfl hl.1 rfl (lv_room (Nat.le_of_ble_eq_true rfl)) dX0_reckonStart_132 ⟨Nat.le_of_ble_eq_true rfl, Nat.le_of_ble_eq_true rfl⟩) hS hA hP (fun r_35 H locs hw_35 hP hS => ?_)
              try dsimp only at hw_35
              refine va_iast hx hb hK hP hD hS 7 1 rfl rfl (vp_in_nI (by omega) (by decide)) dX0_reckonStart_135 (fun H locs hP hD hS => ?_)
              replace hP : va_P D classes [(h0, .inr (5, [.ref h1, .ref h2, .ref h3, .ref h4])), (h1, .inl (k 1, 10, .inl (vv n see tm g))), (h2, .inl (k 1, 24, .inl ff)), (h3, .inl (k 1, 24, .inl fp)), (h4, .inl (k 1, 4, .inl fl)), (w0, .inr (0, [.ref h0, .ref w1, .ref w2, .ref w3, .ref w4])), (w1, .inl (k 1, 768, .inl on)), (w4, .inl (k 1, 8, .inl (upd fo2_29 (Int32.toNatClampNeg (nI g2_29)) r_35)))] H := hP
              replace hD : va_D A [(h0, .inr (5, [.ref h1, .ref h2, .ref h3, .ref h4])), (h1, .inl (k 1, 10, .inl (vv n see tm g))), (h2, .inl (k 1, 24, .inl ff)), (h3, .inl (k 1, 24, .inl fp)), (h4, .inl (k 1, 4, .inl fl)), (w0, .inr (0, [.ref h0, .ref w1, .ref w2, .ref w3, .ref w4])), (w1, .inl (k 1, 768, .inl on)), (w4, .inl (k 1, 8, .inl (upd fo2_29 (Int32.toNatClampNeg (nI g2_29)) r_35)))] := hD
              generalize (upd fo2_29 (Int32.toNatClampNeg (nI g2_29)) r_35) = f_36 at hP hD
              refine lv_iinc (v := (nI (g2_29 + 1))) (lv' := [(5, .int (nI (g2_29 + 1))), (6, .int 0), (4, .int (nI pw_28)), (3, .int (nI q_27)), (2, .int (nI zs_2)), (0, .ref w0), (1, .int (nI rn))]) hx hb dX0_reckonStart_136 hl (k := 1) rfl (nI_add g2_29 1) (by decide) rfl (fun ls hl => ?_)
              refine lv_goto (tgt := 64) hx hb dX0_reckonStart_139 (by decide) ?_
              exact ih_29 _ (g2_29 + 1, f_36) _ _ _ (by omega) ⟨rfl, (by omega), hP, hD, hS, (lv_sub hl [0, 2, 3, 4, 5, 6] rfl)⟩
            · have c_32 : ¬ (q_27 ≤ 0) := fun h => c_32 ((nI_leI (a := q_27) (b := 0) (by omega) (by omega)).mpr h)
              refine lv_iload hx hb dX0_reckonStart_81 (lv_at hl 0 rfl) ?_
              refine lv_iload_n hx hb dX0_reckonStart_83 rfl (lv_at hl 2 rfl) ?_
              refine lv_iconst (v := 1) hx hb dX0_reckonStart_84 (by decide) ?_
              refine lv_isub hx hb dX0_reckonStart_85 ?_
              refine lv_ti (y := (nI (q_27 - 1))) (pk_sub (a := q_27) (b := 1) (by omega)) ?_
              refine lv_ishr hx hb dX0_reckonStart_86 ?_
              refine lv_topi (fun x_37 ex_37 => ?_)
              refine lv_iconst (v := 1) hx hb dX0_reckonStart_87 (by decide) ?_
              refine lv_iand hx hb dX0_reckonStart_88 ?_
              refine lv_topi (fun x_38 ex_38 => ?_)
              refine lv_if_eq (tgt := 96) hx hb dX0_reckonStart_89 (by decide) (fun c_39 => ?_) (fun c_39 => ?_)
              · refine lv_iconst (v := 0) hx hb dX0_reckonStart_96 (by decide) ?_
                refine lv_istore (lv' := [(6, .int 0), (5, .int (nI g2_29)), (4, .int (nI pw_28)), (3, .int (nI q_27)), (2, .int (nI zs_2)), (0, .ref w0), (1, .int (nI rn))]) hx hb dX0_reckonStart_97 hl (by decide) rfl (fun ls hl => ?_)
                refine lv_aload_n hx hb dX0_reckonStart_99 rfl (lv_at hl 5 rfl) ?_
                refine va_get (D := D) (ci := 0) (v := .ref w4) (C := RX0) (T := TX0) (N := 5) hx hb hts inX0 hown hK hP 5 rfl rfl 4 (by decide) (hts _ tw_272) (fun _ h9 => h9) rfl dX0_reckonStart_100 ?_
                refine lv_iload hx hb dX0_reckonStart_103 (lv_at hl 1 rfl) ?_
                refine lv_aload_n hx hb dX0_reckonStart_105 rfl (lv_at hl 5 rfl) ?_
                refine va_get (D := D) (ci := 0) (v := .ref h0) (C := RX0) (T := TX0) (N := 5) hx hb hts inX0 hown hK hP 5 rfl rfl 0 (by decide) (hts _ tw_266) (fun _ h9 => h9) rfl dX0_reckonStart_106 ?_
                refine lv_iload_n hx hb dX0_reckonStart_109 rfl (lv_at hl 3 rfl) ?_
                refine lv_iload hx hb dX0_reckonStart_110 (lv_at hl 0 rfl) ?_
                refine ro_i (D := D) (va_runV (As := [.int (nI q_27), .int 0]) (rest := [.int (nI g2_29), .ref w4]) ⟨hx, hb, hml, hown, hts⟩ ((x_chanceOf l D k st lo h0 h1 h2 h3 h4 n see tm g ff q_27 0 (by omega)) H.size) (cwV 2 hts (gV tw_564 tw_565 tw_566 tw_81 tw_567) rfl rfl rfl (by decide +kernel) ⟨Nat.le_of_ble_eq_true rfl, Nat.le_of_ble_eq_true rfl⟩) (pV hS hAlo hlo hP hK (va_Dlo hD hAlo) hZ [0, 1, 2] (by decide) rfl (ci := 5) (q0 := 0) rfl rfl) rfl rfl hl.1 rfl (lv_room (Nat.le_of_ble_eq_true rfl)) dX0_reckonStart_112 ⟨Nat.le_of_ble_eq_true rfl, Nat.le_of_ble_eq_true rfl⟩) hS hA hP (fun r_40 H locs hw_40 hP hS => ?_)
                try dsimp only at hw_40
                refine lv_aload_n hx hb dX0_reckonStart_115 rfl (lv_at hl 5 rfl) ?_
                refine va_get (D := D) (ci := 0) (v := .ref w4) (C := RX0) (T := TX0) (N := 5) hx hb hts inX0 hown hK hP 5 rfl rfl 4 (by decide) (hts _ tw_272) (fun _ h9 => h9) rfl dX0_reckonStart_116 ?_
                refine lv_iload hx hb dX0_reckonStart_119 (lv_at hl 1 rfl) ?_
                refine lv_iload hx hb dX0_reckonStart_121 (lv_at hl 2 rfl) ?_
                obtain ⟨ov_41, hov_41, eov_41⟩ := or8 g2_29 (by omega) pw_28 (by omega)
                refine lv_ior hx hb dX0_reckonStart_123 ?_
                refine lv_ti (y := (nI ov_41)) eov_41 ?_
                refine va_iald hx hb hK hP 7 1 rfl rfl (vp_in_nI (by omega) (by decide)) dX0_reckonStart_124 ?_
                refine lv_ti (y := (fo2_29 ov_41)) (by rw [nI_clamp (by omega)]) ?_
                refine lv_aload_n hx hb dX0_reckonStart_125 rfl (lv_at hl 5 rfl) ?_
                refine va_get (D := D) (ci := 0) (v := .ref w4) (C := RX0) (T := TX0) (N := 5) hx hb hts inX0 hown hK hP 5 rfl rfl 4 (by decide) (hts _ tw_272) (fun _ h9 => h9) rfl dX0_reckonStart_126 ?_
                refine lv_iload hx hb dX0_reckonStart_129 (lv_at hl 1 rfl) ?_
                refine va_iald hx hb hK hP 7 1 rfl rfl (vp_in_nI (by omega) (by decide)) dX0_reckonStart_131 ?_
                refine lv_ti (y := (fo2_29 g2_29)) (by rw [nI_clamp (by omega)]) ?_
                refine ro_i (D := D) (va_runSN (As := [.int r_40, .int (fo2_29 ov_41), .int (fo2_29 g2_29)]) (rest := [.int (nI g2_29), .ref w4]) ⟨hx, hb, hml, hown, hts⟩ ((x_mixed l D k st lo r_40 (fo2_29 ov_41) (fo2_29 g2_29)) H.size) ⟨va_cnB 3 hts (gLW tw_570) rfl rfl rfl (hZ.2.2.2.2.2.2.2.2.1.1 (RX0, 80, yX7_mixed, RX7) (List.mem_of_getElem? (i := 5) rfl)) (hts _ tw_79) (by decide +kernel) ⟨Nat.le_of_ble_eq_true rfl, Nat.le_of_ble_eq_true rfl⟩, hts _ tw_569, trivial⟩ (pS hS hAlo hlo hP hK (va_Dlo hD hAlo) hZ [] (by decide) rfl) rfl rfl hl.1 rfl (lv_room (Nat.le_of_ble_eq_true rfl)) dX0_reckonStart_132 ⟨Nat.le_of_ble_eq_true rfl, Nat.le_of_ble_eq_true rfl⟩) hS hA hP (fun r_42 H locs hw_42 hP hS => ?_)
                try dsimp only at hw_42
                refine va_iast hx hb hK hP hD hS 7 1 rfl rfl (vp_in_nI (by omega) (by decide)) dX0_reckonStart_135 (fun H locs hP hD hS => ?_)
                replace hP : va_P D classes [(h0, .inr (5, [.ref h1, .ref h2, .ref h3, .ref h4])), (h1, .inl (k 1, 10, .inl (vv n see tm g))), (h2, .inl (k 1, 24, .inl ff)), (h3, .inl (k 1, 24, .inl fp)), (h4, .inl (k 1, 4, .inl fl)), (w0, .inr (0, [.ref h0, .ref w1, .ref w2, .ref w3, .ref w4])), (w1, .inl (k 1, 768, .inl on)), (w4, .inl (k 1, 8, .inl (upd fo2_29 (Int32.toNatClampNeg (nI g2_29)) r_42)))] H := hP
                replace hD : va_D A [(h0, .inr (5, [.ref h1, .ref h2, .ref h3, .ref h4])), (h1, .inl (k 1, 10, .inl (vv n see tm g))), (h2, .inl (k 1, 24, .inl ff)), (h3, .inl (k 1, 24, .inl fp)), (h4, .inl (k 1, 4, .inl fl)), (w0, .inr (0, [.ref h0, .ref w1, .ref w2, .ref w3, .ref w4])), (w1, .inl (k 1, 768, .inl on)), (w4, .inl (k 1, 8, .inl (upd fo2_29 (Int32.toNatClampNeg (nI g2_29)) r_42)))] := hD
                generalize (upd fo2_29 (Int32.toNatClampNeg (nI g2_29)) r_42) = f_43 at hP hD
                refine lv_iinc (v := (nI (g2_29 + 1))) (lv' := [(5, .int (nI (g2_29 + 1))), (6, .int 0), (4, .int (nI pw_28)), (3, .int (nI q_27)), (2, .int (nI zs_2)), (0, .ref w0), (1, .int (nI rn))]) hx hb dX0_reckonStart_136 hl (k := 1) rfl (nI_add g2_29 1) (by decide) rfl (fun ls hl => ?_)
                refine lv_goto (tgt := 64) hx hb dX0_reckonStart_139 (by decide) ?_
                exact ih_29 _ (g2_29 + 1, f_43) _ _ _ (by omega) ⟨rfl, (by omega), hP, hD, hS, (lv_sub hl [0, 2, 3, 4, 5, 6] rfl)⟩
              · refine lv_iconst (v := 1) hx hb dX0_reckonStart_92 (by decide) ?_
                refine lv_goto (tgt := 97) hx hb dX0_reckonStart_93 (by decide) ?_
                refine lv_istore (lv' := [(6, .int 1), (5, .int (nI g2_29)), (4, .int (nI pw_28)), (3, .int (nI q_27)), (2, .int (nI zs_2)), (0, .ref w0), (1, .int (nI rn))]) hx hb dX0_reckonStart_97 hl (by decide) rfl (fun ls hl => ?_)
                refine lv_aload_n hx hb dX0_reckonStart_99 rfl (lv_at hl 5 rfl) ?_
                refine va_get (D := D) (ci := 0) (v := .ref w4) (C := RX0) (T := TX0) (N := 5) hx hb hts inX0 hown hK hP 5 rfl rfl 4 (by decide) (hts _ tw_272) (fun _ h9 => h9) rfl dX0_reckonStart_100 ?_
                refine lv_iload hx hb dX0_reckonStart_103 (lv_at hl 1 rfl) ?_
                refine lv_aload_n hx hb dX0_reckonStart_105 rfl (lv_at hl 5 rfl) ?_
                refine va_get (D := D) (ci := 0) (v := .ref h0) (C := RX0) (T := TX0) (N := 5) hx hb hts inX0 hown hK hP 5 rfl rfl 0 (by decide) (hts _ tw_266) (fun _ h9 => h9) rfl dX0_reckonStart_106 ?_
                refine lv_iload_n hx hb dX0_reckonStart_109 rfl (lv_at hl 3 rfl) ?_
                refine lv_iload hx hb dX0_reckonStart_110 (lv_at hl 0 rfl) ?_
                refine ro_i (D := D) (va_runV (As := [.int (nI q_27), .int 1]) (rest := [.int (nI g2_29), .ref w4]) ⟨hx, hb, hml, hown, hts⟩ ((x_chanceOf l D k st lo h0 h1 h2 h3 h4 n see tm g ff q_27 1 (by omega)) H.size) (cwV 2 hts (gV tw_564 tw_565 tw_566 tw_81 tw_567) rfl rfl rfl (by decide +kernel) ⟨Nat.le_of_ble_eq_true rfl, Nat.le_of_ble_eq_true rfl⟩) (pV hS hAlo hlo hP hK (va_Dlo hD hAlo) hZ [0, 1, 2] (by decide) rfl (ci := 5) (q0 := 0) rfl rfl) rfl rfl hl.1 rfl (lv_room (Nat.le_of_ble_eq_true rfl)) dX0_reckonStart_112 ⟨Nat.le_of_ble_eq_true rfl, Nat.le_of_ble_eq_true rfl⟩) hS hA hP (fun r_44 H locs hw_44 hP hS => ?_)
                try dsimp only at hw_44
                refine lv_aload_n hx hb dX0_reckonStart_115 rfl (lv_at hl 5 rfl) ?_
                refine va_get (D := D) (ci := 0) (v := .ref w4) (C := RX0) (T := TX0) (N := 5) hx hb hts inX0 hown hK hP 5 rfl rfl 4 (by decide) (hts _ tw_272) (fun _ h9 => h9) rfl dX0_reckonStart_116 ?_
                refine lv_iload hx hb dX0_reckonStart_119 (lv_at hl 1 rfl) ?_
                refine lv_iload hx hb dX0_reckonStart_121 (lv_at hl 2 rfl) ?_
                obtain ⟨ov_45, hov_45, eov_45⟩ := or8 g2_29 (by omega) pw_28 (by omega)
                refine lv_ior hx hb dX0_reckonStart_123 ?_
                refine lv_ti (y := (nI ov_45)) eov_45 ?_
                refine va_iald hx hb hK hP 7 1 rfl rfl (vp_in_nI (by omega) (by decide)) dX0_reckonStart_124 ?_
                refine lv_ti (y := (fo2_29 ov_45)) (by rw [nI_clamp (by omega)]) ?_
                refine lv_aload_n hx hb dX0_reckonStart_125 rfl (lv_at hl 5 rfl) ?_
                refine va_get (D := D) (ci := 0) (v := .ref w4) (C := RX0) (T := TX0) (N := 5) hx hb hts inX0 hown hK hP 5 rfl rfl 4 (by decide) (hts _ tw_272) (fun _ h9 => h9) rfl dX0_reckonStart_126 ?_
                refine lv_iload hx hb dX0_reckonStart_129 (lv_at hl 1 rfl) ?_
                refine va_iald hx hb hK hP 7 1 rfl rfl (vp_in_nI (by omega) (by decide)) dX0_reckonStart_131 ?_
                refine lv_ti (y := (fo2_29 g2_29)) (by rw [nI_clamp (by omega)]) ?_
                refine ro_i (D := D) (va_runSN (As := [.int r_44, .int (fo2_29 ov_45), .int (fo2_29 g2_29)]) (rest := [.int (nI g2_29), .ref w4]) ⟨hx, hb, hml, hown, hts⟩ ((x_mixed l D k st lo r_44 (fo2_29 ov_45) (fo2_29 g2_29)) H.size) ⟨va_cnB 3 hts (gLW tw_570) rfl rfl rfl (hZ.2.2.2.2.2.2.2.2.1.1 (RX0, 80, yX7_mixed, RX7) (List.mem_of_getElem? (i := 5) rfl)) (hts _ tw_79) (by decide +kernel) ⟨Nat.le_of_ble_eq_true rfl, Nat.le_of_ble_eq_true rfl⟩, hts _ tw_569, trivial⟩ (pS hS hAlo hlo hP hK (va_Dlo hD hAlo) hZ [] (by decide) rfl) rfl rfl hl.1 rfl (lv_room (Nat.le_of_ble_eq_true rfl)) dX0_reckonStart_132 ⟨Nat.le_of_ble_eq_true rfl, Nat.le_of_ble_eq_true rfl⟩) hS hA hP (fun r_46 H locs hw_46 hP hS => ?_)
                try dsimp only at hw_46
                refine va_iast hx hb hK hP hD hS 7 1 rfl rfl (vp_in_nI (by omega) (by decide)) dX0_reckonStart_135 (fun H locs hP hD hS => ?_)
                replace hP : va_P D classes [(h0, .inr (5, [.ref h1, .ref h2, .ref h3, .ref h4])), (h1, .inl (k 1, 10, .inl (vv n see tm g))), (h2, .inl (k 1, 24, .inl ff)), (h3, .inl (k 1, 24, .inl fp)), (h4, .inl (k 1, 4, .inl fl)), (w0, .inr (0, [.ref h0, .ref w1, .ref w2, .ref w3, .ref w4])), (w1, .inl (k 1, 768, .inl on)), (w4, .inl (k 1, 8, .inl (upd fo2_29 (Int32.toNatClampNeg (nI g2_29)) r_46)))] H := hP
                replace hD : va_D A [(h0, .inr (5, [.ref h1, .ref h2, .ref h3, .ref h4])), (h1, .inl (k 1, 10, .inl (vv n see tm g))), (h2, .inl (k 1, 24, .inl ff)), (h3, .inl (k 1, 24, .inl fp)), (h4, .inl (k 1, 4, .inl fl)), (w0, .inr (0, [.ref h0, .ref w1, .ref w2, .ref w3, .ref w4])), (w1, .inl (k 1, 768, .inl on)), (w4, .inl (k 1, 8, .inl (upd fo2_29 (Int32.toNatClampNeg (nI g2_29)) r_46)))] := hD
                generalize (upd fo2_29 (Int32.toNatClampNeg (nI g2_29)) r_46) = f_47 at hP hD
                refine lv_iinc (v := (nI (g2_29 + 1))) (lv' := [(5, .int (nI (g2_29 + 1))), (6, .int 1), (4, .int (nI pw_28)), (3, .int (nI q_27)), (2, .int (nI zs_2)), (0, .ref w0), (1, .int (nI rn))]) hx hb dX0_reckonStart_136 hl (k := 1) rfl (nI_add g2_29 1) (by decide) rfl (fun ls hl => ?_)
                refine lv_goto (tgt := 64) hx hb dX0_reckonStart_139 (by decide) ?_
                exact ih_29 _ (g2_29 + 1, f_47) _ _ _ (by omega) ⟨rfl, (by omega), hP, hD, hS, (lv_sub hl [0, 2, 3, 4, 5, 6] rfl)⟩
    · have c_26 : ¬ (8 ≤ g2_3) := fun h => c_26 ((nI_leI (a := 8) (b := g2_3) (by omega) (by omega)).mpr h)
      refine lv_aload_n hx hb dX0_reckonStart_22 rfl (lv_at hl 2 rfl) ?_
      refine va_get (D := D) (ci := 0) (v := .ref w4) (C := RX0) (T := TX0) (N := 5) hx hb hts inX0 hown hK hP 5 rfl rfl 4 (by decide) (hts _ tw_272) (fun _ h9 => h9) rfl dX0_reckonStart_23 ?_
      refine lv_iload_n hx hb dX0_reckonStart_26 rfl (lv_at hl 0 rfl) ?_
      refine lv_aload_n hx hb dX0_reckonStart_27 rfl (lv_at hl 2 rfl) ?_
      refine lv_iload_n hx hb dX0_reckonStart_28 rfl (lv_at hl 3 rfl) ?_
      refine lv_iconst (v := 0) hx hb dX0_reckonStart_29 (by decide) ?_
      refine lv_iload_n hx hb dX0_reckonStart_30 rfl (lv_at hl 0 rfl) ?_
      refine ro_i (D := D) (va_runV (As := [.int (nI rn), .int 0, .int (nI g2_3)]) (rest := [.int (nI g2_3), .ref w4]) ⟨hx, hb, hml, hown, hts⟩ ((x_worthOf l D k st lo h0 h1 h2 h3 h4 n see tm g fp fl w0 w1 w2 w3 w4 on rn 0 g2_3 (by omega) (by omega) (by omega)) H.size) (cwV 3 hts (gV tw_545 tw_546 tw_547 tw_85 tw_548) rfl rfl rfl (by decide +kernel) ⟨Nat.le_of_ble_eq_true rfl, Nat.le_of_ble_eq_true rfl⟩) (pV hS hAlo hlo hP hK (va_Dlo hD hAlo) hZ [0, 1, 3, 4, 5, 6] (by decide) rfl (ci := 0) (q0 := 4) rfl rfl) rfl rfl hl.1 rfl (lv_room (Nat.le_of_ble_eq_true rfl)) dX0_reckonStart_31 ⟨Nat.le_of_ble_eq_true rfl, Nat.le_of_ble_eq_true rfl⟩) hS hA hP (fun r_48 H locs hw_48 hP hS => ?_)
      try dsimp only at hw_48
      refine va_iast hx hb hK hP hD hS 7 1 rfl rfl (vp_in_nI (by omega) (by decide)) dX0_reckonStart_34 (fun H locs hP hD hS => ?_)
      replace hP : va_P D classes [(h0, .inr (5, [.ref h1, .ref h2, .ref h3, .ref h4])), (h1, .inl (k 1, 10, .inl (vv n see tm g))), (h2, .inl (k 1, 24, .inl ff)), (h3, .inl (k 1, 24, .inl fp)), (h4, .inl (k 1, 4, .inl fl)), (w0, .inr (0, [.ref h0, .ref w1, .ref w2, .ref w3, .ref w4])), (w1, .inl (k 1, 768, .inl on)), (w4, .inl (k 1, 8, .inl (upd fo2_3 (Int32.toNatClampNeg (nI g2_3)) r_48)))] H := hP
      replace hD : va_D A [(h0, .inr (5, [.ref h1, .ref h2, .ref h3, .ref h4])), (h1, .inl (k 1, 10, .inl (vv n see tm g))), (h2, .inl (k 1, 24, .inl ff)), (h3, .inl (k 1, 24, .inl fp)), (h4, .inl (k 1, 4, .inl fl)), (w0, .inr (0, [.ref h0, .ref w1, .ref w2, .ref w3, .ref w4])), (w1, .inl (k 1, 768, .inl on)), (w4, .inl (k 1, 8, .inl (upd fo2_3 (Int32.toNatClampNeg (nI g2_3)) r_48)))] := hD
      generalize (upd fo2_3 (Int32.toNatClampNeg (nI g2_3)) r_48) = f_49 at hP hD
      refine lv_iinc (v := (nI (g2_3 + 1))) (lv' := [(3, .int (nI (g2_3 + 1))), (2, .int (nI zs_2)), (0, .ref w0), (1, .int (nI rn))]) hx hb dX0_reckonStart_35 hl (k := 0) rfl (nI_add g2_3 1) (by decide) rfl (fun ls hl => ?_)
      refine lv_goto (tgt := 11) hx hb dX0_reckonStart_38 (by decide) ?_
      exact ih_3 _ (g2_3 + 1, f_49) _ _ _ (by omega) ⟨rfl, (by omega), hP, hD, hS, (lv_sub hl [0, 1, 2, 3] rfl)⟩


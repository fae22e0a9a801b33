theorem dX1_bestBar_0 : decode cX1_bestBar 0 = .ok (.aload_n 0, 1) := by decide +kernel
theorem dX1_bestBar_1 : decode cX1_bestBar 1 = .ok (.getfield 21, 3) := by decide +kernel
theorem dX1_bestBar_4 : decode cX1_bestBar 4 = .ok (.istore_n 3, 1) := by decide +kernel
theorem dX1_bestBar_5 : decode cX1_bestBar 5 = .ok (.iload_n 3, 1) := by decide +kernel
theorem dX1_bestBar_6 : decode cX1_bestBar 6 = .ok (.istore 4, 2) := by decide +kernel
theorem dX1_bestBar_8 : decode cX1_bestBar 8 = .ok (.aload_n 0, 1) := by decide +kernel
theorem dX1_bestBar_9 : decode cX1_bestBar 9 = .ok (.iload_n 1, 1) := by decide +kernel
theorem dX1_bestBar_10 : decode cX1_bestBar 10 = .ok (.iload 4, 2) := by decide +kernel
theorem dX1_bestBar_12 : decode cX1_bestBar 12 = .ok (.invokevirtual 80, 3) := by decide +kernel
theorem dX1_bestBar_15 : decode cX1_bestBar 15 = .ok (.istore 5, 2) := by decide +kernel
theorem dX1_bestBar_17 : decode cX1_bestBar 17 = .ok (.aload_n 0, 1) := by decide +kernel
theorem dX1_bestBar_18 : decode cX1_bestBar 18 = .ok (.getfield 21, 3) := by decide +kernel
theorem dX1_bestBar_21 : decode cX1_bestBar 21 = .ok (.iconst 1, 1) := by decide +kernel
theorem dX1_bestBar_22 : decode cX1_bestBar 22 = .ok (.isub, 1) := by decide +kernel
theorem dX1_bestBar_23 : decode cX1_bestBar 23 = .ok (.istore 6, 2) := by decide +kernel
theorem dX1_bestBar_25 : decode cX1_bestBar 25 = .ok (.iload 6, 2) := by decide +kernel
theorem dX1_bestBar_27 : decode cX1_bestBar 27 = .ok (.ifCond .lt 45, 3) := by decide +kernel
theorem dX1_bestBar_30 : decode cX1_bestBar 30 = .ok (.iload_n 2, 1) := by decide +kernel
theorem dX1_bestBar_31 : decode cX1_bestBar 31 = .ok (.iload 6, 2) := by decide +kernel
theorem dX1_bestBar_33 : decode cX1_bestBar 33 = .ok (.ishr, 1) := by decide +kernel
theorem dX1_bestBar_34 : decode cX1_bestBar 34 = .ok (.iconst 1, 1) := by decide +kernel
theorem dX1_bestBar_35 : decode cX1_bestBar 35 = .ok (.iand, 1) := by decide +kernel
theorem dX1_bestBar_36 : decode cX1_bestBar 36 = .ok (.ifCond .eq 7, 3) := by decide +kernel
theorem dX1_bestBar_39 : decode cX1_bestBar 39 = .ok (.iload 6, 2) := by decide +kernel
theorem dX1_bestBar_41 : decode cX1_bestBar 41 = .ok (.istore 4, 2) := by decide +kernel
theorem dX1_bestBar_43 : decode cX1_bestBar 43 = .ok (.aload_n 0, 1) := by decide +kernel
theorem dX1_bestBar_44 : decode cX1_bestBar 44 = .ok (.iload_n 1, 1) := by decide +kernel
theorem dX1_bestBar_45 : decode cX1_bestBar 45 = .ok (.iload 4, 2) := by decide +kernel
theorem dX1_bestBar_47 : decode cX1_bestBar 47 = .ok (.invokevirtual 80, 3) := by decide +kernel
theorem dX1_bestBar_50 : decode cX1_bestBar 50 = .ok (.istore 7, 2) := by decide +kernel
theorem dX1_bestBar_52 : decode cX1_bestBar 52 = .ok (.iload 7, 2) := by decide +kernel
theorem dX1_bestBar_54 : decode cX1_bestBar 54 = .ok (.iload 5, 2) := by decide +kernel
theorem dX1_bestBar_56 : decode cX1_bestBar 56 = .ok (.if_icmp .gt 10, 3) := by decide +kernel
theorem dX1_bestBar_59 : decode cX1_bestBar 59 = .ok (.iload 7, 2) := by decide +kernel
theorem dX1_bestBar_61 : decode cX1_bestBar 61 = .ok (.istore 5, 2) := by decide +kernel
theorem dX1_bestBar_63 : decode cX1_bestBar 63 = .ok (.iload 6, 2) := by decide +kernel
theorem dX1_bestBar_65 : decode cX1_bestBar 65 = .ok (.istore_n 3, 1) := by decide +kernel
theorem dX1_bestBar_66 : decode cX1_bestBar 66 = .ok (.iinc 6 (-1), 3) := by decide +kernel
theorem dX1_bestBar_69 : decode cX1_bestBar 69 = .ok (.goto (-44), 3) := by decide +kernel
theorem dX1_bestBar_72 : decode cX1_bestBar 72 = .ok (.aload_n 0, 1) := by decide +kernel
theorem dX1_bestBar_73 : decode cX1_bestBar 73 = .ok (.getfield 9, 3) := by decide +kernel
theorem dX1_bestBar_76 : decode cX1_bestBar 76 = .ok (.iload_n 1, 1) := by decide +kernel
theorem dX1_bestBar_77 : decode cX1_bestBar 77 = .ok (.iaload, 1) := by decide +kernel
theorem dX1_bestBar_78 : decode cX1_bestBar 78 = .ok (.aload_n 0, 1) := by decide +kernel
theorem dX1_bestBar_79 : decode cX1_bestBar 79 = .ok (.getfield 21, 3) := by decide +kernel
theorem dX1_bestBar_82 : decode cX1_bestBar 82 = .ok (.if_icmp .gt 28, 3) := by decide +kernel
theorem dX1_bestBar_85 : decode cX1_bestBar 85 = .ok (.aload_n 0, 1) := by decide +kernel
theorem dX1_bestBar_86 : decode cX1_bestBar 86 = .ok (.iload_n 1, 1) := by decide +kernel
theorem dX1_bestBar_87 : decode cX1_bestBar 87 = .ok (.aload_n 0, 1) := by decide +kernel
theorem dX1_bestBar_88 : decode cX1_bestBar 88 = .ok (.aload_n 0, 1) := by decide +kernel
theorem dX1_bestBar_89 : decode cX1_bestBar 89 = .ok (.getfield 9, 3) := by decide +kernel
theorem dX1_bestBar_92 : decode cX1_bestBar 92 = .ok (.iload_n 1, 1) := by decide +kernel
theorem dX1_bestBar_93 : decode cX1_bestBar 93 = .ok (.iaload, 1) := by decide +kernel
theorem dX1_bestBar_94 : decode cX1_bestBar 94 = .ok (.iload_n 2, 1) := by decide +kernel
theorem dX1_bestBar_95 : decode cX1_bestBar 95 = .ok (.invokevirtual 74, 3) := by decide +kernel
theorem dX1_bestBar_98 : decode cX1_bestBar 98 = .ok (.invokevirtual 80, 3) := by decide +kernel
theorem dX1_bestBar_101 : decode cX1_bestBar 101 = .ok (.iload 5, 2) := by decide +kernel
theorem dX1_bestBar_103 : decode cX1_bestBar 103 = .ok (.if_icmp .ne 7, 3) := by decide +kernel
theorem dX1_bestBar_106 : decode cX1_bestBar 106 = .ok (.iconst 1, 1) := by decide +kernel
theorem dX1_bestBar_107 : decode cX1_bestBar 107 = .ok (.goto 4, 3) := by decide +kernel
theorem dX1_bestBar_110 : decode cX1_bestBar 110 = .ok (.iconst 0, 1) := by decide +kernel
theorem dX1_bestBar_111 : decode cX1_bestBar 111 = .ok (.istore 6, 2) := by decide +kernel
theorem dX1_bestBar_113 : decode cX1_bestBar 113 = .ok (.iload 6, 2) := by decide +kernel
theorem dX1_bestBar_115 : decode cX1_bestBar 115 = .ok (.ifCond .eq 12, 3) := by decide +kernel
theorem dX1_bestBar_118 : decode cX1_bestBar 118 = .ok (.aload_n 0, 1) := by decide +kernel
theorem dX1_bestBar_119 : decode cX1_bestBar 119 = .ok (.getfield 9, 3) := by decide +kernel
theorem dX1_bestBar_122 : decode cX1_bestBar 122 = .ok (.iload_n 1, 1) := by decide +kernel
theorem dX1_bestBar_123 : decode cX1_bestBar 123 = .ok (.iaload, 1) := by decide +kernel
theorem dX1_bestBar_124 : decode cX1_bestBar 124 = .ok (.goto 4, 3) := by decide +kernel
theorem dX1_bestBar_127 : decode cX1_bestBar 127 = .ok (.iload_n 3, 1) := by decide +kernel
theorem dX1_bestBar_128 : decode cX1_bestBar 128 = .ok (.ireturn, 1) := by decide +kernel
set_option maxHeartbeats 4000000 in
set_option maxRecDepth 100000 in
theorem x_bestBar (l : Launch) (D : va_G) (k : Nat → ClassId) (st : Nat → Nat) (lo : Nat) (c0 : Nat) (z0 : Nat) (z1 : Nat) (z2 : Nat) (z3 : Nat) (pn : Nat) (pf : Int32) (pd : Int32) (pe : Int32) (pb : Nat → Nat) (pco : Nat → Int32) (cn : Nat) (p1 : Int32) (hpn : pn ≤ 24) (hcn : cn < 4) (hpb : ∀ j, pb j ≤ 24) : CRi l D k st lo yX1_bestBar cX1_bestBar 8 (some .int) ({ frames := 2, cells := 0, slots := 0, locals := 45 }) [.ref z0, .int (nI cn), .int p1] [(z0, .inr (1, [.ref c0, .ref z1, .ref z2, .ref z3, .int (nI pn), .int pf, .int pd, .int pe])), (z1, .inl (k 1, 4, .inl (nF pb))), (z2, .inl (k 1, 100, .inl pco))] (fun r => ∃ z : Nat, z ≤ 24 ∧ r = nI z) := by
  intro sz
  refine Met.ofW (cc := cX1_bestBar) (maxL := 8) (ret := (some .int)) (by decide) rfl ?_
  intro p e s m args below meth c s₁ B hml hv
  obtain ⟨rfl, hsz, hlo, hP, hK, hDL, hZ⟩ := hv
  have hx := B.exec
  have hb := B.bytes
  have hr := B.returns
  have hts := WS_ts B.pre
  have hown : s.vm.findClass RX1 = some m.cls := findClass_of_methodNamed B.named
  have hlocks := B.notSynchronized
  subst hsz
  have hA : ∀ q : Nat, s.heap.size ≤ q → (fun q : Nat => s.heap.size ≤ q) q := fun _ h => h
  have hAlo : ∀ q : Nat, (fun q : Nat => s.heap.size ≤ q) q → lo ≤ q := fun q h => Nat.le_trans hlo h
  have hS : va_S (fun q : Nat => s.heap.size ≤ q) s.heap s.heap [] := va_S.rf
  have hl := lv_entry ([.ref z0, .int (nI cn), .int p1]) (n := 8) (Nat.le_of_ble_eq_true rfl)
  rw [lg_entry_eq]
  generalize (lg_sl ([.ref z0, .int (nI cn), .int p1]) ++ List.replicate (8 - (lg_sl ([.ref z0, .int (nI cn), .int p1])).length) Slot.unset).toArray = ls at hl ⊢
  have hl : lv_has ls 8 [(0, .ref z0), (1, .int (nI cn)), (2, .int p1)] := hl
  refine lv_aload_n hx hb dX1_bestBar_0 rfl (lv_at hl 0 rfl) ?_
  refine va_get (D := D) (ci := 1) (v := .int (nI pn)) (C := RX1) (T := TX1) (N := 8) hx hb hts inX1 hown hK hP 0 rfl rfl 4 (by decide) (hts _ tw_240) (fun _ h9 => h9) rfl dX1_bestBar_1 ?_
  refine lv_istore_n (lv' := [(3, .int (nI pn)), (0, .ref z0), (1, .int (nI cn)), (2, .int p1)]) hx hb dX1_bestBar_4 rfl hl (by decide) rfl (fun ls hl => ?_)
  refine lv_iload_n hx hb dX1_bestBar_5 rfl (lv_at hl 0 rfl) ?_
  refine lv_istore (lv' := [(4, .int (nI pn)), (3, .int (nI pn)), (0, .ref z0), (1, .int (nI cn)), (2, .int p1)]) hx hb dX1_bestBar_6 hl (by decide) rfl (fun ls hl => ?_)
  refine lv_aload_n hx hb dX1_bestBar_8 rfl (lv_at hl 2 rfl) ?_
  refine lv_iload_n hx hb dX1_bestBar_9 rfl (lv_at hl 3 rfl) ?_
  refine lv_iload hx hb dX1_bestBar_10 (lv_at hl 0 rfl) ?_
  refine ro_i (D := D) (va_runV (As := [.int (nI cn), .int (nI pn)]) (rest := []) ⟨hx, hb, hml, hown, hts⟩ ((x_paidAt l D k st lo c0 z0 z1 z2 z3 pn pf pd pe pco cn pn (by omega) (by omega) (by omega)) s.heap.size) (cwV 2 hts (gV tw_862 tw_864 tw_23 tw_84 tw_865) rfl rfl rfl (by decide +kernel) ⟨Nat.le_of_ble_eq_true rfl, Nat.le_of_ble_eq_true rfl⟩) (pV hS hAlo hlo hP hK hDL hZ [0, 2] (by decide) rfl (ci := 1) (q0 := 0) rfl rfl) rfl rfl hl.1 rfl (lv_room (Nat.le_of_ble_eq_true rfl)) dX1_bestBar_12 ⟨Nat.le_of_ble_eq_true rfl, Nat.le_of_ble_eq_true rfl⟩) hS hA hP (fun r_1 H locs hw_1 hP hS => ?_)
  try dsimp only at hw_1
  refine lv_istore (lv' := [(5, .int r_1), (4, .int (nI pn)), (3, .int (nI pn)), (0, .ref z0), (1, .int (nI cn)), (2, .int p1)]) hx hb dX1_bestBar_15 hl (by decide) rfl (fun ls hl => ?_)
  refine lv_aload_n hx hb dX1_bestBar_17 rfl (lv_at hl 3 rfl) ?_
  refine va_get (D := D) (ci := 1) (v := .int (nI pn)) (C := RX1) (T := TX1) (N := 8) hx hb hts inX1 hown hK hP 0 rfl rfl 4 (by decide) (hts _ tw_240) (fun _ h9 => h9) rfl dX1_bestBar_18 ?_
  refine lv_iconst (v := 1) hx hb dX1_bestBar_21 (by decide) ?_
  refine lv_isub hx hb dX1_bestBar_22 ?_
  refine lv_ti (y := (nI pn - 1)) rfl ?_
  refine lv_istore (lv' := [(6, .int (nI pn - 1)), (5, .int r_1), (4, .int (nI pn)), (3, .int (nI pn)), (0, .ref z0), (1, .int (nI cn)), (2, .int p1)]) hx hb dX1_bestBar_23 hl (by decide) rfl (fun ls hl => ?_)
  refine W_loop (σ := Nat × Nat × Nat × Int32) (fun (n_ : Nat) (x_ : Nat × Nat × Nat × Int32) (H : Heap) (locs : List Loc) (ls : Array Slot) => match x_ with | (q_2, be_2, pl2_2, le_2) => n_ = 2 * q_2 ∧ (q_2 ≤ pn ∧ be_2 ≤ 24 ∧ pl2_2 ≤ 24) ∧ va_P D classes [(z0, .inr (1, [.ref c0, .ref z1, .ref z2, .ref z3, .int (nI pn), .int pf, .int pd, .int pe])), (z1, .inl (k 1, 4, .inl (nF pb))), (z2, .inl (k 1, 100, .inl pco))] H ∧ va_S (fun q : Nat => s.heap.size ≤ q) s.heap H locs ∧ lv_has ls 8 [(6, .int (nI q_2 - 1)), (5, .int le_2), (4, .int (nI pl2_2)), (3, .int (nI be_2)), (0, .ref z0), (1, .int (nI cn)), (2, .int p1)]) (fun n_2 x_2 H locs ls hI ih_2 => ?_) _ (pn, pn, pn, r_1) ⟨rfl, ⟨by omega, by omega, by omega⟩, hP, hS, (lv_sub hl [0, 1, 2, 3, 4, 5, 6] rfl)⟩
  obtain ⟨q_2, be_2, pl2_2, le_2⟩ := x_2
  obtain ⟨hm_2, hv_2, hP, hS, hl⟩ := hI
  subst hm_2
  rcases q_2 with _ | q_2
  · rw [dn0] at hl
    refine lv_iload hx hb dX1_bestBar_25 (lv_at hl 0 rfl) ?_
    refine lv_if_lt (tgt := 72) hx hb dX1_bestBar_27 (by decide) (fun _ => ?_) (fun h => absurd (by decide) h)
    refine lv_aload_n hx hb dX1_bestBar_72 rfl (lv_at hl 4 rfl) ?_
    refine va_get (D := D) (ci := 1) (v := .ref z1) (C := RX1) (T := TX1) (N := 8) hx hb hts inX1 hown hK hP 0 rfl rfl 1 (by decide) (hts _ tw_236) (fun _ h9 => h9) rfl dX1_bestBar_73 ?_
    refine lv_iload_n hx hb dX1_bestBar_76 rfl (lv_at hl 5 rfl) ?_
    refine va_iald hx hb hK hP 1 1 rfl rfl (vp_in_nI (by omega) (by decide)) dX1_bestBar_77 ?_
    have hq_3 := hpb cn
    refine lv_ti (y := (nI (pb cn))) (by rw [nI_clamp (by omega)]; rfl) ?_
    refine lv_aload_n hx hb dX1_bestBar_78 rfl (lv_at hl 4 rfl) ?_
    refine va_get (D := D) (ci := 1) (v := .int (nI pn)) (C := RX1) (T := TX1) (N := 8) hx hb hts inX1 hown hK hP 0 rfl rfl 4 (by decide) (hts _ tw_240) (fun _ h9 => h9) rfl dX1_bestBar_79 ?_
    refine lv_icmp_gt (tgt := 110) hx hb dX1_bestBar_82 (by decide) (fun c_4 => ?_) (fun c_4 => ?_)
    · have c_4 := (nI_ltI (a := pn) (b := (pb cn)) (by omega) (by omega)).mp c_4
      refine lv_iconst (v := 0) hx hb dX1_bestBar_110 (by decide) ?_
      refine lv_istore (lv' := [(6, .int 0), (5, .int le_2), (4, .int (nI pl2_2)), (3, .int (nI be_2)), (0, .ref z0), (1, .int (nI cn)), (2, .int p1)]) hx hb dX1_bestBar_111 hl (by decide) rfl (fun ls hl => ?_)
      refine lv_iload hx hb dX1_bestBar_113 (lv_at hl 0 rfl) ?_
      refine lv_if_eq (tgt := 127) hx hb dX1_bestBar_115 (by decide) (fun _ => ?_) (fun h => absurd (by decide) h)
      refine lv_iload_n hx hb dX1_bestBar_127 rfl (lv_at hl 3 rfl) ?_
      exact W.iret (v := (nI be_2)) hx hb hr (fun t ht hW => ⟨⟨(nI be_2), (), rfl, ⟨_, by omega, rfl⟩, trivial⟩, hS.F ht⟩) hS.2.2 dX1_bestBar_128
    · have c_4 : ¬ (pn < (pb cn)) := fun h => c_4 ((nI_ltI (a := pn) (b := (pb cn)) (by omega) (by omega)).mpr h)
      refine lv_aload_n hx hb dX1_bestBar_85 rfl (lv_at hl 4 rfl) ?_
      refine lv_iload_n hx hb dX1_bestBar_86 rfl (lv_at hl 5 rfl) ?_
      refine lv_aload_n hx hb dX1_bestBar_87 rfl (lv_at hl 4 rfl) ?_
      refine lv_aload_n hx hb dX1_bestBar_88 rfl (lv_at hl 4 rfl) ?_
      refine va_get (D := D) (ci := 1) (v := .ref z1) (C := RX1) (T := TX1) (N := 8) hx hb hts inX1 hown hK hP 0 rfl rfl 1 (by decide) (hts _ tw_236) (fun _ h9 => h9) rfl dX1_bestBar_89 ?_
      refine lv_iload_n hx hb dX1_bestBar_92 rfl (lv_at hl 5 rfl) ?_
      refine va_iald hx hb hK hP 1 1 rfl rfl (vp_in_nI (by omega) (by decide)) dX1_bestBar_93 ?_
      have hq_5 := hpb cn
      refine lv_ti (y := (nI (pb cn))) (by rw [nI_clamp (by omega)]; rfl) ?_
      refine lv_iload_n hx hb dX1_bestBar_94 rfl (lv_at hl 6 rfl) ?_
      refine ro_i (D := D) (va_runV (As := [.int (nI (pb cn)), .int p1]) (rest := [.int (nI cn), .ref z0]) ⟨hx, hb, hml, hown, hts⟩ ((x_placeFrom l D k st lo c0 z0 z1 z2 z3 pn pf pd pe (pb cn) p1 (by omega) (by omega)) H.size) (cwV 2 hts (gV tw_838 tw_840 tw_20 tw_84 tw_841) rfl rfl rfl (by decide +kernel) ⟨Nat.le_of_ble_eq_true rfl, Nat.le_of_ble_eq_true rfl⟩) (pV hS hAlo hlo hP hK hDL hZ [0] (by decide) rfl (ci := 1) (q0 := 0) rfl rfl) rfl rfl hl.1 rfl (lv_room (Nat.le_of_ble_eq_true rfl)) dX1_bestBar_95 ⟨Nat.le_of_ble_eq_true rfl, Nat.le_of_ble_eq_true rfl⟩) hS hA hP (fun r_6 H locs hw_6 hP hS => ?_)
      try dsimp only at hw_6
      obtain ⟨zp_7, hzp_7, rfl⟩ := hw_6
      refine ro_i (D := D) (va_runV (As := [.int (nI cn), .int (nI zp_7)]) (rest := []) ⟨hx, hb, hml, hown, hts⟩ ((x_paidAt l D k st lo c0 z0 z1 z2 z3 pn pf pd pe pco cn zp_7 (by omega) (by omega) (by omega)) H.size) (cwV 2 hts (gV tw_862 tw_864 tw_23 tw_84 tw_865) rfl rfl rfl (by decide +kernel) ⟨Nat.le_of_ble_eq_true rfl, Nat.le_of_ble_eq_true rfl⟩) (pV hS hAlo hlo hP hK hDL hZ [0, 2] (by decide) rfl (ci := 1) (q0 := 0) rfl rfl) rfl rfl hl.1 rfl (lv_room (Nat.le_of_ble_eq_true rfl)) dX1_bestBar_98 ⟨Nat.le_of_ble_eq_true rfl, Nat.le_of_ble_eq_true rfl⟩) hS hA hP (fun r_8 H locs hw_8 hP hS => ?_)
      try dsimp only at hw_8
      refine lv_iload hx hb dX1_bestBar_101 (lv_at hl 1 rfl) ?_
      refine lv_icmp_ne (tgt := 110) hx hb dX1_bestBar_103 (by decide) (fun c_9 => ?_) (fun c_9 => ?_)
      · refine lv_iconst (v := 0) hx hb dX1_bestBar_110 (by decide) ?_
        refine lv_istore (lv' := [(6, .int 0), (5, .int le_2), (4, .int (nI pl2_2)), (3, .int (nI be_2)), (0, .ref z0), (1, .int (nI cn)), (2, .int p1)]) hx hb dX1_bestBar_111 hl (by decide) rfl (fun ls hl => ?_)
        refine lv_iload hx hb dX1_bestBar_113 (lv_at hl 0 rfl) ?_
        refine lv_if_eq (tgt := 127) hx hb dX1_bestBar_115 (by decide) (fun _ => ?_) (fun h => absurd (by decide) h)
        refine lv_iload_n hx hb dX1_bestBar_127 rfl (lv_at hl 3 rfl) ?_
        exact W.iret (v := (nI be_2)) hx hb hr (fun t ht hW => ⟨⟨(nI be_2), (), rfl, ⟨_, by omega, rfl⟩, trivial⟩, hS.F ht⟩) hS.2.2 dX1_bestBar_128
      · refine lv_iconst (v := 1) hx hb dX1_bestBar_106 (by decide) ?_
        refine lv_goto (tgt := 111) hx hb dX1_bestBar_107 (by decide) ?_
        refine lv_istore (lv' := [(6, .int 1), (5, .int le_2), (4, .int (nI pl2_2)), (3, .int (nI be_2)), (0, .ref z0), (1, .int (nI cn)), (2, .int p1)]) hx hb dX1_bestBar_111 hl (by decide) rfl (fun ls hl => ?_)
        refine lv_iload hx hb dX1_bestBar_113 (lv_at hl 0 rfl) ?_
        refine lv_if_eq (tgt := 127) hx hb dX1_bestBar_115 (by decide) (fun h => absurd h (by decide)) (fun _ => ?_)
        refine lv_aload_n hx hb dX1_bestBar_118 rfl (lv_at hl 4 rfl) ?_
        refine va_get (D := D) (ci := 1) (v := .ref z1) (C := RX1) (T := TX1) (N := 8) hx hb hts inX1 hown hK hP 0 rfl rfl 1 (by decide) (hts _ tw_236) (fun _ h9 => h9) rfl dX1_bestBar_119 ?_
        refine lv_iload_n hx hb dX1_bestBar_122 rfl (lv_at hl 5 rfl) ?_
        refine va_iald hx hb hK hP 1 1 rfl rfl (vp_in_nI (by omega) (by decide)) dX1_bestBar_123 ?_
        have hq_10 := hpb cn
        refine lv_ti (y := (nI (pb cn))) (by rw [nI_clamp (by omega)]; rfl) ?_
        refine lv_goto (tgt := 128) hx hb dX1_bestBar_124 (by decide) ?_
        exact W.iret (v := (nI (pb cn))) hx hb hr (fun t ht hW => ⟨⟨(nI (pb cn)), (), rfl, ⟨_, by omega, rfl⟩, trivial⟩, hS.F ht⟩) hS.2.2 dX1_bestBar_128
  · rw [nI_pred] at hl
    refine lv_iload hx hb dX1_bestBar_25 (lv_at hl 0 rfl) ?_
    refine lv_if_lt (tgt := 72) hx hb dX1_bestBar_27 (by decide) (fun h => absurd h (nI_pos0 (by omega))) (fun _ => ?_)
    refine lv_iload_n hx hb dX1_bestBar_30 rfl (lv_at hl 6 rfl) ?_
    refine lv_iload hx hb dX1_bestBar_31 (lv_at hl 0 rfl) ?_
    refine lv_ishr hx hb dX1_bestBar_33 ?_
    refine lv_topi (fun x_11 ex_11 => ?_)
    refine lv_iconst (v := 1) hx hb dX1_bestBar_34 (by decide) ?_
    refine lv_iand hx hb dX1_bestBar_35 ?_
    refine lv_topi (fun x_12 ex_12 => ?_)
    refine lv_if_eq (tgt := 43) hx hb dX1_bestBar_36 (by decide) (fun c_13 => ?_) (fun c_13 => ?_)
    · refine lv_aload_n hx hb dX1_bestBar_43 rfl (lv_at hl 4 rfl) ?_
      refine lv_iload_n hx hb dX1_bestBar_44 rfl (lv_at hl 5 rfl) ?_
      refine lv_iload hx hb dX1_bestBar_45 (lv_at hl 2 rfl) ?_
      refine ro_i (D := D) (va_runV (As := [.int (nI cn), .int (nI pl2_2)]) (rest := []) ⟨hx, hb, hml, hown, hts⟩ ((x_paidAt l D k st lo c0 z0 z1 z2 z3 pn pf pd pe pco cn pl2_2 (by omega) (by omega) (by omega)) H.size) (cwV 2 hts (gV tw_862 tw_864 tw_23 tw_84 tw_865) rfl rfl rfl (by decide +kernel) ⟨Nat.le_of_ble_eq_true rfl, Nat.le_of_ble_eq_true rfl⟩) (pV hS hAlo hlo hP hK hDL hZ [0, 2] (by decide) rfl (ci := 1) (q0 := 0) rfl rfl) rfl rfl hl.1 rfl (lv_room (Nat.le_of_ble_eq_true rfl)) dX1_bestBar_47 ⟨Nat.le_of_ble_eq_true rfl, Nat.le_of_ble_eq_true rfl⟩) hS hA hP (fun r_14 H locs hw_14 hP hS => ?_)
      try dsimp only at hw_14
      refine lv_istore (lv' := [(7, .int r_14), (6, .int (nI q_2)), (5, .int le_2), (4, .int (nI pl2_2)), (3, .int (nI be_2)), (0, .ref z0), (1, .int (nI cn)), (2, .int p1)]) hx hb dX1_bestBar_50 hl (by decide) rfl (fun ls hl => ?_)
      refine lv_iload hx hb dX1_bestBar_52 (lv_at hl 0 rfl) ?_
      refine lv_iload hx hb dX1_bestBar_54 (lv_at hl 2 rfl) ?_
      refine lv_icmp_gt (tgt := 66) hx hb dX1_bestBar_56 (by decide) (fun c_15 => ?_) (fun c_15 => ?_)
      · refine lv_iinc (v := (nI q_2 - 1)) (lv' := [(6, .int (nI q_2 - 1)), (7, .int r_14), (5, .int le_2), (4, .int (nI pl2_2)), (3, .int (nI be_2)), (0, .ref z0), (1, .int (nI cn)), (2, .int p1)]) hx hb dX1_bestBar_66 hl (k := 1) rfl (dn1 _) (by decide) rfl (fun ls hl => ?_)
        refine lv_goto (tgt := 25) hx hb dX1_bestBar_69 (by decide) ?_
        exact ih_2 _ (q_2, be_2, pl2_2, le_2) _ _ _ (by omega) ⟨rfl, ⟨by omega, by omega, by omega⟩, hP, hS, (lv_sub hl [0, 2, 3, 4, 5, 6, 7] rfl)⟩
      · refine lv_iload hx hb dX1_bestBar_59 (lv_at hl 0 rfl) ?_
        refine lv_istore (lv' := [(5, .int r_14), (7, .int r_14), (6, .int (nI q_2)), (4, .int (nI pl2_2)), (3, .int (nI be_2)), (0, .ref z0), (1, .int (nI cn)), (2, .int p1)]) hx hb dX1_bestBar_61 hl (by decide) rfl (fun ls hl => ?_)
        refine lv_iload hx hb dX1_bestBar_63 (lv_at hl 2 rfl) ?_
        refine lv_istore_n (lv' := [(3, .int (nI q_2)), (5, .int r_14), (7, .int r_14), (6, .int (nI q_2)), (4, .int (nI pl2_2)), (0, .ref z0), (1, .int (nI cn)), (2, .int p1)]) hx hb dX1_bestBar_65 rfl hl (by decide) rfl (fun ls hl => ?_)
        refine lv_iinc (v := (nI q_2 - 1)) (lv' := [(6, .int (nI q_2 - 1)), (3, .int (nI q_2)), (5, .int r_14), (7, .int r_14), (4, .int (nI pl2_2)), (0, .ref z0), (1, .int (nI cn)), (2, .int p1)]) hx hb dX1_bestBar_66 hl (k := 3) rfl (dn1 _) (by decide) rfl (fun ls hl => ?_)
        refine lv_goto (tgt := 25) hx hb dX1_bestBar_69 (by decide) ?_
        exact ih_2 _ (q_2, q_2, pl2_2, r_14) _ _ _ (by omega) ⟨rfl, ⟨by omega, by omega, by omega⟩, hP, hS, (lv_sub hl [0, 2, 4, 1, 5, 6, 7] rfl)⟩
    · refine lv_iload hx hb dX1_bestBar_39 (lv_at hl 0 rfl) ?_
      refine lv_istore (lv' := [(4, .int (nI q_2)), (6, .int (nI q_2)), (5, .int le_2), (3, .int (nI be_2)), (0, .ref z0), (1, .int (nI cn)), (2, .int p1)]) hx hb dX1_bestBar_41 hl (by decide) rfl (fun ls hl => ?_)
      refine lv_aload_n hx hb dX1_bestBar_43 rfl (lv_at hl 4 rfl) ?_
      refine lv_iload_n hx hb dX1_bestBar_44 rfl (lv_at hl 5 rfl) ?_
      refine lv_iload hx hb dX1_bestBar_45 (lv_at hl 0 rfl) ?_
      refine ro_i (D := D) (va_runV (As := [.int (nI cn), .int (nI q_2)]) (rest := []) ⟨hx, hb, hml, hown, hts⟩ ((x_paidAt l D k st lo c0 z0 z1 z2 z3 pn pf pd pe pco cn q_2 (by omega) (by omega) (by omega)) H.size) (cwV 2 hts (gV tw_862 tw_864 tw_23 tw_84 tw_865) rfl rfl rfl (by decide +kernel) ⟨Nat.le_of_ble_eq_true rfl, Nat.le_of_ble_eq_true rfl⟩) (pV hS hAlo hlo hP hK hDL hZ [0, 2] (by decide) rfl (ci := 1) (q0 := 0) rfl rfl) rfl rfl hl.1 rfl (lv_room (Nat.le_of_ble_eq_true rfl)) dX1_bestBar_47 ⟨Nat.le_of_ble_eq_true rfl, Nat.le_of_ble_eq_true rfl⟩) hS hA hP (fun r_16 H locs hw_16 hP hS => ?_)
      try dsimp only at hw_16
      refine lv_istore (lv' := [(7, .int r_16), (4, .int (nI q_2)), (6, .int (nI q_2)), (5, .int le_2), (3, .int (nI be_2)), (0, .ref z0), (1, .int (nI cn)), (2, .int p1)]) hx hb dX1_bestBar_50 hl (by decide) rfl (fun ls hl => ?_)
      refine lv_iload hx hb dX1_bestBar_52 (lv_at hl 0 rfl) ?_
      refine lv_iload hx hb dX1_bestBar_54 (lv_at hl 3 rfl) ?_
      refine lv_icmp_gt (tgt := 66) hx hb dX1_bestBar_56 (by decide) (fun c_17 => ?_) (fun c_17 => ?_)
      · refine lv_iinc (v := (nI q_2 - 1)) (lv' := [(6, .int (nI q_2 - 1)), (7, .int r_16), (4, .int (nI q_2)), (5, .int le_2), (3, .int (nI be_2)), (0, .ref z0), (1, .int (nI cn)), (2, .int p1)]) hx hb dX1_bestBar_66 hl (k := 2) rfl (dn1 _) (by decide) rfl (fun ls hl => ?_)
        refine lv_goto (tgt := 25) hx hb dX1_bestBar_69 (by decide) ?_
        exact ih_2 _ (q_2, be_2, q_2, le_2) _ _ _ (by omega) ⟨rfl, ⟨by omega, by omega, by omega⟩, hP, hS, (lv_sub hl [0, 3, 2, 4, 5, 6, 7] rfl)⟩
      · refine lv_iload hx hb dX1_bestBar_59 (lv_at hl 0 rfl) ?_
        refine lv_istore (lv' := [(5, .int r_16), (7, .int r_16), (4, .int (nI q_2)), (6, .int (nI q_2)), (3, .int (nI be_2)), (0, .ref z0), (1, .int (nI cn)), (2, .int p1)]) hx hb dX1_bestBar_61 hl (by decide) rfl (fun ls hl => ?_)
        refine lv_iload hx hb dX1_bestBar_63 (lv_at hl 3 rfl) ?_
        refine lv_istore_n (lv' := [(3, .int (nI q_2)), (5, .int r_16), (7, .int r_16), (4, .int (nI q_2)), (6, .int (nI q_2)), (0, .ref z0), (1, .int (nI cn)), (2, .int p1)]) hx hb dX1_bestBar_65 rfl hl (by decide) rfl (fun ls hl => ?_)
        refine lv_iinc (v := (nI q_2 - 1)) (lv' := [(6, .int (nI q_2 - 1)), (3, .int (nI q_2)), (5, .int r_16), (7, .int r_16), (4, .int (nI q_2)), (0, .ref z0), (1, .int (nI cn)), (2, .int p1)]) hx hb dX1_bestBar_66 hl (k := 4) rfl (dn1 _) (by decide) rfl (fun ls hl => ?_)
        refine lv_goto (tgt := 25) hx hb dX1_bestBar_69 (by decide) ?_
        exact ih_2 _ (q_2, q_2, q_2, r_16) _ _ _ (by omega) ⟨rfl, ⟨by omega, by omega, by omega⟩, hP, hS, (lv_sub hl [0, 2, 4, 1, 5, 6, 7] rfl)⟩


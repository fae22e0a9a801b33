theorem dX1_comeTo_0 : decode cX1_comeTo 0 = .ok (.aload_n 0, 1) := by decide +kernel
theorem dX1_comeTo_1 : decode cX1_comeTo 1 = .ok (.aload_n 1, 1) := by decide +kernel
theorem dX1_comeTo_2 : decode cX1_comeTo 2 = .ok (.invokevirtual 38, 3) := by decide +kernel
theorem dX1_comeTo_5 : decode cX1_comeTo 5 = .ok (.putfield 21, 3) := by decide +kernel
theorem dX1_comeTo_8 : decode cX1_comeTo 8 = .ok (.aload_n 0, 1) := by decide +kernel
theorem dX1_comeTo_9 : decode cX1_comeTo 9 = .ok (.iload_n 2, 1) := by decide +kernel
theorem dX1_comeTo_10 : decode cX1_comeTo 10 = .ok (.putfield 25, 3) := by decide +kernel
theorem dX1_comeTo_13 : decode cX1_comeTo 13 = .ok (.aload_n 0, 1) := by decide +kernel
theorem dX1_comeTo_14 : decode cX1_comeTo 14 = .ok (.iconst 0, 1) := by decide +kernel
theorem dX1_comeTo_15 : decode cX1_comeTo 15 = .ok (.putfield 28, 3) := by decide +kernel
theorem dX1_comeTo_18 : decode cX1_comeTo 18 = .ok (.aload_n 0, 1) := by decide +kernel
theorem dX1_comeTo_19 : decode cX1_comeTo 19 = .ok (.iconst 0, 1) := by decide +kernel
theorem dX1_comeTo_20 : decode cX1_comeTo 20 = .ok (.putfield 31, 3) := by decide +kernel
theorem dX1_comeTo_23 : decode cX1_comeTo 23 = .ok (.aload_n 0, 1) := by decide +kernel
theorem dX1_comeTo_24 : decode cX1_comeTo 24 = .ok (.getfield 34, 3) := by decide +kernel
theorem dX1_comeTo_27 : decode cX1_comeTo 27 = .ok (.getfield 44, 3) := by decide +kernel
theorem dX1_comeTo_30 : decode cX1_comeTo 30 = .ok (.iconst 0, 1) := by decide +kernel
theorem dX1_comeTo_31 : decode cX1_comeTo 31 = .ok (.aload_n 0, 1) := by decide +kernel
theorem dX1_comeTo_32 : decode cX1_comeTo 32 = .ok (.getfield 9, 3) := by decide +kernel
theorem dX1_comeTo_35 : decode cX1_comeTo 35 = .ok (.iconst 0, 1) := by decide +kernel
theorem dX1_comeTo_36 : decode cX1_comeTo 36 = .ok (.iconst 4, 1) := by decide +kernel
theorem dX1_comeTo_37 : decode cX1_comeTo 37 = .ok (.invokestatic 47, 3) := by decide +kernel
theorem dX1_comeTo_40 : decode cX1_comeTo 40 = .ok (.iconst 0, 1) := by decide +kernel
theorem dX1_comeTo_41 : decode cX1_comeTo 41 = .ok (.istore_n 3, 1) := by decide +kernel
theorem dX1_comeTo_42 : decode cX1_comeTo 42 = .ok (.iload_n 3, 1) := by decide +kernel
theorem dX1_comeTo_43 : decode cX1_comeTo 43 = .ok (.aload_n 0, 1) := by decide +kernel
theorem dX1_comeTo_44 : decode cX1_comeTo 44 = .ok (.getfield 34, 3) := by decide +kernel
theorem dX1_comeTo_47 : decode cX1_comeTo 47 = .ok (.getfield 53, 3) := by decide +kernel
theorem dX1_comeTo_50 : decode cX1_comeTo 50 = .ok (.if_icmp .ge 92, 3) := by decide +kernel
theorem dX1_comeTo_53 : decode cX1_comeTo 53 = .ok (.iconst 0, 1) := by decide +kernel
theorem dX1_comeTo_54 : decode cX1_comeTo 54 = .ok (.istore 4, 2) := by decide +kernel
theorem dX1_comeTo_56 : decode cX1_comeTo 56 = .ok (.iload 4, 2) := by decide +kernel
theorem dX1_comeTo_58 : decode cX1_comeTo 58 = .ok (.aload_n 0, 1) := by decide +kernel
theorem dX1_comeTo_59 : decode cX1_comeTo 59 = .ok (.getfield 21, 3) := by decide +kernel
theorem dX1_comeTo_62 : decode cX1_comeTo 62 = .ok (.if_icmp .ge 45, 3) := by decide +kernel
theorem dX1_comeTo_65 : decode cX1_comeTo 65 = .ok (.aload_n 0, 1) := by decide +kernel
theorem dX1_comeTo_66 : decode cX1_comeTo 66 = .ok (.getfield 15, 3) := by decide +kernel
theorem dX1_comeTo_69 : decode cX1_comeTo 69 = .ok (.iload_n 3, 1) := by decide +kernel
theorem dX1_comeTo_70 : decode cX1_comeTo 70 = .ok (.bipush 25, 2) := by decide +kernel
theorem dX1_comeTo_72 : decode cX1_comeTo 72 = .ok (.imul, 1) := by decide +kernel
theorem dX1_comeTo_73 : decode cX1_comeTo 73 = .ok (.iload 4, 2) := by decide +kernel
theorem dX1_comeTo_75 : decode cX1_comeTo 75 = .ok (.iadd, 1) := by decide +kernel
theorem dX1_comeTo_76 : decode cX1_comeTo 76 = .ok (.aload_n 1, 1) := by decide +kernel
theorem dX1_comeTo_77 : decode cX1_comeTo 77 = .ok (.aload_n 0, 1) := by decide +kernel
theorem dX1_comeTo_78 : decode cX1_comeTo 78 = .ok (.getfield 34, 3) := by decide +kernel
theorem dX1_comeTo_81 : decode cX1_comeTo 81 = .ok (.getfield 56, 3) := by decide +kernel
theorem dX1_comeTo_84 : decode cX1_comeTo 84 = .ok (.iload_n 3, 1) := by decide +kernel
theorem dX1_comeTo_85 : decode cX1_comeTo 85 = .ok (.iaload, 1) := by decide +kernel
theorem dX1_comeTo_86 : decode cX1_comeTo 86 = .ok (.iconst 0, 1) := by decide +kernel
theorem dX1_comeTo_87 : decode cX1_comeTo 87 = .ok (.iload 4, 2) := by decide +kernel
theorem dX1_comeTo_89 : decode cX1_comeTo 89 = .ok (.invokevirtual 59, 3) := by decide +kernel
theorem dX1_comeTo_92 : decode cX1_comeTo 92 = .ok (.iload 4, 2) := by decide +kernel
theorem dX1_comeTo_94 : decode cX1_comeTo 94 = .ok (.aload_n 1, 1) := by decide +kernel
theorem dX1_comeTo_95 : decode cX1_comeTo 95 = .ok (.invokevirtual 63, 3) := by decide +kernel
theorem dX1_comeTo_98 : decode cX1_comeTo 98 = .ok (.imul, 1) := by decide +kernel
theorem dX1_comeTo_99 : decode cX1_comeTo 99 = .ok (.iadd, 1) := by decide +kernel
theorem dX1_comeTo_100 : decode cX1_comeTo 100 = .ok (.iastore, 1) := by decide +kernel
theorem dX1_comeTo_101 : decode cX1_comeTo 101 = .ok (.iinc 4 1, 3) := by decide +kernel
theorem dX1_comeTo_104 : decode cX1_comeTo 104 = .ok (.goto (-48), 3) := by decide +kernel
theorem dX1_comeTo_107 : decode cX1_comeTo 107 = .ok (.aload_n 0, 1) := by decide +kernel
theorem dX1_comeTo_108 : decode cX1_comeTo 108 = .ok (.getfield 15, 3) := by decide +kernel
theorem dX1_comeTo_111 : decode cX1_comeTo 111 = .ok (.iload_n 3, 1) := by decide +kernel
theorem dX1_comeTo_112 : decode cX1_comeTo 112 = .ok (.bipush 25, 2) := by decide +kernel
theorem dX1_comeTo_114 : decode cX1_comeTo 114 = .ok (.imul, 1) := by decide +kernel
theorem dX1_comeTo_115 : decode cX1_comeTo 115 = .ok (.aload_n 0, 1) := by decide +kernel
theorem dX1_comeTo_116 : decode cX1_comeTo 116 = .ok (.getfield 21, 3) := by decide +kernel
theorem dX1_comeTo_119 : decode cX1_comeTo 119 = .ok (.iadd, 1) := by decide +kernel
theorem dX1_comeTo_120 : decode cX1_comeTo 120 = .ok (.aload_n 1, 1) := by decide +kernel
theorem dX1_comeTo_121 : decode cX1_comeTo 121 = .ok (.iconst 0, 1) := by decide +kernel
theorem dX1_comeTo_122 : decode cX1_comeTo 122 = .ok (.invokevirtual 66, 3) := by decide +kernel
theorem dX1_comeTo_125 : decode cX1_comeTo 125 = .ok (.aload_n 0, 1) := by decide +kernel
theorem dX1_comeTo_126 : decode cX1_comeTo 126 = .ok (.getfield 21, 3) := by decide +kernel
theorem dX1_comeTo_129 : decode cX1_comeTo 129 = .ok (.aload_n 1, 1) := by decide +kernel
theorem dX1_comeTo_130 : decode cX1_comeTo 130 = .ok (.invokevirtual 63, 3) := by decide +kernel
theorem dX1_comeTo_133 : decode cX1_comeTo 133 = .ok (.imul, 1) := by decide +kernel
theorem dX1_comeTo_134 : decode cX1_comeTo 134 = .ok (.iadd, 1) := by decide +kernel
theorem dX1_comeTo_135 : decode cX1_comeTo 135 = .ok (.iastore, 1) := by decide +kernel
theorem dX1_comeTo_136 : decode cX1_comeTo 136 = .ok (.iinc 3 1, 3) := by decide +kernel
theorem dX1_comeTo_139 : decode cX1_comeTo 139 = .ok (.goto (-97), 3) := by decide +kernel
theorem dX1_comeTo_142 : decode cX1_comeTo 142 = .ok (.return_, 1) := by decide +kernel
set_option maxHeartbeats 4000000 in
set_option maxRecDepth 100000 in
theorem x_comeTo (l : Launch) (D : va_G) (k : Nat → ClassId) (st : Nat → Nat) (lo : Nat) (c0 : Nat) (z0 : Nat) (z1 : Nat) (z2 : Nat) (z3 : Nat) (pn : Int32) (pf : Int32) (pd : Int32) (pe : Int32) (pb : Nat → Nat) (pco : Nat → Int32) (h0 : Nat) (h1 : Nat) (h2 : Nat) (h3 : Nat) (h4 : Nat) (n : Nat) (see : Nat) (tm : Nat) (g : Nat → Int32) (fp : Nat → Int32) (fl : Nat → Int32) (c1 : Nat) (c2 : Nat) (cc : Nat) (rz : Nat) (ro : Int32) (sd : Int32) (wk : Nat → Int32) (br : Nat → Nat) (p1 : Int32) (hn : n ≤ 24) (hcc : cc ≤ 4) (hbr : ∀ j, br j ≤ 24) (hpb : ∀ j, pb j ≤ 24) : CWv l D k st lo yX1_comeTo cX1_comeTo 5 none ({ frames := 1, cells := 0, slots := 0, locals := 60 }) 0 0 [.ref z0, .ref h0, .int p1] [(z0, .inr (1, [.ref c0, .ref z1, .ref z2, .ref z3, .int pn, .int pf, .int pd, .int pe])), (z1, .inl (k 1, 4, .inl (nF pb))), (z2, .inl (k 1, 100, .inl pco)), (h0, .inr (5, [.ref h1, .ref h2, .ref h3, .ref h4])), (h1, .inl (k 1, 10, .inl (vv n see tm g))), (h3, .inl (k 1, 24, .inl fp)), (h4, .inl (k 1, 4, .inl fl)), (c0, .inr (4, [.ref c1, .ref c2, .int (nI cc), .int (nI rz), .int ro, .int sd])), (c1, .inl (k 1, 4, .inl wk)), (c2, .inl (k 1, 4, .inl (nF br)))] (fun (u : (Nat → Nat) × (Nat → Int32)) => match u with | (pb_, pco_) => ∀ j, pb_ j ≤ 24) (fun (u : (Nat → Nat) × (Nat → Int32)) => match u with | (pb_, pco_) => [(z0, .inr (1, [.ref c0, .ref z1, .ref z2, .ref z3, .int (nI n), .int p1, .int 0, .int 0])), (z1, .inl (k 1, 4, .inl (nF pb_))), (z2, .inl (k 1, 100, .inl pco_)), (h0, .inr (5, [.ref h1, .ref h2, .ref h3, .ref h4])), (h1, .inl (k 1, 10, .inl (vv n see tm g))), (h3, .inl (k 1, 24, .inl fp)), (h4, .inl (k 1, 4, .inl fl)), (c0, .inr (4, [.ref c1, .ref c2, .int (nI cc), .int (nI rz), .int ro, .int sd])), (c1, .inl (k 1, 4, .inl wk)), (c2, .inl (k 1, 4, .inl (nF br)))]) := by
  intro sz
  refine Met.ofW (cc := cX1_comeTo) (maxL := 5) (ret := none) (by decide) rfl ?_
  intro p e s m args below meth c s₁ B hml hv
  obtain ⟨rfl, hsz, hlo, hP, hK, hDL, hZ⟩ := hv
  have hx := B.exec
  have hb := B.bytes
  have hr := B.returns
  have hts := WS_ts B.pre
  have hown : s.vm.findClass RX1 = some m.cls := findClass_of_methodNamed B.named
  have hlocks := B.notSynchronized
  subst hsz
  have hD := hDL.self (sz := s.heap.size)
  have hAlo := A_lo hDL hlo
  generalize hAe : va_A [(z0, .inr (1, [.ref c0, .ref z1, .ref z2, .ref z3, .int pn, .int pf, .int pd, .int pe])), (z1, .inl (k 1, 4, .inl (nF pb))), (z2, .inl (k 1, 100, .inl pco)), (h0, .inr (5, [.ref h1, .ref h2, .ref h3, .ref h4])), (h1, .inl (k 1, 10, .inl (vv n see tm g))), (h3, .inl (k 1, 24, .inl fp)), (h4, .inl (k 1, 4, .inl fl)), (c0, .inr (4, [.ref c1, .ref c2, .int (nI cc), .int (nI rz), .int ro, .int sd])), (c1, .inl (k 1, 4, .inl wk)), (c2, .inl (k 1, 4, .inl (nF br)))] s.heap.size = A at hD hAlo ⊢
  have hA : ∀ q : Nat, s.heap.size ≤ q → A q := fun q h => by rw [← hAe]; exact Or.inr h
  have hS : va_S A s.heap s.heap [] := va_S.rf
  have hl := lv_entry ([.ref z0, .ref h0, .int p1]) (n := 5) (Nat.le_of_ble_eq_true rfl)
  rw [lg_entry_eq]
  generalize (lg_sl ([.ref z0, .ref h0, .int p1]) ++ List.replicate (5 - (lg_sl ([.ref z0, .ref h0, .int p1])).length) Slot.unset).toArray = ls at hl ⊢
  have hl : lv_has ls 5 [(0, .ref z0), (1, .ref h0), (2, .int p1)] := hl
  refine lv_aload_n hx hb dX1_comeTo_0 rfl (lv_at hl 0 rfl) ?_
  refine lv_aload_n hx hb dX1_comeTo_1 rfl (lv_at hl 1 rfl) ?_
  refine ro_i (D := D) (va_runV (As := []) (rest := [.ref z0]) ⟨hx, hb, hml, hown, hts⟩ ((x_doors l D k st lo h0 h1 h2 h3 h4 n see tm g) s.heap.size) (cwV 0 hts (gV tw_825 tw_478 tw_479 tw_81 tw_480) rfl rfl rfl (by decide +kernel) ⟨Nat.le_of_ble_eq_true rfl, Nat.le_of_ble_eq_true rfl⟩) (pV hS hAlo hlo hP hK (va_Dlo hD hAlo) hZ [3, 4] (by decide) rfl (ci := 5) (q0 := 0) rfl rfl) rfl rfl hl.1 rfl (lv_room (Nat.le_of_ble_eq_true rfl)) dX1_comeTo_2 ⟨Nat.le_of_ble_eq_true rfl, Nat.le_of_ble_eq_true rfl⟩) hS hA hP (fun r_1 H locs hw_1 hP hS => ?_)
  try dsimp only at hw_1
  subst hw_1
  refine va_put (D := D) (ci := 1) (v := .int (nI n)) (ty := .int) (C := RX1) (T := TX1) (N := 8) hx hb hts inX1 tyX1 tyX1_ok nmX1 hown hK hP hD hS 0 rfl rfl 4 (by decide) (hts _ tw_240) (fun _ h9 => h9) rfl (by decide +kernel) rfl rfl (Nat.le_of_ble_eq_true rfl) dX1_comeTo_5 (fun H locs hP hD hS => ?_)
  replace hP : va_P D classes [(z0, .inr (1, [.ref c0, .ref z1, .ref z2, .ref z3, .int (nI n), .int pf, .int pd, .int pe])), (z1, .inl (k 1, 4, .inl (nF pb))), (z2, .inl (k 1, 100, .inl pco)), (h0, .inr (5, [.ref h1, .ref h2, .ref h3, .ref h4])), (h1, .inl (k 1, 10, .inl (vv n see tm g))), (h3, .inl (k 1, 24, .inl fp)), (h4, .inl (k 1, 4, .inl fl)), (c0, .inr (4, [.ref c1, .ref c2, .int (nI cc), .int (nI rz), .int ro, .int sd])), (c1, .inl (k 1, 4, .inl wk)), (c2, .inl (k 1, 4, .inl (nF br)))] H := hP
  replace hD : va_D A [(z0, .inr (1, [.ref c0, .ref z1, .ref z2, .ref z3, .int (nI n), .int pf, .int pd, .int pe])), (z1, .inl (k 1, 4, .inl (nF pb))), (z2, .inl (k 1, 100, .inl pco)), (h0, .inr (5, [.ref h1, .ref h2, .ref h3, .ref h4])), (h1, .inl (k 1, 10, .inl (vv n see tm g))), (h3, .inl (k 1, 24, .inl fp)), (h4, .inl (k 1, 4, .inl fl)), (c0, .inr (4, [.ref c1, .ref c2, .int (nI cc), .int (nI rz), .int ro, .int sd])), (c1, .inl (k 1, 4, .inl wk)), (c2, .inl (k 1, 4, .inl (nF br)))] := hD
  refine lv_aload_n hx hb dX1_comeTo_8 rfl (lv_at hl 0 rfl) ?_
  refine lv_iload_n hx hb dX1_comeTo_9 rfl (lv_at hl 2 rfl) ?_
  refine va_put (D := D) (ci := 1) (v := .int p1) (ty := .int) (C := RX1) (T := TX1) (N := 8) hx hb hts inX1 tyX1 tyX1_ok nmX1 hown hK hP hD hS 0 rfl rfl 5 (by decide) (hts _ tw_241) (fun _ h9 => h9) rfl (by decide +kernel) rfl rfl (Nat.le_of_ble_eq_true rfl) dX1_comeTo_10 (fun H locs hP hD hS => ?_)
  replace hP : va_P D classes [(z0, .inr (1, [.ref c0, .ref z1, .ref z2, .ref z3, .int (nI n), .int p1, .int pd, .int pe])), (z1, .inl (k 1, 4, .inl (nF pb))), (z2, .inl (k 1, 100, .inl pco)), (h0, .inr (5, [.ref h1, .ref h2, .ref h3, .ref h4])), (h1, .inl (k 1, 10, .inl (vv n see tm g))), (h3, .inl (k 1, 24, .inl fp)), (h4, .inl (k 1, 4, .inl fl)), (c0, .inr (4, [.ref c1, .ref c2, .int (nI cc), .int (nI rz), .int ro, .int sd])), (c1, .inl (k 1, 4, .inl wk)), (c2, .inl (k 1, 4, .inl (nF br)))] H := hP
  replace hD : va_D A [(z0, .inr (1, [.ref c0, .ref z1, .ref z2, .ref z3, .int (nI n), .int p1, .int pd, .int pe])), (z1, .inl (k 1, 4, .inl (nF pb))), (z2, .inl (k 1, 100, .inl pco)), (h0, .inr (5, [.ref h1, .ref h2, .ref h3, .ref h4])), (h1, .inl (k 1, 10, .inl (vv n see tm g))), (h3, .inl (k 1, 24, .inl fp)), (h4, .inl (k 1, 4, .inl fl)), (c0, .inr (4, [.ref c1, .ref c2, .int (nI cc), .int (nI rz), .int ro, .int sd])), (c1, .inl (k 1, 4, .inl wk)), (c2, .inl (k 1, 4, .inl (nF br)))] := hD
  refine lv_aload_n hx hb dX1_comeTo_13 rfl (lv_at hl 0 rfl) ?_
  refine lv_iconst (v := 0) hx hb dX1_comeTo_14 (by decide) ?_
  refine va_put (D := D) (ci := 1) (v := .int 0) (ty := .int) (C := RX1) (T := TX1) (N := 8) hx hb hts inX1 tyX1 tyX1_ok nmX1 hown hK hP hD hS 0 rfl rfl 6 (by decide) (hts _ tw_242) (fun _ h9 => h9) rfl (by decide +kernel) rfl rfl (Nat.le_of_ble_eq_true rfl) dX1_comeTo_15 (fun H locs hP hD hS => ?_)
  replace hP : va_P D classes [(z0, .inr (1, [.ref c0, .ref z1, .ref z2, .ref z3, .int (nI n), .int p1, .int 0, .int pe])), (z1, .inl (k 1, 4, .inl (nF pb))), (z2, .inl (k 1, 100, .inl pco)), (h0, .inr (5, [.ref h1, .ref h2, .ref h3, .ref h4])), (h1, .inl (k 1, 10, .inl (vv n see tm g))), (h3, .inl (k 1, 24, .inl fp)), (h4, .inl (k 1, 4, .inl fl)), (c0, .inr (4, [.ref c1, .ref c2, .int (nI cc), .int (nI rz), .int ro, .int sd])), (c1, .inl (k 1, 4, .inl wk)), (c2, .inl (k 1, 4, .inl (nF br)))] H := hP
  replace hD : va_D A [(z0, .inr (1, [.ref c0, .ref z1, .ref z2, .ref z3, .int (nI n), .int p1, .int 0, .int pe])), (z1, .inl (k 1, 4, .inl (nF pb))), (z2, .inl (k 1, 100, .inl pco)), (h0, .inr (5, [.ref h1, .ref h2, .ref h3, .ref h4])), (h1, .inl (k 1, 10, .inl (vv n see tm g))), (h3, .inl (k 1, 24, .inl fp)), (h4, .inl (k 1, 4, .inl fl)), (c0, .inr (4, [.ref c1, .ref c2, .int (nI cc), .int (nI rz), .int ro, .int sd])), (c1, .inl (k 1, 4, .inl wk)), (c2, .inl (k 1, 4, .inl (nF br)))] := hD
  refine lv_aload_n hx hb dX1_comeTo_18 rfl (lv_at hl 0 rfl) ?_
  refine lv_iconst (v := 0) hx hb dX1_comeTo_19 (by decide) ?_
  refine va_put (D := D) (ci := 1) (v := .int 0) (ty := .int) (C := RX1) (T := TX1) (N := 8) hx hb hts inX1 tyX1 tyX1_ok nmX1 hown hK hP hD hS 0 rfl rfl 7 (by decide) (hts _ tw_243) (fun _ h9 => h9) rfl (by decide +kernel) rfl rfl (Nat.le_of_ble_eq_true rfl) dX1_comeTo_20 (fun H locs hP hD hS => ?_)
  replace hP : va_P D classes [(z0, .inr (1, [.ref c0, .ref z1, .ref z2, .ref z3, .int (nI n), .int p1, .int 0, .int 0])), (z1, .inl (k 1, 4, .inl (nF pb))), (z2, .inl (k 1, 100, .inl pco)), (h0, .inr (5, [.ref h1, .ref h2, .ref h3, .ref h4])), (h1, .inl (k 1, 10, .inl (vv n see tm g))), (h3, .inl (k 1, 24, .inl fp)), (h4, .inl (k 1, 4, .inl fl)), (c0, .inr (4, [.ref c1, .ref c2, .int (nI cc), .int (nI rz), .int ro, .int sd])), (c1, .inl (k 1, 4, .inl wk)), (c2, .inl (k 1, 4, .inl (nF br)))] H := hP
  replace hD : va_D A [(z0, .inr (1, [.ref c0, .ref z1, .ref z2, .ref z3, .int (nI n), .int p1, .int 0, .int 0])), (z1, .inl (k 1, 4, .inl (nF pb))), (z2, .inl (k 1, 100, .inl pco)), (h0, .inr (5, [.ref h1, .ref h2, .ref h3, .ref h4])), (h1, .inl (k 1, 10, .inl (vv n see tm g))), (h3, .inl (k 1, 24, .inl fp)), (h4, .inl (k 1, 4, .inl fl)), (c0, .inr (4, [.ref c1, .ref c2, .int (nI cc), .int (nI rz), .int ro, .int sd])), (c1, .inl (k 1, 4, .inl wk)), (c2, .inl (k 1, 4, .inl (nF br)))] := hD
  refine lv_aload_n hx hb dX1_comeTo_23 rfl (lv_at hl 0 rfl) ?_
  refine va_get (D := D) (ci := 1) (v := .ref c0) (C := RX1) (T := TX1) (N := 8) hx hb hts inX1 hown hK hP 0 rfl rfl 0 (by decide) (hts _ tw_235) (fun _ h9 => h9) rfl dX1_comeTo_24 ?_
  refine va_get (D := D) (ci := 4) (v := .ref c2) (C := RX4) (T := TX4) (N := 6) hx hb hts inX4 hown hK hP 7 rfl rfl 1 (by decide) (hts _ tw_176) (fun _ h9 => h9) rfl dX1_comeTo_27 ?_
  refine lv_iconst (v := 0) hx hb dX1_comeTo_30 (by decide) ?_
  refine lv_aload_n hx hb dX1_comeTo_31 rfl (lv_at hl 0 rfl) ?_
  refine va_get (D := D) (ci := 1) (v := .ref z1) (C := RX1) (T := TX1) (N := 8) hx hb hts inX1 hown hK hP 0 rfl rfl 1 (by decide) (hts _ tw_236) (fun _ h9 => h9) rfl dX1_comeTo_32 ?_
  refine lv_iconst (v := 0) hx hb dX1_comeTo_35 (by decide) ?_
  refine lv_iconst (v := 4) hx hb dX1_comeTo_36 (by decide) ?_
  refine va_copyi hx hb (by rw [hml]; exact hl.1.symm) hown (hts _ tw_826) (hts _ tw_366) (hts _ tw_365) (hts _ tw_88) hK hP hD hS 9 1 1 1 rfl rfl rfl rfl rfl (by decide) (by decide) (by decide) (by decide) (by decide) (fun _ _ => rfl) (Nat.le_of_ble_eq_true rfl) (Nat.le_of_ble_eq_true rfl) dX1_comeTo_37 (fun H locs hP hD hS => ?_)
  replace hP : va_P D classes [(z0, .inr (1, [.ref c0, .ref z1, .ref z2, .ref z3, .int (nI n), .int p1, .int 0, .int 0])), (z1, .inl (k 1, 4, .inl (va_cpy (nF br) (nF pb) 0 0 4))), (z2, .inl (k 1, 100, .inl pco)), (h0, .inr (5, [.ref h1, .ref h2, .ref h3, .ref h4])), (h1, .inl (k 1, 10, .inl (vv n see tm g))), (h3, .inl (k 1, 24, .inl fp)), (h4, .inl (k 1, 4, .inl fl)), (c0, .inr (4, [.ref c1, .ref c2, .int (nI cc), .int (nI rz), .int ro, .int sd])), (c1, .inl (k 1, 4, .inl wk)), (c2, .inl (k 1, 4, .inl (nF br)))] H := hP
  replace hD : va_D A [(z0, .inr (1, [.ref c0, .ref z1, .ref z2, .ref z3, .int (nI n), .int p1, .int 0, .int 0])), (z1, .inl (k 1, 4, .inl (va_cpy (nF br) (nF pb) 0 0 4))), (z2, .inl (k 1, 100, .inl pco)), (h0, .inr (5, [.ref h1, .ref h2, .ref h3, .ref h4])), (h1, .inl (k 1, 10, .inl (vv n see tm g))), (h3, .inl (k 1, 24, .inl fp)), (h4, .inl (k 1, 4, .inl fl)), (c0, .inr (4, [.ref c1, .ref c2, .int (nI cc), .int (nI rz), .int ro, .int sd])), (c1, .inl (k 1, 4, .inl wk)), (c2, .inl (k 1, 4, .inl (nF br)))] := hD
  obtain ⟨d_2, hd_2, hbb_2⟩ := nF_cpy hbr hpb
  rw [show va_cpy (nF br) (nF pb) 0 0 4 = nF d_2 from hd_2] at hP hD
  replace hP : va_P D classes [(z0, .inr (1, [.ref c0, .ref z1, .ref z2, .ref z3, .int (nI n), .int p1, .int 0, .int 0])), (z1, .inl (k 1, 4, .inl (nF d_2))), (z2, .inl (k 1, 100, .inl pco)), (h0, .inr (5, [.ref h1, .ref h2, .ref h3, .ref h4])), (h1, .inl (k 1, 10, .inl (vv n see tm g))), (h3, .inl (k 1, 24, .inl fp)), (h4, .inl (k 1, 4, .inl fl)), (c0, .inr (4, [.ref c1, .ref c2, .int (nI cc), .int (nI rz), .int ro, .int sd])), (c1, .inl (k 1, 4, .inl wk)), (c2, .inl (k 1, 4, .inl (nF br)))] H := hP
  replace hD : va_D A [(z0, .inr (1, [.ref c0, .ref z1, .ref z2, .ref z3, .int (nI n), .int p1, .int 0, .int 0])), (z1, .inl (k 1, 4, .inl (nF d_2))), (z2, .inl (k 1, 100, .inl pco)), (h0, .inr (5, [.ref h1, .ref h2, .ref h3, .ref h4])), (h1, .inl (k 1, 10, .inl (vv n see tm g))), (h3, .inl (k 1, 24, .inl fp)), (h4, .inl (k 1, 4, .inl fl)), (c0, .inr (4, [.ref c1, .ref c2, .int (nI cc), .int (nI rz), .int ro, .int sd])), (c1, .inl (k 1, 4, .inl wk)), (c2, .inl (k 1, 4, .inl (nF br)))] := hD
  refine lv_iconst (v := 0) hx hb dX1_comeTo_40 (by decide) ?_
  refine lv_istore_n (lv' := [(3, .int 0), (0, .ref z0), (1, .ref h0), (2, .int p1)]) hx hb dX1_comeTo_41 rfl hl (by decide) rfl (fun ls hl => ?_)
  refine W_loop (σ := Nat × (Nat → Int32)) (fun (n_ : Nat) (x_ : Nat × (Nat → Int32)) (H : Heap) (locs : List Loc) (ls : Array Slot) => match x_ with | (cn2_4, pco2_4) => n_ = 5 - cn2_4 ∧ (cn2_4 ≤ 4) ∧ va_P D classes [(z0, .inr (1, [.ref c0, .ref z1, .ref z2, .ref z3, .int (nI n), .int p1, .int 0, .int 0])), (z1, .inl (k 1, 4, .inl (nF d_2))), (z2, .inl (k 1, 100, .inl pco2_4)), (h0, .inr (5, [.ref h1, .ref h2, .ref h3, .ref h4])), (h1, .inl (k 1, 10, .inl (vv n see tm g))), (h3, .inl (k 1, 24, .inl fp)), (h4, .inl (k 1, 4, .inl fl)), (c0, .inr (4, [.ref c1, .ref c2, .int (nI cc), .int (nI rz), .int ro, .int sd])), (c1, .inl (k 1, 4, .inl wk)), (c2, .inl (k 1, 4, .inl (nF br)))] H ∧ va_D A [(z0, .inr (1, [.ref c0, .ref z1, .ref z2, .ref z3, .int (nI n), .int p1, .int 0, .int 0])), (z1, .inl (k 1, 4, .inl (nF d_2))), (z2, .inl (k 1, 100, .inl pco2_4)), (h0, .inr (5, [.ref h1, .ref h2, .ref h3, .ref h4])), (h1, .inl (k 1, 10, .inl (vv n see tm g))), (h3, .inl (k 1, 24, .inl fp)), (h4, .inl (k 1, 4, .inl fl)), (c0, .inr (4, [.ref c1, .ref c2, .int (nI cc), .int (nI rz), .int ro, .int sd])), (c1, .inl (k 1, 4, .inl wk)), (c2, .inl (k 1, 4, .inl (nF br)))] ∧ va_S A s.heap H locs ∧ lv_has ls 5 [(3, .int (nI cn2_4)), (0, .ref z0), (1, .ref h0), (2, .int p1)]) (fun n_4 x_4 H locs ls hI ih_4 => ?_) _ (0, pco) ⟨rfl, (by omega), hP, hD, hS, (lv_sub hl [0, 1, 2, 3] rfl)⟩
  obtain ⟨cn2_4, pco2_4⟩ := x_4
  obtain ⟨hm_4, hv_4, hP, hD, hS, hl⟩ := hI
  subst hm_4
  refine lv_iload_n hx hb dX1_comeTo_42 rfl (lv_at hl 0 rfl) ?_
  refine lv_aload_n hx hb dX1_comeTo_43 rfl (lv_at hl 1 rfl) ?_
  refine va_get (D := D) (ci := 1) (v := .ref c0) (C := RX1) (T := TX1) (N := 8) hx hb hts inX1 hown hK hP 0 rfl rfl 0 (by decide) (hts _ tw_235) (fun _ h9 => h9) rfl dX1_comeTo_44 ?_
  refine va_get (D := D) (ci := 4) (v := .int (nI cc)) (C := RX4) (T := TX4) (N := 6) hx hb hts inX4 hown hK hP 7 rfl rfl 2 (by decide) (hts _ tw_179) (fun _ h9 => h9) rfl dX1_comeTo_47 ?_
  refine lv_icmp_ge (tgt := 142) hx hb dX1_comeTo_50 (by decide) (fun c_5 => ?_) (fun c_5 => ?_)
  · have c_5 := (nI_leI (a := cc) (b := cn2_4) (by omega) (by omega)).mp c_5
    have hP9 := hP.sub (ws' := [(z0, .inr (1, [.ref c0, .ref z1, .ref z2, .ref z3, .int (nI n), .int p1, .int 0, .int 0])), (z1, .inl (k 1, 4, .inl (nF d_2))), (z2, .inl (k 1, 100, .inl pco2_4)), (h0, .inr (5, [.ref h1, .ref h2, .ref h3, .ref h4])), (h1, .inl (k 1, 10, .inl (vv n see tm g))), (h3, .inl (k 1, 24, .inl fp)), (h4, .inl (k 1, 4, .inl fl)), (c0, .inr (4, [.ref c1, .ref c2, .int (nI cc), .int (nI rz), .int ro, .int sd])), (c1, .inl (k 1, 4, .inl wk)), (c2, .inl (k 1, 4, .inl (nF br)))]) [0, 1, 2, 3, 4, 5, 6, 7, 8, 9] rfl
    have hD9 := hD.sub (ws' := [(z0, .inr (1, [.ref c0, .ref z1, .ref z2, .ref z3, .int (nI n), .int p1, .int 0, .int 0])), (z1, .inl (k 1, 4, .inl (nF d_2))), (z2, .inl (k 1, 100, .inl pco2_4)), (h0, .inr (5, [.ref h1, .ref h2, .ref h3, .ref h4])), (h1, .inl (k 1, 10, .inl (vv n see tm g))), (h3, .inl (k 1, 24, .inl fp)), (h4, .inl (k 1, 4, .inl fl)), (c0, .inr (4, [.ref c1, .ref c2, .int (nI cc), .int (nI rz), .int ro, .int sd])), (c1, .inl (k 1, 4, .inl wk)), (c2, .inl (k 1, 4, .inl (nF br)))]) [0, 1, 2, 3, 4, 5, 6, 7, 8, 9] (by decide) rfl
    exact W.vret hx hb hr (fun t ht hW => ⟨⟨(d_2, pco2_4), rfl, hbb_2, by rw [ht]; exact hP9, hD9⟩, hS.F ht⟩) hS.2.2 dX1_comeTo_142
  · have c_5 : ¬ (cc ≤ cn2_4) := fun h => c_5 ((nI_leI (a := cc) (b := cn2_4) (by omega) (by omega)).mpr h)
    refine lv_iconst (v := 0) hx hb dX1_comeTo_53 (by decide) ?_
    refine lv_istore (lv' := [(4, .int 0), (3, .int (nI cn2_4)), (0, .ref z0), (1, .ref h0), (2, .int p1)]) hx hb dX1_comeTo_54 hl (by decide) rfl (fun ls hl => ?_)
    refine W_loop (σ := Nat × (Nat → Int32)) (fun (n_ : Nat) (x_ : Nat × (Nat → Int32)) (H : Heap) (locs : List Loc) (ls : Array Slot) => match x_ with | (ii_6, pco2_6) => n_ = 25 - ii_6 ∧ (ii_6 ≤ n) ∧ va_P D classes [(z0, .inr (1, [.ref c0, .ref z1, .ref z2, .ref z3, .int (nI n), .int p1, .int 0, .int 0])), (z1, .inl (k 1, 4, .inl (nF d_2))), (z2, .inl (k 1, 100, .inl pco2_6)), (h0, .inr (5, [.ref h1, .ref h2, .ref h3, .ref h4])), (h1, .inl (k 1, 10, .inl (vv n see tm g))), (h3, .inl (k 1, 24, .inl fp)), (h4, .inl (k 1, 4, .inl fl)), (c0, .inr (4, [.ref c1, .ref c2, .int (nI cc), .int (nI rz), .int ro, .int sd])), (c1, .inl (k 1, 4, .inl wk)), (c2, .inl (k 1, 4, .inl (nF br)))] H ∧ va_D A [(z0, .inr (1, [.ref c0, .ref z1, .ref z2, .ref z3, .int (nI n), .int p1, .int 0, .int 0])), (z1, .inl (k 1, 4, .inl (nF d_2))), (z2, .inl (k 1, 100, .inl pco2_6)), (h0, .inr (5, [.ref h1, .ref h2, .ref h3, .ref h4])), (h1, .inl (k 1, 10, .inl (vv n see tm g))), (h3, .inl (k 1, 24, .inl fp)), (h4, .inl (k 1, 4, .inl fl)), (c0, .inr (4, [.ref c1, .ref c2, .int (nI cc), .int (nI rz), .int ro, .int sd])), (c1, .inl (k 1, 4, .inl wk)), (c2, .inl (k 1, 4, .inl (nF br)))] ∧ va_S A s.heap H locs ∧ lv_has ls 5 [(4, .int (nI ii_6)), (3, .int (nI cn2_4)), (0, .ref z0), (1, .ref h0), (2, .int p1)]) (fun n_6 x_6 H locs ls hI ih_6 => ?_) _ (0, pco2_4) ⟨rfl, (by omega), hP, hD, hS, (lv_sub hl [0, 1, 2, 3, 4] rfl)⟩
    obtain ⟨ii_6, pco2_6⟩ := x_6
    obtain ⟨hm_6, hv_6, hP, hD, hS, hl⟩ := hI
    subst hm_6
    refine lv_iload hx hb dX1_comeTo_56 (lv_at hl 0 rfl) ?_
    refine lv_aload_n hx hb dX1_comeTo_58 rfl (lv_at hl 2 rfl) ?_
    refine va_get (D := D) (ci := 1) (v := .int (nI n)) (C := RX1) (T := TX1) (N := 8) hx hb hts inX1 hown hK hP 0 rfl rfl 4 (by decide) (hts _ tw_240) (fun _ h9 => h9) rfl dX1_comeTo_59 ?_
    refine lv_icmp_ge (tgt := 107) hx hb dX1_comeTo_62 (by decide) (fun c_7 => ?_) (fun c_7 => ?_)
    · have c_7 := (nI_leI (a := n) (b := ii_6) (by omega) (by omega)).mp c_7
      refine lv_aload_n hx hb dX1_comeTo_107 rfl (lv_at hl 2 rfl) ?_
      refine va_get (D := D) (ci := 1) (v := .ref z2) (C := RX1) (T := TX1) (N := 8) hx hb hts inX1 hown hK hP 0 rfl rfl 2 (by decide) (hts _ tw_238) (fun _ h9 => h9) rfl dX1_comeTo_108 ?_
      refine lv_iload_n hx hb dX1_comeTo_111 rfl (lv_at hl 1 rfl) ?_
      refine lv_bipush (v := 25) hx hb dX1_comeTo_112 (by decide) ?_
      refine lv_imul hx hb dX1_comeTo_114 ?_
      refine lv_ti (y := (nI (cn2_4 * 25))) (pk_mul cn2_4 25) ?_
      refine lv_aload_n hx hb dX1_comeTo_115 rfl (lv_at hl 2 rfl) ?_
      refine va_get (D := D) (ci := 1) (v := .int (nI n)) (C := RX1) (T := TX1) (N := 8) hx hb hts inX1 hown hK hP 0 rfl rfl 4 (by decide) (hts _ tw_240) (fun _ h9 => h9) rfl dX1_comeTo_116 ?_
      refine lv_iadd hx hb dX1_comeTo_119 ?_
      refine lv_ti (y := (nI (cn2_4 * 25 + n))) (nI_add (cn2_4 * 25) n) ?_
      refine lv_aload_n hx hb dX1_comeTo_120 rfl (lv_at hl 3 rfl) ?_
      refine lv_iconst (v := 0) hx hb dX1_comeTo_121 (by decide) ?_
      refine ro_i (D := D) (va_runV (As := [.int 0]) (rest := [.int (nI (cn2_4 * 25 + n)), .ref z2]) ⟨hx, hb, hml, hown, hts⟩ ((x_garageOf l D k st lo h0 h1 h2 h3 h4 n see tm g fl 0 (by omega)) H.size) (cwV 1 hts (gV tw_829 tw_521 tw_522 tw_81 tw_523) rfl rfl rfl (by decide +kernel) ⟨Nat.le_of_ble_eq_true rfl, Nat.le_of_ble_eq_true rfl⟩) (pV hS hAlo hlo hP hK (va_Dlo hD hAlo) hZ [3, 4, 6] (by decide) rfl (ci := 5) (q0 := 0) rfl rfl) rfl rfl hl.1 rfl (lv_room (Nat.le_of_ble_eq_true rfl)) dX1_comeTo_122 ⟨Nat.le_of_ble_eq_true rfl, Nat.le_of_ble_eq_true rfl⟩) hS hA hP (fun r_8 H locs hw_8 hP hS => ?_)
      try dsimp only at hw_8
      refine lv_aload_n hx hb dX1_comeTo_125 rfl (lv_at hl 2 rfl) ?_
      refine va_get (D := D) (ci := 1) (v := .int (nI n)) (C := RX1) (T := TX1) (N := 8) hx hb hts inX1 hown hK hP 0 rfl rfl 4 (by decide) (hts _ tw_240) (fun _ h9 => h9) rfl dX1_comeTo_126 ?_
      refine lv_aload_n hx hb dX1_comeTo_129 rfl (lv_at hl 3 rfl) ?_
      refine ro_i (D := D) (va_runV (As := []) (rest := [.int (nI n), .int r_8, .int (nI (cn2_4 * 25 + n)), .ref z2]) ⟨hx, hb, hml, hown, hts⟩ ((x_passing l D k st lo h0 h1 h2 h3 h4 n see tm g) H.size) (cwV 0 hts (gV tw_828 tw_573 tw_574 tw_81 tw_575) rfl rfl rfl (by decide +kernel) ⟨Nat.le_of_ble_eq_true rfl, Nat.le_of_ble_eq_true rfl⟩) (pV hS hAlo hlo hP hK (va_Dlo hD hAlo) hZ [3, 4] (by decide) rfl (ci := 5) (q0 := 0) rfl rfl) rfl rfl hl.1 rfl (lv_room (Nat.le_of_ble_eq_true rfl)) dX1_comeTo_130 ⟨Nat.le_of_ble_eq_true rfl, Nat.le_of_ble_eq_true rfl⟩) hS hA hP (fun r_9 H locs hw_9 hP hS => ?_)
      try dsimp only at hw_9
      refine lv_imul hx hb dX1_comeTo_133 ?_
      refine lv_topi (fun x_10 ex_10 => ?_)
      refine lv_iadd hx hb dX1_comeTo_134 ?_
      refine lv_topi (fun x_11 ex_11 => ?_)
      refine va_iast hx hb hK hP hD hS 2 1 rfl rfl (vp_in_nI (by omega) (by decide)) dX1_comeTo_135 (fun H locs hP hD hS => ?_)
      replace hP : va_P D classes [(z0, .inr (1, [.ref c0, .ref z1, .ref z2, .ref z3, .int (nI n), .int p1, .int 0, .int 0])), (z1, .inl (k 1, 4, .inl (nF d_2))), (z2, .inl (k 1, 100, .inl (upd pco2_6 (Int32.toNatClampNeg (nI (cn2_4 * 25 + n))) x_11))), (h0, .inr (5, [.ref h1, .ref h2, .ref h3, .ref h4])), (h1, .inl (k 1, 10, .inl (vv n see tm g))), (h3, .inl (k 1, 24, .inl fp)), (h4, .inl (k 1, 4, .inl fl)), (c0, .inr (4, [.ref c1, .ref c2, .int (nI cc), .int (nI rz), .int ro, .int sd])), (c1, .inl (k 1, 4, .inl wk)), (c2, .inl (k 1, 4, .inl (nF br)))] H := hP
      replace hD : va_D A [(z0, .inr (1, [.ref c0, .ref z1, .ref z2, .ref z3, .int (nI n), .int p1, .int 0, .int 0])), (z1, .inl (k 1, 4, .inl (nF d_2))), (z2, .inl (k 1, 100, .inl (upd pco2_6 (Int32.toNatClampNeg (nI (cn2_4 * 25 + n))) x_11))), (h0, .inr (5, [.ref h1, .ref h2, .ref h3, .ref h4])), (h1, .inl (k 1, 10, .inl (vv n see tm g))), (h3, .inl (k 1, 24, .inl fp)), (h4, .inl (k 1, 4, .inl fl)), (c0, .inr (4, [.ref c1, .ref c2, .int (nI cc), .int (nI rz), .int ro, .int sd])), (c1, .inl (k 1, 4, .inl wk)), (c2, .inl (k 1, 4, .inl (nF br)))] := hD
      generalize (upd pco2_6 (Int32.toNatClampNeg (nI (cn2_4 * 25 + n))) x_11) = f_12 at hP hD
      refine lv_iinc (v := (nI (cn2_4 + 1))) (lv' := [(3, .int (nI (cn2_4 + 1))), (4, .int (nI ii_6)), (0, .ref z0), (1, .ref h0), (2, .int p1)]) hx hb dX1_comeTo_136 hl (k := 1) rfl (nI_add cn2_4 1) (by decide) rfl (fun ls hl => ?_)
      refine lv_goto (tgt := 42) hx hb dX1_comeTo_139 (by decide) ?_
      exact ih_4 _ (cn2_4 + 1, f_12) _ _ _ (by omega) ⟨rfl, (by omega), hP, hD, hS, (lv_sub hl [0, 2, 3, 4] rfl)⟩
    · have c_7 : ¬ (n ≤ ii_6) := fun h => c_7 ((nI_leI (a := n) (b := ii_6) (by omega) (by omega)).mpr h)
      refine lv_aload_n hx hb dX1_comeTo_65 rfl (lv_at hl 2 rfl) ?_
      refine va_get (D := D) (ci := 1) (v := .ref z2) (C := RX1) (T := TX1) (N := 8) hx hb hts inX1 hown hK hP 0 rfl rfl 2 (by decide) (hts _ tw_238) (fun _ h9 => h9) rfl dX1_comeTo_66 ?_
      refine lv_iload_n hx hb dX1_comeTo_69 rfl (lv_at hl 1 rfl) ?_
      refine lv_bipush (v := 25) hx hb dX1_comeTo_70 (by decide) ?_
      refine lv_imul hx hb dX1_comeTo_72 ?_
      refine lv_ti (y := (nI (cn2_4 * 25))) (pk_mul cn2_4 25) ?_
      refine lv_iload hx hb dX1_comeTo_73 (lv_at hl 0 rfl) ?_
      refine lv_iadd hx hb dX1_comeTo_75 ?_
      refine lv_ti (y := (nI (cn2_4 * 25 + ii_6))) (nI_add (cn2_4 * 25) ii_6) ?_
      refine lv_aload_n hx hb dX1_comeTo_76 rfl (lv_at hl 3 rfl) ?_
      refine lv_aload_n hx hb dX1_comeTo_77 rfl (lv_at hl 2 rfl) ?_
      refine va_get (D := D) (ci := 1) (v := .ref c0) (C := RX1) (T := TX1) (N := 8) hx hb hts inX1 hown hK hP 0 rfl rfl 0 (by decide) (hts _ tw_235) (fun _ h9 => h9) rfl dX1_comeTo_78 ?_
      refine va_get (D := D) (ci := 4) (v := .ref c1) (C := RX4) (T := TX4) (N := 6) hx hb hts inX4 hown hK hP 7 rfl rfl 0 (by decide) (hts _ tw_174) (fun _ h9 => h9) rfl dX1_comeTo_81 ?_
      refine lv_iload_n hx hb dX1_comeTo_84 rfl (lv_at hl 1 rfl) ?_
      refine va_iald hx hb hK hP 8 1 rfl rfl (vp_in_nI (by omega) (by decide)) dX1_comeTo_85 ?_
      refine lv_ti (y := (wk cn2_4)) (by rw [nI_clamp (by omega)]) ?_
      refine lv_iconst (v := 0) hx hb dX1_comeTo_86 (by decide) ?_
      refine lv_iload hx hb dX1_comeTo_87 (lv_at hl 0 rfl) ?_
      refine ro_i (D := D) (va_runV (As := [.int (wk cn2_4), .int 0, .int (nI ii_6)]) (rest := [.int (nI (cn2_4 * 25 + ii_6)), .ref z2]) ⟨hx, hb, hml, hown, hts⟩ ((x_takingBy l D k st lo h0 h1 h2 h3 h4 n see tm g fp fl (wk cn2_4) 0 ii_6 (by omega) (by omega)) H.size) (cwV 3 hts (gV tw_827 tw_561 tw_562 tw_81 tw_563) rfl rfl rfl (by decide +kernel) ⟨Nat.le_of_ble_eq_true rfl, Nat.le_of_ble_eq_true rfl⟩) (pV hS hAlo hlo hP hK (va_Dlo hD hAlo) hZ [3, 4, 5, 6] (by decide) rfl (ci := 5) (q0 := 0) rfl rfl) rfl rfl hl.1 rfl (lv_room (Nat.le_of_ble_eq_true rfl)) dX1_comeTo_89 ⟨Nat.le_of_ble_eq_true rfl, Nat.le_of_ble_eq_true rfl⟩) hS hA hP (fun r_13 H locs hw_13 hP hS => ?_)
      try dsimp only at hw_13
      refine lv_iload hx hb dX1_comeTo_92 (lv_at hl 0 rfl) ?_
      refine lv_aload_n hx hb dX1_comeTo_94 rfl (lv_at hl 3 rfl) ?_
      refine ro_i (D := D) (va_runV (As := []) (rest := [.int (nI ii_6), .int r_13, .int (nI (cn2_4 * 25 + ii_6)), .ref z2]) ⟨hx, hb, hml, hown, hts⟩ ((x_passing l D k st lo h0 h1 h2 h3 h4 n see tm g) H.size) (cwV 0 hts (gV tw_828 tw_573 tw_574 tw_81 tw_575) rfl rfl rfl (by decide +kernel) ⟨Nat.le_of_ble_eq_true rfl, Nat.le_of_ble_eq_true rfl⟩) (pV hS hAlo hlo hP hK (va_Dlo hD hAlo) hZ [3, 4] (by decide) rfl (ci := 5) (q0 := 0) rfl rfl) rfl rfl hl.1 rfl (lv_room (Nat.le_of_ble_eq_true rfl)) dX1_comeTo_95 ⟨Nat.le_of_ble_eq_true rfl, Nat.le_of_ble_eq_true rfl⟩) hS hA hP (fun r_14 H locs hw_14 hP hS => ?_)
      try dsimp only at hw_14
      refine lv_imul hx hb dX1_comeTo_98 ?_
      refine lv_topi (fun x_15 ex_15 => ?_)
      refine lv_iadd hx hb dX1_comeTo_99 ?_
      refine lv_topi (fun x_16 ex_16 => ?_)
      refine va_iast hx hb hK hP hD hS 2 1 rfl rfl (vp_in_nI (by omega) (by decide)) dX1_comeTo_100 (fun H locs hP hD hS => ?_)
      replace hP : va_P D classes [(z0, .inr (1, [.ref c0, .ref z1, .ref z2, .ref z3, .int (nI n), .int p1, .int 0, .int 0])), (z1, .inl (k 1, 4, .inl (nF d_2))), (z2, .inl (k 1, 100, .inl (upd pco2_6 (Int32.toNatClampNeg (nI (cn2_4 * 25 + ii_6))) x_16))), (h0, .inr (5, [.ref h1, .ref h2, .ref h3, .ref h4])), (h1, .inl (k 1, 10, .inl (vv n see tm g))), (h3, .inl (k 1, 24, .inl fp)), (h4, .inl (k 1, 4, .inl fl)), (c0, .inr (4, [.ref c1, .ref c2, .int (nI cc), .int (nI rz), .int ro, .int sd])), (c1, .inl (k 1, 4, .inl wk)), (c2, .inl (k 1, 4, .inl (nF br)))] H := hP
      replace hD : va_D A [(z0, .inr (1, [.ref c0, .ref z1, .ref z2, .ref z3, .int (nI n), .int p1, .int 0, .int 0])), (z1, .inl (k 1, 4, .inl (nF d_2))), (z2, .inl (k 1, 100, .inl (upd pco2_6 (Int32.toNatClampNeg (nI (cn2_4 * 25 + ii_6))) x_16))), (h0, .inr (5, [.ref h1, .ref h2, .ref h3, .ref h4])), (h1, .inl (k 1, 10, .inl (vv n see tm g))), (h3, .inl (k 1, 24, .inl fp)), (h4, .inl (k 1, 4, .inl fl)), (c0, .inr (4, [.ref c1, .ref c2, .int (nI cc), .int (nI rz), .int ro, .int sd])), (c1, .inl (k 1, 4, .inl wk)), (c2, .inl (k 1, 4, .inl (nF br)))] := hD
      generalize (upd pco2_6 (Int32.toNatClampNeg (nI (cn2_4 * 25 + ii_6))) x_16) = f_17 at hP hD
      refine lv_iinc (v := (nI (ii_6 + 1))) (lv' := [(4, .int (nI (ii_6 + 1))), (3, .int (nI cn2_4)), (0, .ref z0), (1, .ref h0), (2, .int p1)]) hx hb dX1_comeTo_101 hl (k := 0) rfl (nI_add ii_6 1) (by decide) rfl (fun ls hl => ?_)
      refine lv_goto (tgt := 56) hx hb dX1_comeTo_104 (by decide) ?_
      exact ih_6 _ (ii_6 + 1, f_17) _ _ _ (by omega) ⟨rfl, (by omega), hP, hD, hS, (lv_sub hl [0, 1, 2, 3, 4] rfl)⟩


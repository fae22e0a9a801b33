theorem x_glue6 : True := trivial
theorem an16 : ∀ s, s < 16 → ∀ c, c < 4 → ∃ z : Nat, z ≤ s ∧ nI s &&& (((1 : Int32) <<< (nI c &&& 31)) ^^^ (-1)) = nI z := by
  have h : ∀ s, s < 16 → ∀ c, c < 4 → s &&& (15 - 2 ^ c) ≤ s ∧ nI s &&& (((1 : Int32) <<< (nI c &&& 31)) ^^^ (-1)) = nI (s &&& (15 - 2 ^ c)) := by decide +kernel
  intro s hs c hc
  exact ⟨_, (h s hs c hc).1, (h s hs c hc).2⟩

theorem dX1_comeTo_0 : decode cX1_comeTo 0 = .ok (.aload_n 0, 1) := by decide +kernel
theorem dX1_comeTo_1 : decode cX1_comeTo 1 = .ok (.aload_n 1, 1) := by decide +kernel
theorem dX1_comeTo_2 : decode cX1_comeTo 2 = .ok (.invokevirtual 38, 3) := by decide +kernel
theorem dX1_comeTo_5 : decode cX1_comeTo 5 = .ok (.putfield 21, 3) := by decide +kernel
theorem dX1_comeTo_8 : decode cX1_comeTo 8 = .ok (.aload_n 0, 1) := by decide +kernel
theorem dX1_comeTo_9 : decode cX1_comeTo 9 = .ok (.iload_n 2, 1) := by decide +kernel
theorem dX1_comeTo_10 : decode cX1_comeTo 10 = .ok (.putfield 25, 3) := by decide +kernel
theorem dX1_comeTo_13 : decode cX1_comeTo 13 = .ok (.aload_n 0, 1) := by decide +kernel
theorem dX1_comeTo_14 : decode cX1_comeTo 14 = .ok (.iconst 0, 1) := by decide +kernel
theorem dX1_comeTo_15 : decode cX1_comeTo 15 = .ok (.putfield 28, 3) := by decide +kernel
theorem dX1_comeTo_18 : decode cX1_comeTo 18 = .ok (.aload_n 0, 1) := by decide +kernel
theorem dX1_comeTo_19 : decode cX1_comeTo 19 = .ok (.iconst 0, 1) := by decide +kernel
theorem dX1_comeTo_20 : decode cX1_comeTo 20 = .ok (.putfield 31, 3) := by decide +kernel
theorem dX1_comeTo_23 : decode cX1_comeTo 23 = .ok (.aload_n 0, 1) := by decide +kernel
theorem dX1_comeTo_24 : decode cX1_comeTo 24 = .ok (.getfield 34, 3) := by decide +kernel
theorem dX1_comeTo_27 : decode cX1_comeTo 27 = .ok (.getfield 44, 3) := by decide +kernel
theorem dX1_comeTo_30 : decode cX1_comeTo 30 = .ok (.iconst 0, 1) := by decide +kernel
theorem dX1_comeTo_31 : decode cX1_comeTo 31 = .ok (.aload_n 0, 1) := by decide +kernel
theorem dX1_comeTo_32 : decode cX1_comeTo 32 = .ok (.getfield 9, 3) := by decide +kernel
theorem dX1_comeTo_35 : decode cX1_comeTo 35 = .ok (.iconst 0, 1) := by decide +kernel
theorem dX1_comeTo_36 : decode cX1_comeTo 36 = .ok (.iconst 4, 1) := by decide +kernel
theorem dX1_comeTo_37 : decode cX1_comeTo 37 = .ok (.invokestatic 47, 3) := by decide +kernel
theorem dX1_comeTo_40 : decode cX1_comeTo 40 = .ok (.iconst 0, 1) := by decide +kernel
theorem dX1_comeTo_41 : decode cX1_comeTo 41 = .ok (.istore_n 3, 1) := by decide +kernel
theorem dX1_comeTo_42 : decode cX1_comeTo 42 = .ok (.iload_n 3, 1) := by decide +kernel
theorem dX1_comeTo_43 : decode cX1_comeTo 43 = .ok (.aload_n 0, 1) := by decide +kernel
theorem dX1_comeTo_44 : decode cX1_comeTo 44 = .ok (.getfield 34, 3) := by decide +kernel
theorem dX1_comeTo_47 : decode cX1_comeTo 47 = .ok (.getfield 53, 3) := by decide +kernel
theorem dX1_comeTo_50 : decode cX1_comeTo 50 = .ok (.if_icmp .ge 92, 3) := by decide +kernel
theorem dX1_comeTo_53 : decode cX1_comeTo 53 = .ok (.iconst 0, 1) := by decide +kernel
theorem dX1_comeTo_54 : decode cX1_comeTo 54 = .ok (.istore 4, 2) := by decide +kernel
theorem dX1_comeTo_56 : decode cX1_comeTo 56 = .ok (.iload 4, 2) := by decide +kernel
theorem dX1_comeTo_58 : decode cX1_comeTo 58 = .ok (.aload_n 0, 1) := by decide +kernel
theorem dX1_comeTo_59 : decode cX1_comeTo 59 = .ok (.getfield 21, 3) := by decide +kernel
theorem dX1_comeTo_62 : decode cX1_comeTo 62 = .ok (.if_icmp .ge 45, 3) := by decide +kernel
theorem dX1_comeTo_65 : decode cX1_comeTo 65 = .ok (.aload_n 0, 1) := by decide +kernel
theorem dX1_comeTo_66 : decode cX1_comeTo 66 = .ok (.getfield 15, 3) := by decide +kernel
theorem dX1_comeTo_69 : decode cX1_comeTo 69 = .ok (.iload_n 3, 1) := by decide +kernel
theorem dX1_comeTo_70 : decode cX1_comeTo 70 = .ok (.bipush 25, 2) := by decide +kernel
theorem dX1_comeTo_72 : decode cX1_comeTo 72 = .ok (.imul, 1) := by decide +kernel
theorem dX1_comeTo_73 : decode cX1_comeTo 73 = .ok (.iload 4, 2) := by decide +kernel
theorem dX1_comeTo_75 : decode cX1_comeTo 75 = .ok (.iadd, 1) := by decide +kernel
theorem dX1_comeTo_76 : decode cX1_comeTo 76 = .ok (.aload_n 1, 1) := by decide +kernel
theorem dX1_comeTo_77 : decode cX1_comeTo 77 = .ok (.aload_n 0, 1) := by decide +kernel
theorem dX1_comeTo_78 : decode cX1_comeTo 78 = .ok (.getfield 34, 3) := by decide +kernel
theorem dX1_comeTo_81 : decode cX1_comeTo 81 = .ok (.getfield 56, 3) := by decide +kernel
theorem dX1_comeTo_84 : decode cX1_comeTo 84 = .ok (.iload_n 3, 1) := by decide +kernel
theorem dX1_comeTo_85 : decode cX1_comeTo 85 = .ok (.iaload, 1) := by decide +kernel
theorem dX1_comeTo_86 : decode cX1_comeTo 86 = .ok (.iconst 0, 1) := by decide +kernel
theorem dX1_comeTo_87 : decode cX1_comeTo 87 = .ok (.iload 4, 2) := by decide +kernel
theorem dX1_comeTo_89 : decode cX1_comeTo 89 = .ok (.invokevirtual 59, 3) := by decide +kernel
theorem dX1_comeTo_92 : decode cX1_comeTo 92 = .ok (.iload 4, 2) := by decide +kernel
theorem dX1_comeTo_94 : decode cX1_comeTo 94 = .ok (.aload_n 1, 1) := by decide +kernel
theorem dX1_comeTo_95 : decode cX1_comeTo 95 = .ok (.invokevirtual 63, 3) := by decide +kernel
theorem dX1_comeTo_98 : decode cX1_comeTo 98 = .ok (.imul, 1) := by decide +kernel
theorem dX1_comeTo_99 : decode cX1_comeTo 99 = .ok (.iadd, 1) := by decide +kernel
theorem dX1_comeTo_100 : decode cX1_comeTo 100 = .ok (.iastore, 1) := by decide +kernel
theorem dX1_comeTo_101 : decode cX1_comeTo 101 = .ok (.iinc 4 1, 3) := by decide +kernel
theorem dX1_comeTo_104 : decode cX1_comeTo 104 = .ok (.goto (-48), 3) := by decide +kernel
theorem dX1_comeTo_107 : decode cX1_comeTo 107 = .ok (.aload_n 0, 1) := by decide +kernel
theorem dX1_comeTo_108 : decode cX1_comeTo 108 = .ok (.getfield 15, 3) := by decide +kernel
theorem dX1_comeTo_111 : decode cX1_comeTo 111 = .ok (.iload_n 3, 1) := by decide +kernel
theorem dX1_comeTo_112 : decode cX1_comeTo 112 = .ok (.bipush 25, 2) := by decide +kernel
theorem dX1_comeTo_114 : decode cX1_comeTo 114 = .ok (.imul, 1) := by decide +kernel
theorem dX1_comeTo_115 : decode cX1_comeTo 115 = .ok (.aload_n 0, 1) := by decide +kernel
theorem dX1_comeTo_116 : decode cX1_comeTo 116 = .ok (.getfield 21, 3) := by decide +kernel
theorem dX1_comeTo_119 : decode cX1_comeTo 119 = .ok (.iadd, 1) := by decide +kernel
theorem dX1_comeTo_120 : decode cX1_comeTo 120 = .ok (.aload_n 1, 1) := by decide +kernel
theorem dX1_comeTo_121 : decode cX1_comeTo 121 = .ok (.iconst 0, 1) := by decide +kernel
theorem dX1_comeTo_122 : decode cX1_comeTo 122 = .ok (.invokevirtual 66, 3) := by decide +kernel
theorem dX1_comeTo_125 : decode cX1_comeTo 125 = .ok (.aload_n 0, 1) := by decide +kernel
theorem dX1_comeTo_126 : decode cX1_comeTo 126 = .ok (.getfield 21, 3) := by decide +kernel
theorem dX1_comeTo_129 : decode cX1_comeTo 129 = .ok (.aload_n 1, 1) := by decide +kernel
theorem dX1_comeTo_130 : decode cX1_comeTo 130 = .ok (.invokevirtual 63, 3) := by decide +kernel
theorem dX1_comeTo_133 : decode cX1_comeTo 133 = .ok (.imul, 1) := by decide +kernel
theorem dX1_comeTo_134 : decode cX1_comeTo 134 = .ok (.iadd, 1) := by decide +kernel
theorem dX1_comeTo_135 : decode cX1_comeTo 135 = .ok (.iastore, 1) := by decide +kernel
theorem dX1_comeTo_136 : decode cX1_comeTo 136 = .ok (.iinc 3 1, 3) := by decide +kernel
theorem dX1_comeTo_139 : decode cX1_comeTo 139 = .ok (.goto (-97), 3) := by decide +kernel
theorem dX1_comeTo_142 : decode cX1_comeTo 142 = .ok (.return_, 1) := by decide +kernel
set_option maxHeartbeats 4000000 in
set_option maxRecDepth 100000 in
theorem x_comeTo (l : Launch) (D : va_G) (k : Nat → ClassId) (st : Nat → Nat) (lo : Nat) (c0 : Nat) (z0 : Nat) (z1 : Nat) (z2 : Nat) (z3 : Nat) (pn : Int32) (pf : Int32) (pd : Int32) (pe : Int32) (pb : Nat → Nat) (pco : Nat → Int32) (h0 : Nat) (h1 : Nat) (h2 : Nat) (h3 : Nat) (h4 : Nat) (n : Nat) (see : Nat) (tm : Nat) (g : Nat → Int32) (fp : Nat → Int32) (fl : Nat → Int32) (c1 : Nat) (c2 : Nat) (cc : Nat) (rz : Nat) (ro : Int32) (sd : Int32) (wk : Nat → Int32) (br : Nat → Nat) (p1 : Int32) (hn : n ≤ 24) (hcc : cc ≤ 4) (hbr : ∀ j, br j ≤ 24) (hpb : ∀ j, pb j ≤ 24) : CWv l D k st lo yX1_comeTo cX1_comeTo 5 none ({ frames := 1, cells := 0, slots := 0, locals := 60 }) 0 0 [.ref z0, .ref h0, .int p1] [(z0, .inr (1, (fX1 c0 z1 z2 z3 pn pf pd pe))), (aI k z1 4 (nF pb)), (aI k z2 100 pco), (h0, .inr (5, (fX5 h1 h2 h3 h4))), (aI k h1 10 (vv n see tm g)), (aI k h3 24 fp), (aI k h4 4 fl), (c0, .inr (4, (fX4 c1 c2 (nI cc) (nI rz) ro sd))), (aI k c1 4 wk), (aI k c2 4 (nF br))] (fun (u : (Nat → Nat) × (Nat → Int32)) => match u with | (pb_, pco_) => ∀ j, pb_ j ≤ 24) (fun (u : (Nat → Nat) × (Nat → Int32)) => match u with | (pb_, pco_) => [(z0, .inr (1, (fX1 c0 z1 z2 z3 (nI n) p1 0 0))), (aI k z1 4 (nF pb_)), (aI k z2 100 pco_), (h0, .inr (5, (fX5 h1 h2 h3 h4))), (aI k h1 10 (vv n see tm g)), (aI k h3 24 fp), (aI k h4 4 fl), (c0, .inr (4, (fX4 c1 c2 (nI cc) (nI rz) ro sd))), (aI k c1 4 wk), (aI k c2 4 (nF br))]) := by
  intro sz
  refine Met.ofW (cc := cX1_comeTo) (maxL := 5) (ret := none) (by decide) rfl ?_
  intro p e s m args below meth c s₁ B hml hv
  obtain ⟨rfl, hsz, hlo, hP, hK, hDL, hZ⟩ := hv
  have hx := B.exec
  have hb := B.bytes
  have hr := B.returns
  have hts := WS_ts B.pre
  have hown : s.vm.findClass RX1 = some m.cls := findClass_of_methodNamed B.named
  have hlocks := B.notSynchronized
  subst hsz
  have hD := hDL.self (sz := s.heap.size)
  have hAlo := A_lo hDL hlo
  generalize hAe : va_A [(z0, .inr (1, (fX1 c0 z1 z2 z3 pn pf pd pe))), (aI k z1 4 (nF pb)), (aI k z2 100 pco), (h0, .inr (5, (fX5 h1 h2 h3 h4))), (aI k h1 10 (vv n see tm g)), (aI k h3 24 fp), (aI k h4 4 fl), (c0, .inr (4, (fX4 c1 c2 (nI cc) (nI rz) ro sd))), (aI k c1 4 wk), (aI k c2 4 (nF br))] s.heap.size = A at hD hAlo ⊢
  have hA : ∀ q : Nat, s.heap.size ≤ q → A q := fun q h => by rw [← hAe]; exact Or.inr h
  have hS : va_S A s.heap s.heap [] := va_S.rf
  have hl := lv_entry ([.ref z0, .ref h0, .int p1]) (n := 5) (Nat.le_of_ble_eq_true rfl)
  rw [lg_entry_eq]
  generalize (lg_sl ([.ref z0, .ref h0, .int p1]) ++ List.replicate (5 - (lg_sl ([.ref z0, .ref h0, .int p1])).length) Slot.unset).toArray = ls at hl ⊢
  have hl : lv_has ls 5 [(0, .ref z0), (1, .ref h0), (2, .int p1)] := hl
  refine lv_aload_n hx hb dX1_comeTo_0 rfl (lv_at hl 0 rfl) ?_
  refine lv_aload_n hx hb dX1_comeTo_1 rfl (lv_at hl 1 rfl) ?_
  refine ro_i (D := D) (va_runV (As := []) (rest := [.ref z0]) ⟨hx, hb, hml, hown, hts⟩ ((x_doors l D k st lo h0 h1 h2 h3 h4 n see tm g) s.heap.size) (cwV 0 hts (gV tw_825 tw_478 tw_479 tw_81 tw_480) rfl rfl rfl (by decide +kernel) ⟨Nat.le_of_ble_eq_true rfl, Nat.le_of_ble_eq_true rfl⟩) (pV hS hAlo hlo hP hK (va_Dlo hD hAlo) hZ [3, 4] (by decide) rfl (ci := 5) (q := (RX5, TX5, 4)) (q0 := 0) rfl rfl) rfl rfl hl.1 rfl (lv_room (Nat.le_of_ble_eq_true rfl)) dX1_comeTo_2 ⟨Nat.le_of_ble_eq_true rfl, Nat.le_of_ble_eq_true rfl⟩) hS hA hP (fun r_1 H locs hw_1 hP hS => ?_)
  try dsimp only at hw_1
  subst hw_1
  refine va_put (D := D) (ci := 1) (v := .int (nI n)) (ty := .int) (C := RX1) (T := TX1) (N := 8) hx hb hts inX1 tyX1 tyX1_ok nmX1 hown hK hP hD hS 0 rfl rfl 4 (by decide) (hts _ tw_240) (fun _ h9 => h9) rfl (by decide +kernel) rfl rfl (Nat.le_of_ble_eq_true rfl) dX1_comeTo_5 (fun H locs hP hD hS => ?_)
  replace hP : va_P D classes [(z0, .inr (1, (fX1 c0 z1 z2 z3 (nI n) pf pd pe))), (aI k z1 4 (nF pb)), (aI k z2 100 pco), (h0, .inr (5, (fX5 h1 h2 h3 h4))), (aI k h1 10 (vv n see tm g)), (aI k h3 24 fp), (aI k h4 4 fl), (c0, .inr (4, (fX4 c1 c2 (nI cc) (nI rz) ro sd))), (aI k c1 4 wk), (aI k c2 4 (nF br))] H := hP
  replace hD : va_D A [(z0, .inr (1, (fX1 c0 z1 z2 z3 (nI n) pf pd pe))), (aI k z1 4 (nF pb)), (aI k z2 100 pco), (h0, .inr (5, (fX5 h1 h2 h3 h4))), (aI k h1 10 (vv n see tm g)), (aI k h3 24 fp), (aI k h4 4 fl), (c0, .inr (4, (fX4 c1 c2 (nI cc) (nI rz) ro sd))), (aI k c1 4 wk), (aI k c2 4 (nF br))] := hD
  refine lv_aload_n hx hb dX1_comeTo_8 rfl (lv_at hl 0 rfl) ?_
  refine lv_iload_n hx hb dX1_comeTo_9 rfl (lv_at hl 2 rfl) ?_
  refine va_put (D := D) (ci := 1) (v := .int p1) (ty := .int) (C := RX1) (T := TX1) (N := 8) hx hb hts inX1 tyX1 tyX1_ok nmX1 hown hK hP hD hS 0 rfl rfl 5 (by decide) (hts _ tw_241) (fun _ h9 => h9) rfl (by decide +kernel) rfl rfl (Nat.le_of_ble_eq_true rfl) dX1_comeTo_10 (fun H locs hP hD hS => ?_)
  replace hP : va_P D classes [(z0, .inr (1, (fX1 c0 z1 z2 z3 (nI n) p1 pd pe))), (aI k z1 4 (nF pb)), (aI k z2 100 pco), (h0, .inr (5, (fX5 h1 h2 h3 h4))), (aI k h1 10 (vv n see tm g)), (aI k h3 24 fp), (aI k h4 4 fl), (c0, .inr (4, (fX4 c1 c2 (nI cc) (nI rz) ro sd))), (aI k c1 4 wk), (aI k c2 4 (nF br))] H := hP
  replace hD : va_D A [(z0, .inr (1, (fX1 c0 z1 z2 z3 (nI n) p1 pd pe))), (aI k z1 4 (nF pb)), (aI k z2 100 pco), (h0, .inr (5, (fX5 h1 h2 h3 h4))), (aI k h1 10 (vv n see tm g)), (aI k h3 24 fp), (aI k h4 4 fl), (c0, .inr (4, (fX4 c1 c2 (nI cc) (nI rz) ro sd))), (aI k c1 4 wk), (aI k c2 4 (nF br))] := hD
  refine lv_aload_n hx hb dX1_comeTo_13 rfl (lv_at hl 0 rfl) ?_
  refine lv_iconst (v := 0) hx hb dX1_comeTo_14 (by decide) ?_
  refine va_put (D := D) (ci := 1) (v := .int 0) (ty := .int) (C := RX1) (T := TX1) (N := 8) hx hb hts inX1 tyX1 tyX1_ok nmX1 hown hK hP hD hS 0 rfl rfl 6 (by decide) (hts _ tw_242) (fun _ h9 => h9) rfl (by decide +kernel) rfl rfl (Nat.le_of_ble_eq_true rfl) dX1_comeTo_15 (fun H locs hP hD hS => ?_)
  replace hP : va_P D classes [(z0, .inr (1, (fX1 c0 z1 z2 z3 (nI n) p1 0 pe))), (aI k z1 4 (nF pb)), (aI k z2 100 pco), (h0, .inr (5, (fX5 h1 h2 h3 h4))), (aI k h1 10 (vv n see tm g)), (aI k h3 24 fp), (aI k h4 4 fl), (c0, .inr (4, (fX4 c1 c2 (nI cc) (nI rz) ro sd))), (aI k c1 4 wk), (aI k c2 4 (nF br))] H := hP
  replace hD : va_D A [(z0, .inr (1, (fX1 c0 z1 z2 z3 (nI n) p1 0 pe))), (aI k z1 4 (nF pb)), (aI k z2 100 pco), (h0, .inr (5, (fX5 h1 h2 h3 h4))), (aI k h1 10 (vv n see tm g)), (aI k h3 24 fp), (aI k h4 4 fl), (c0, .inr (4, (fX4 c1 c2 (nI cc) (nI rz) ro sd))), (aI k c1 4 wk), (aI k c2 4 (nF br))] := hD
  refine lv_aload_n hx hb dX1_comeTo_18 rfl (lv_at hl 0 rfl) ?_
  refine lv_iconst (v := 0) hx hb dX1_comeTo_19 (by decide) ?_
  refine va_put (D := D) (ci := 1) (v := .int 0) (ty := .int) (C := RX1) (T := TX1) (N := 8) hx hb hts inX1 tyX1 tyX1_ok nmX1 hown hK hP hD hS 0 rfl rfl 7 (by decide) (hts _ tw_243) (fun _ h9 => h9) rfl (by decide +kernel) rfl rfl (Nat.le_of_ble_eq_true rfl) dX1_comeTo_20 (fun H locs hP hD hS => ?_)
  replace hP : va_P D classes [(z0, .inr (1, (fX1 c0 z1 z2 z3 (nI n) p1 0 0))), (aI k z1 4 (nF pb)), (aI k z2 100 pco), (h0, .inr (5, (fX5 h1 h2 h3 h4))), (aI k h1 10 (vv n see tm g)), (aI k h3 24 fp), (aI k h4 4 fl), (c0, .inr (4, (fX4 c1 c2 (nI cc) (nI rz) ro sd))), (aI k c1 4 wk), (aI k c2 4 (nF br))] H := hP
  replace hD : va_D A [(z0, .inr (1, (fX1 c0 z1 z2 z3 (nI n) p1 0 0))), (aI k z1 4 (nF pb)), (aI k z2 100 pco), (h0, .inr (5, (fX5 h1 h2 h3 h4))), (aI k h1 10 (vv n see tm g)), (aI k h3 24 fp), (aI k h4 4 fl), (c0, .inr (4, (fX4 c1 c2 (nI cc) (nI rz) ro sd))), (aI k c1 4 wk), (aI k c2 4 (nF br))] := hD
  refine lv_aload_n hx hb dX1_comeTo_23 rfl (lv_at hl 0 rfl) ?_
  refine va_get (D := D) (ci := 1) (v := .ref c0) (C := RX1) (T := TX1) (N := 8) hx hb hts inX1 hown hK hP 0 rfl rfl 0 (by decide) (hts _ tw_235) (fun _ h9 => h9) rfl dX1_comeTo_24 ?_
  refine va_get (D := D) (ci := 4) (v := .ref c2) (C := RX4) (T := TX4) (N := 6) hx hb hts inX4 hown hK hP 7 rfl rfl 1 (by decide) (hts _ tw_176) (fun _ h9 => h9) rfl dX1_comeTo_27 ?_
  refine lv_iconst (v := 0) hx hb dX1_comeTo_30 (by decide) ?_
  refine lv_aload_n hx hb dX1_comeTo_31 rfl (lv_at hl 0 rfl) ?_
  refine va_get (D := D) (ci := 1) (v := .ref z1) (C := RX1) (T := TX1) (N := 8) hx hb hts inX1 hown hK hP 0 rfl rfl 1 (by decide) (hts _ tw_236) (fun _ h9 => h9) rfl dX1_comeTo_32 ?_
  refine lv_iconst (v := 0) hx hb dX1_comeTo_35 (by decide) ?_
  refine lv_iconst (v := 4) hx hb dX1_comeTo_36 (by decide) ?_
  refine va_copyi hx hb (by rw [hml]; exact hl.1.symm) hown (hts _ tw_826) (hts _ tw_366) (hts _ tw_365) (hts _ tw_88) hK hP hD hS 9 1 1 1 rfl rfl rfl rfl rfl (by decide) (by decide) (by decide) (by decide) (by decide) (fun _ _ => rfl) (Nat.le_of_ble_eq_true rfl) (Nat.le_of_ble_eq_true rfl) dX1_comeTo_37 (fun H locs hP hD hS => ?_)
  replace hP : va_P D classes [(z0, .inr (1, (fX1 c0 z1 z2 z3 (nI n) p1 0 0))), (aI k z1 4 (va_cpy (nF br) (nF pb) 0 0 4)), (aI k z2 100 pco), (h0, .inr (5, (fX5 h1 h2 h3 h4))), (aI k h1 10 (vv n see tm g)), (aI k h3 24 fp), (aI k h4 4 fl), (c0, .inr (4, (fX4 c1 c2 (nI cc) (nI rz) ro sd))), (aI k c1 4 wk), (aI k c2 4 (nF br))] H := hP
  replace hD : va_D A [(z0, .inr (1, (fX1 c0 z1 z2 z3 (nI n) p1 0 0))), (aI k z1 4 (va_cpy (nF br) (nF pb) 0 0 4)), (aI k z2 100 pco), (h0, .inr (5, (fX5 h1 h2 h3 h4))), (aI k h1 10 (vv n see tm g)), (aI k h3 24 fp), (aI k h4 4 fl), (c0, .inr (4, (fX4 c1 c2 (nI cc) (nI rz) ro sd))), (aI k c1 4 wk), (aI k c2 4 (nF br))] := hD
  obtain ⟨d_2, hd_2, hbb_2⟩ := nF_cpy hbr hpb
  rw [show va_cpy (nF br) (nF pb) 0 0 4 = nF d_2 from hd_2] at hP hD
  replace hP : va_P D classes [(z0, .inr (1, (fX1 c0 z1 z2 z3 (nI n) p1 0 0))), (aI k z1 4 (nF d_2)), (aI k z2 100 pco), (h0, .inr (5, (fX5 h1 h2 h3 h4))), (aI k h1 10 (vv n see tm g)), (aI k h3 24 fp), (aI k h4 4 fl), (c0, .inr (4, (fX4 c1 c2 (nI cc) (nI rz) ro sd))), (aI k c1 4 wk), (aI k c2 4 (nF br))] H := hP
  replace hD : va_D A [(z0, .inr (1, (fX1 c0 z1 z2 z3 (nI n) p1 0 0))), (aI k z1 4 (nF d_2)), (aI k z2 100 pco), (h0, .inr (5, (fX5 h1 h2 h3 h4))), (aI k h1 10 (vv n see tm g)), (aI k h3 24 fp), (aI k h4 4 fl), (c0, .inr (4, (fX4 c1 c2 (nI cc) (nI rz) ro sd))), (aI k c1 4 wk), (aI k c2 4 (nF br))] := hD
  refine lv_iconst (v := 0) hx hb dX1_comeTo_40 (by decide) ?_
  refine lv_istore_n (lv' := [(3, .int 0), (0, .ref z0), (1, .ref h0), (2, .int p1)]) hx hb dX1_comeTo_41 rfl hl (by decide) rfl (fun ls hl => ?_)
  refine W_loop (σ := Nat × (Nat → Int32)) (fun (n_ : Nat) (x_ : Nat × (Nat → Int32)) (H : Heap) (locs : List Loc) (ls : Array Slot) => match x_ with | (cn2_4, pco2_4) => n_ = 5 - cn2_4 ∧ (cn2_4 ≤ 4) ∧ va_P D classes [(z0, .inr (1, (fX1 c0 z1 z2 z3 (nI n) p1 0 0))), (aI k z1 4 (nF d_2)), (aI k z2 100 pco2_4), (h0, .inr (5, (fX5 h1 h2 h3 h4))), (aI k h1 10 (vv n see tm g)), (aI k h3 24 fp), (aI k h4 4 fl), (c0, .inr (4, (fX4 c1 c2 (nI cc) (nI rz) ro sd))), (aI k c1 4 wk), (aI k c2 4 (nF br))] H ∧ va_D A [(z0, .inr (1, (fX1 c0 z1 z2 z3 (nI n) p1 0 0))), (aI k z1 4 (nF d_2)), (aI k z2 100 pco2_4), (h0, .inr (5, (fX5 h1 h2 h3 h4))), (aI k h1 10 (vv n see tm g)), (aI k h3 24 fp), (aI k h4 4 fl), (c0, .inr (4, (fX4 c1 c2 (nI cc) (nI rz) ro sd))), (aI k c1 4 wk), (aI k c2 4 (nF br))] ∧ va_S A s.heap H locs ∧ lv_has ls 5 [(3, .int (nI cn2_4)), (0, .ref z0), (1, .ref h0), (2, .int p1)]) (fun n_4 x_4 H locs ls hI ih_4 => ?_) _ (0, pco) ⟨rfl, (by omega), hP, hD, hS, (lv_sub hl [0, 1, 2, 3] rfl)⟩
  obtain ⟨cn2_4, pco2_4⟩ := x_4
  obtain ⟨hm_4, hv_4, hP, hD, hS, hl⟩ := hI
  subst hm_4
  refine lv_iload_n hx hb dX1_comeTo_42 rfl (lv_at hl 0 rfl) ?_
  refine lv_aload_n hx hb dX1_comeTo_43 rfl (lv_at hl 1 rfl) ?_
  refine va_get (D := D) (ci := 1) (v := .ref c0) (C := RX1) (T := TX1) (N := 8) hx hb hts inX1 hown hK hP 0 rfl rfl 0 (by decide) (hts _ tw_235) (fun _ h9 => h9) rfl dX1_comeTo_44 ?_
  refine va_get (D := D) (ci := 4) (v := .int (nI cc)) (C := RX4) (T := TX4) (N := 6) hx hb hts inX4 hown hK hP 7 rfl rfl 2 (by decide) (hts _ tw_179) (fun _ h9 => h9) rfl dX1_comeTo_47 ?_
  refine lv_icmp_ge (tgt := 142) hx hb dX1_comeTo_50 (by decide) (fun c_5 => ?_) (fun c_5 => ?_)
  · have c_5 := (nI_leI (a := cc) (b := cn2_4) (by omega) (by omega)).mp c_5
    have hP9 := hP.sub (ws' := [(z0, .inr (1, (fX1 c0 z1 z2 z3 (nI n) p1 0 0))), (aI k z1 4 (nF d_2)), (aI k z2 100 pco2_4), (h0, .inr (5, (fX5 h1 h2 h3 h4))), (aI k h1 10 (vv n see tm g)), (aI k h3 24 fp), (aI k h4 4 fl), (c0, .inr (4, (fX4 c1 c2 (nI cc) (nI rz) ro sd))), (aI k c1 4 wk), (aI k c2 4 (nF br))]) [0, 1, 2, 3, 4, 5, 6, 7, 8, 9] rfl
    have hD9 := hD.sub (ws' := [(z0, .inr (1, (fX1 c0 z1 z2 z3 (nI n) p1 0 0))), (aI k z1 4 (nF d_2)), (aI k z2 100 pco2_4), (h0, .inr (5, (fX5 h1 h2 h3 h4))), (aI k h1 10 (vv n see tm g)), (aI k h3 24 fp), (aI k h4 4 fl), (c0, .inr (4, (fX4 c1 c2 (nI cc) (nI rz) ro sd))), (aI k c1 4 wk), (aI k c2 4 (nF br))]) [0, 1, 2, 3, 4, 5, 6, 7, 8, 9] (by decide +kernel) rfl
    exact W.vret hx hb hr (fun t ht hW => ⟨⟨(d_2, pco2_4), rfl, hbb_2, by rw [ht]; exact hP9, hD9⟩, hS.F ht⟩) hS.2.2 dX1_comeTo_142
  · have c_5 : ¬ (cc ≤ cn2_4) := fun h => c_5 ((nI_leI (a := cc) (b := cn2_4) (by omega) (by omega)).mpr h)
    refine lv_iconst (v := 0) hx hb dX1_comeTo_53 (by decide) ?_
    refine lv_istore (lv' := [(4, .int 0), (3, .int (nI cn2_4)), (0, .ref z0), (1, .ref h0), (2, .int p1)]) hx hb dX1_comeTo_54 hl (by decide) rfl (fun ls hl => ?_)
    refine W_loop (σ := Nat × (Nat → Int32)) (fun (n_ : Nat) (x_ : Nat × (Nat → Int32)) (H : Heap) (locs : List Loc) (ls : Array Slot) => match x_ with | (ii_6, pco2_6) => n_ = 25 - ii_6 ∧ (ii_6 ≤ n) ∧ va_P D classes [(z0, .inr (1, (fX1 c0 z1 z2 z3 (nI n) p1 0 0))), (aI k z1 4 (nF d_2)), (aI k z2 100 pco2_6), (h0, .inr (5, (fX5 h1 h2 h3 h4))), (aI k h1 10 (vv n see tm g)), (aI k h3 24 fp), (aI k h4 4 fl), (c0, .inr (4, (fX4 c1 c2 (nI cc) (nI rz) ro sd))), (aI k c1 4 wk), (aI k c2 4 (nF br))] H ∧ va_D A [(z0, .inr (1, (fX1 c0 z1 z2 z3 (nI n) p1 0 0))), (aI k z1 4 (nF d_2)), (aI k z2 100 pco2_6), (h0, .inr (5, (fX5 h1 h2 h3 h4))), (aI k h1 10 (vv n see tm g)), (aI k h3 24 fp), (aI k h4 4 fl), (c0, .inr (4, (fX4 c1 c2 (nI cc) (nI rz) ro sd))), (aI k c1 4 wk), (aI k c2 4 (nF br))] ∧ va_S A s.heap H locs ∧ lv_has ls 5 [(4, .int (nI ii_6)), (3, .int (nI cn2_4)), (0, .ref z0), (1, .ref h0), (2, .int p1)]) (fun n_6 x_6 H locs ls hI ih_6 => ?_) _ (0, pco2_4) ⟨rfl, (by omega), hP, hD, hS, (lv_sub hl [0, 1, 2, 3, 4] rfl)⟩
    obtain ⟨ii_6, pco2_6⟩ := x_6
    obtain ⟨hm_6, hv_6, hP, hD, hS, hl⟩ := hI
    subst hm_6
    refine lv_iload hx hb dX1_comeTo_56 (lv_at hl 0 rfl) ?_
    refine lv_aload_n hx hb dX1_comeTo_58 rfl (lv_at hl 2 rfl) ?_
    refine va_get (D := D) (ci := 1) (v := .int (nI n)) (C := RX1) (T := TX1) (N := 8) hx hb hts inX1 hown hK hP 0 rfl rfl 4 (by decide) (hts _ tw_240) (fun _ h9 => h9) rfl dX1_comeTo_59 ?_
    refine lv_icmp_ge (tgt := 107) hx hb dX1_comeTo_62 (by decide) (fun c_7 => ?_) (fun c_7 => ?_)
    · have c_7 := (nI_leI (a := n) (b := ii_6) (by omega) (by omega)).mp c_7
      refine lv_aload_n hx hb dX1_comeTo_107 rfl (lv_at hl 2 rfl) ?_
      refine va_get (D := D) (ci := 1) (v := .ref z2) (C := RX1) (T := TX1) (N := 8) hx hb hts inX1 hown hK hP 0 rfl rfl 2 (by decide) (hts _ tw_238) (fun _ h9 => h9) rfl dX1_comeTo_108 ?_
      refine lv_iload_n hx hb dX1_comeTo_111 rfl (lv_at hl 1 rfl) ?_
      refine lv_bipush (v := 25) hx hb dX1_comeTo_112 (by decide) ?_
      refine lv_imul hx hb dX1_comeTo_114 ?_
      refine lv_ti (y := (nI (cn2_4 * 25))) (pk_mul cn2_4 25) ?_
      refine lv_aload_n hx hb dX1_comeTo_115 rfl (lv_at hl 2 rfl) ?_
      refine va_get (D := D) (ci := 1) (v := .int (nI n)) (C := RX1) (T := TX1) (N := 8) hx hb hts inX1 hown hK hP 0 rfl rfl 4 (by decide) (hts _ tw_240) (fun _ h9 => h9) rfl dX1_comeTo_116 ?_
      refine lv_iadd hx hb dX1_comeTo_119 ?_
      refine lv_ti (y := (nI (cn2_4 * 25 + n))) (nI_add (cn2_4 * 25) n) ?_
      refine lv_aload_n hx hb dX1_comeTo_120 rfl (lv_at hl 3 rfl) ?_
      refine lv_iconst (v := 0) hx hb dX1_comeTo_121 (by decide) ?_
      refine ro_i (D := D) (va_runV (As := [.int 0]) (rest := [.int (nI (cn2_4 * 25 + n)), .ref z2]) ⟨hx, hb, hml, hown, hts⟩ ((x_garageOf l D k st lo h0 h1 h2 h3 h4 n see tm g fl 0 (by first | assumption | omega)) H.size) (cwV 1 hts (gV tw_829 tw_521 tw_522 tw_81 tw_523) rfl rfl rfl (by decide +kernel) ⟨Nat.le_of_ble_eq_true rfl, Nat.le_of_ble_eq_true rfl⟩) (pV hS hAlo hlo hP hK (va_Dlo hD hAlo) hZ [3, 4, 6] (by decide) rfl (ci := 5) (q := (RX5, TX5, 4)) (q0 := 0) rfl rfl) rfl rfl hl.1 rfl (lv_room (Nat.le_of_ble_eq_true rfl)) dX1_comeTo_122 ⟨Nat.le_of_ble_eq_true rfl, Nat.le_of_ble_eq_true rfl⟩) hS hA hP (fun r_8 H locs hw_8 hP hS => ?_)
      try dsimp only at hw_8
      refine lv_aload_n hx hb dX1_comeTo_125 rfl (lv_at hl 2 rfl) ?_
      refine va_get (D := D) (ci := 1) (v := .int (nI n)) (C := RX1) (T := TX1) (N := 8) hx hb hts inX1 hown hK hP 0 rfl rfl 4 (by decide) (hts _ tw_240) (fun _ h9 => h9) rfl dX1_comeTo_126 ?_
      refine lv_aload_n hx hb dX1_comeTo_129 rfl (lv_at hl 3 rfl) ?_
      refine ro_i (D := D) (va_runV (As := []) (rest := [.int (nI n), .int r_8, .int (nI (cn2_4 * 25 + n)), .ref z2]) ⟨hx, hb, hml, hown, hts⟩ ((x_passing l D k st lo h0 h1 h2 h3 h4 n see tm g) H.size) (cwV 0 hts (gV tw_828 tw_573 tw_574 tw_81 tw_575) rfl rfl rfl (by decide +kernel) ⟨Nat.le_of_ble_eq_true rfl, Nat.le_of_ble_eq_true rfl⟩) (pV hS hAlo hlo hP hK (va_Dlo hD hAlo) hZ [3, 4] (by decide) rfl (ci := 5) (q := (RX5, TX5, 4)) (q0 := 0) rfl rfl) rfl rfl hl.1 rfl (lv_room (Nat.le_of_ble_eq_true rfl)) dX1_comeTo_130 ⟨Nat.le_of_ble_eq_true rfl, Nat.le_of_ble_eq_true rfl⟩) hS hA hP (fun r_9 H locs hw_9 hP hS => ?_)
      try dsimp only at hw_9
      refine lv_imul hx hb dX1_comeTo_133 ?_
      refine lv_topi (fun x_10 ex_10 => ?_)
      refine lv_iadd hx hb dX1_comeTo_134 ?_
      refine lv_topi (fun x_11 ex_11 => ?_)
      refine va_iast hx hb hK hP hD hS 2 1 rfl rfl (vp_in_nI (by omega) (by decide)) dX1_comeTo_135 (fun H locs hP hD hS => ?_)
      replace hP : va_P D classes [(z0, .inr (1, (fX1 c0 z1 z2 z3 (nI n) p1 0 0))), (aI k z1 4 (nF d_2)), (aI k z2 100 (upd pco2_6 (Int32.toNatClampNeg (nI (cn2_4 * 25 + n))) x_11)), (h0, .inr (5, (fX5 h1 h2 h3 h4))), (aI k h1 10 (vv n see tm g)), (aI k h3 24 fp), (aI k h4 4 fl), (c0, .inr (4, (fX4 c1 c2 (nI cc) (nI rz) ro sd))), (aI k c1 4 wk), (aI k c2 4 (nF br))] H := hP
      replace hD : va_D A [(z0, .inr (1, (fX1 c0 z1 z2 z3 (nI n) p1 0 0))), (aI k z1 4 (nF d_2)), (aI k z2 100 (upd pco2_6 (Int32.toNatClampNeg (nI (cn2_4 * 25 + n))) x_11)), (h0, .inr (5, (fX5 h1 h2 h3 h4))), (aI k h1 10 (vv n see tm g)), (aI k h3 24 fp), (aI k h4 4 fl), (c0, .inr (4, (fX4 c1 c2 (nI cc) (nI rz) ro sd))), (aI k c1 4 wk), (aI k c2 4 (nF br))] := hD
      generalize (upd pco2_6 (Int32.toNatClampNeg (nI (cn2_4 * 25 + n))) x_11) = f_12 at hP hD
      refine lv_iinc (v := (nI (cn2_4 + 1))) (lv' := [(3, .int (nI (cn2_4 + 1))), (4, .int (nI ii_6)), (0, .ref z0), (1, .ref h0), (2, .int p1)]) hx hb dX1_comeTo_136 hl (k := 1) rfl (nI_add cn2_4 1) (by decide) rfl (fun ls hl => ?_)
      refine lv_goto (tgt := 42) hx hb dX1_comeTo_139 (by decide) ?_
      exact ih_4 _ (cn2_4 + 1, f_12) _ _ _ (by omega) ⟨rfl, (by omega), hP, hD, hS, (lv_sub hl [0, 2, 3, 4] rfl)⟩
    · have c_7 : ¬ (n ≤ ii_6) := fun h => c_7 ((nI_leI (a := n) (b := ii_6) (by omega) (by omega)).mpr h)
      refine lv_aload_n hx hb dX1_comeTo_65 rfl (lv_at hl 2 rfl) ?_
      refine va_get (D := D) (ci := 1) (v := .ref z2) (C := RX1) (T := TX1) (N := 8) hx hb hts inX1 hown hK hP 0 rfl rfl 2 (by decide) (hts _ tw_238) (fun _ h9 => h9) rfl dX1_comeTo_66 ?_
      refine lv_iload_n hx hb dX1_comeTo_69 rfl (lv_at hl 1 rfl) ?_
      refine lv_bipush (v := 25) hx hb dX1_comeTo_70 (by decide) ?_
      refine lv_imul hx hb dX1_comeTo_72 ?_
      refine lv_ti (y := (nI (cn2_4 * 25))) (pk_mul cn2_4 25) ?_
      refine lv_iload hx hb dX1_comeTo_73 (lv_at hl 0 rfl) ?_
      refine lv_iadd hx hb dX1_comeTo_75 ?_
      refine lv_ti (y := (nI (cn2_4 * 25 + ii_6))) (nI_add (cn2_4 * 25) ii_6) ?_
      refine lv_aload_n hx hb dX1_comeTo_76 rfl (lv_at hl 3 rfl) ?_
      refine lv_aload_n hx hb dX1_comeTo_77 rfl (lv_at hl 2 rfl) ?_
      refine va_get (D := D) (ci := 1) (v := .ref c0) (C := RX1) (T := TX1) (N := 8) hx hb hts inX1 hown hK hP 0 rfl rfl 0 (by decide) (hts _ tw_235) (fun _ h9 => h9) rfl dX1_comeTo_78 ?_
      refine va_get (D := D) (ci := 4) (v := .ref c1) (C := RX4) (T := TX4) (N := 6) hx hb hts inX4 hown hK hP 7 rfl rfl 0 (by decide) (hts _ tw_174) (fun _ h9 => h9) rfl dX1_comeTo_81 ?_
      refine lv_iload_n hx hb dX1_comeTo_84 rfl (lv_at hl 1 rfl) ?_
      refine va_iald hx hb hK hP 8 1 rfl rfl (vp_in_nI (by omega) (by decide)) dX1_comeTo_85 ?_
      refine lv_ti (y := (wk cn2_4)) (by rw [nI_clamp (by omega)]) ?_
      refine lv_iconst (v := 0) hx hb dX1_comeTo_86 (by decide) ?_
      refine lv_iload hx hb dX1_comeTo_87 (lv_at hl 0 rfl) ?_
      refine ro_i (D := D) (va_runV (As := [.int (wk cn2_4), .int 0, .int (nI ii_6)]) (rest := [.int (nI (cn2_4 * 25 + ii_6)), .ref z2]) ⟨hx, hb, hml, hown, hts⟩ ((x_takingBy l D k st lo h0 h1 h2 h3 h4 n see tm g fp fl (wk cn2_4) 0 ii_6 (by first | assumption | omega) (by first | assumption | omega)) H.size) (cwV 3 hts (gV tw_827 tw_561 tw_562 tw_81 tw_563) rfl rfl rfl (by decide +kernel) ⟨Nat.le_of_ble_eq_true rfl, Nat.le_of_ble_eq_true rfl⟩) (pV hS hAlo hlo hP hK (va_Dlo hD hAlo) hZ [3, 4, 5, 6] (by decide) rfl (ci := 5) (q := (RX5, TX5, 4)) (q0 := 0) rfl rfl) rfl rfl hl.1 rfl (lv_room (Nat.le_of_ble_eq_true rfl)) dX1_comeTo_89 ⟨Nat.le_of_ble_eq_true rfl, Nat.le_of_ble_eq_true rfl⟩) hS hA hP (fun r_13 H locs hw_13 hP hS => ?_)
      try dsimp only at hw_13
      refine lv_iload hx hb dX1_comeTo_92 (lv_at hl 0 rfl) ?_
      refine lv_aload_n hx hb dX1_comeTo_94 rfl (lv_at hl 3 rfl) ?_
      refine ro_i (D := D) (va_runV (As := []) (rest := [.int (nI ii_6), .int r_13, .int (nI (cn2_4 * 25 + ii_6)), .ref z2]) ⟨hx, hb, hml, hown, hts⟩ ((x_passing l D k st lo h0 h1 h2 h3 h4 n see tm g) H.size) (cwV 0 hts (gV tw_828 tw_573 tw_574 tw_81 tw_575) rfl rfl rfl (by decide +kernel) ⟨Nat.le_of_ble_eq_true rfl, Nat.le_of_ble_eq_true rfl⟩) (pV hS hAlo hlo hP hK (va_Dlo hD hAlo) hZ [3, 4] (by decide) rfl (ci := 5) (q := (RX5, TX5, 4)) (q0 := 0) rfl rfl) rfl rfl hl.1 rfl (lv_room (Nat.le_of_ble_eq_true rfl)) dX1_comeTo_95 ⟨Nat.le_of_ble_eq_true rfl, Nat.le_of_ble_eq_true rfl⟩) hS hA hP (fun r_14 H locs hw_14 hP hS => ?_)
      try dsimp only at hw_14
      refine lv_imul hx hb dX1_comeTo_98 ?_
      refine lv_topi (fun x_15 ex_15 => ?_)
      refine lv_iadd hx hb dX1_comeTo_99 ?_
      refine lv_topi (fun x_16 ex_16 => ?_)
      refine va_iast hx hb hK hP hD hS 2 1 rfl rfl (vp_in_nI (by omega) (by decide)) dX1_comeTo_100 (fun H locs hP hD hS => ?_)
      replace hP : va_P D classes [(z0, .inr (1, (fX1 c0 z1 z2 z3 (nI n) p1 0 0))), (aI k z1 4 (nF d_2)), (aI k z2 100 (upd pco2_6 (Int32.toNatClampNeg (nI (cn2_4 * 25 + ii_6))) x_16)), (h0, .inr (5, (fX5 h1 h2 h3 h4))), (aI k h1 10 (vv n see tm g)), (aI k h3 24 fp), (aI k h4 4 fl), (c0, .inr (4, (fX4 c1 c2 (nI cc) (nI rz) ro sd))), (aI k c1 4 wk), (aI k c2 4 (nF br))] H := hP
      replace hD : va_D A [(z0, .inr (1, (fX1 c0 z1 z2 z3 (nI n) p1 0 0))), (aI k z1 4 (nF d_2)), (aI k z2 100 (upd pco2_6 (Int32.toNatClampNeg (nI (cn2_4 * 25 + ii_6))) x_16)), (h0, .inr (5, (fX5 h1 h2 h3 h4))), (aI k h1 10 (vv n see tm g)), (aI k h3 24 fp), (aI k h4 4 fl), (c0, .inr (4, (fX4 c1 c2 (nI cc) (nI rz) ro sd))), (aI k c1 4 wk), (aI k c2 4 (nF br))] := hD
      generalize (upd pco2_6 (Int32.toNatClampNeg (nI (cn2_4 * 25 + ii_6))) x_16) = f_17 at hP hD
      refine lv_iinc (v := (nI (ii_6 + 1))) (lv' := [(4, .int (nI (ii_6 + 1))), (3, .int (nI cn2_4)), (0, .ref z0), (1, .ref h0), (2, .int p1)]) hx hb dX1_comeTo_101 hl (k := 0) rfl (nI_add ii_6 1) (by decide) rfl (fun ls hl => ?_)
      refine lv_goto (tgt := 56) hx hb dX1_comeTo_104 (by decide) ?_
      exact ih_6 _ (ii_6 + 1, f_17) _ _ _ (by omega) ⟨rfl, (by omega), hP, hD, hS, (lv_sub hl [0, 1, 2, 3, 4] rfl)⟩

theorem dX1_costAt_0 : decode cX1_costAt 0 = .ok (.aload_n 0, 1) := by decide +kernel
theorem dX1_costAt_1 : decode cX1_costAt 1 = .ok (.getfield 15, 3) := by decide +kernel
theorem dX1_costAt_4 : decode cX1_costAt 4 = .ok (.iload_n 1, 1) := by decide +kernel
theorem dX1_costAt_5 : decode cX1_costAt 5 = .ok (.bipush 25, 2) := by decide +kernel
theorem dX1_costAt_7 : decode cX1_costAt 7 = .ok (.imul, 1) := by decide +kernel
theorem dX1_costAt_8 : decode cX1_costAt 8 = .ok (.iload_n 2, 1) := by decide +kernel
theorem dX1_costAt_9 : decode cX1_costAt 9 = .ok (.iadd, 1) := by decide +kernel
theorem dX1_costAt_10 : decode cX1_costAt 10 = .ok (.iaload, 1) := by decide +kernel
theorem dX1_costAt_11 : decode cX1_costAt 11 = .ok (.ireturn, 1) := by decide +kernel
set_option maxHeartbeats 4000000 in
set_option maxRecDepth 100000 in
theorem x_costAt (l : Launch) (D : va_G) (k : Nat → ClassId) (st : Nat → Nat) (lo : Nat) (c0 : Nat) (z0 : Nat) (z1 : Nat) (z2 : Nat) (z3 : Nat) (pn : Nat) (pf : Int32) (pd : Int32) (pe : Int32) (pco : Nat → Int32) (cn : Nat) (pl : Nat) (hcn : cn < 4) (hpl : pl ≤ 24) : CRi l D k st lo yX1_costAt cX1_costAt 3 (some .int) ({ frames := 0, cells := 0, slots := 0, locals := 0 }) [.ref z0, .int (nI cn), .int (nI pl)] [(z0, .inr (1, (fX1 c0 z1 z2 z3 (nI pn) pf pd pe))), (aI k z2 100 pco)] (fun _ => True) := by
  intro sz
  refine Met.ofW (cc := cX1_costAt) (maxL := 3) (ret := (some .int)) (by decide) rfl ?_
  intro p e s m args below meth c s₁ B hml hv
  obtain ⟨rfl, hsz, hlo, hP, hK, hDL, hZ⟩ := hv
  have hx := B.exec
  have hb := B.bytes
  have hr := B.returns
  have hts := WS_ts B.pre
  have hown : s.vm.findClass RX1 = some m.cls := findClass_of_methodNamed B.named
  have hlocks := B.notSynchronized
  subst hsz
  have hA : ∀ q : Nat, s.heap.size ≤ q → (fun q : Nat => s.heap.size ≤ q) q := fun _ h => h
  have hAlo : ∀ q : Nat, (fun q : Nat => s.heap.size ≤ q) q → lo ≤ q := fun q h => Nat.le_trans hlo h
  have hS : va_S (fun q : Nat => s.heap.size ≤ q) s.heap s.heap [] := va_S.rf
  have hl := lv_entry ([.ref z0, .int (nI cn), .int (nI pl)]) (n := 3) (Nat.le_of_ble_eq_true rfl)
  rw [lg_entry_eq]
  generalize (lg_sl ([.ref z0, .int (nI cn), .int (nI pl)]) ++ List.replicate (3 - (lg_sl ([.ref z0, .int (nI cn), .int (nI pl)])).length) Slot.unset).toArray = ls at hl ⊢
  have hl : lv_has ls 3 [(0, .ref z0), (1, .int (nI cn)), (2, .int (nI pl))] := hl
  refine lv_aload_n hx hb dX1_costAt_0 rfl (lv_at hl 0 rfl) ?_
  refine va_get (D := D) (ci := 1) (v := .ref z2) (C := RX1) (T := TX1) (N := 8) hx hb hts inX1 hown hK hP 0 rfl rfl 2 (by decide) (hts _ tw_238) (fun _ h9 => h9) rfl dX1_costAt_1 ?_
  refine lv_iload_n hx hb dX1_costAt_4 rfl (lv_at hl 1 rfl) ?_
  refine lv_bipush (v := 25) hx hb dX1_costAt_5 (by decide) ?_
  refine lv_imul hx hb dX1_costAt_7 ?_
  refine lv_ti (y := (nI (cn * 25))) (pk_mul cn 25) ?_
  refine lv_iload_n hx hb dX1_costAt_8 rfl (lv_at hl 2 rfl) ?_
  refine lv_iadd hx hb dX1_costAt_9 ?_
  refine lv_ti (y := (nI (cn * 25 + pl))) (nI_add (cn * 25) pl) ?_
  refine va_iald hx hb hK hP 1 1 rfl rfl (vp_in_nI (by omega) (by decide)) dX1_costAt_10 ?_
  refine lv_ti (y := (pco (cn * 25 + pl))) (by rw [nI_clamp (by omega)]) ?_
  exact W.iret (v := (pco (cn * 25 + pl))) hx hb hr (fun t ht hW => ⟨⟨(pco (cn * 25 + pl)), (), rfl, trivial, trivial⟩, hS.F ht⟩) hS.2.2 dX1_costAt_11

theorem dX1_paidAt_0 : decode cX1_paidAt 0 = .ok (.iload_n 2, 1) := by decide +kernel
theorem dX1_paidAt_1 : decode cX1_paidAt 1 = .ok (.aload_n 0, 1) := by decide +kernel
theorem dX1_paidAt_2 : decode cX1_paidAt 2 = .ok (.getfield 28, 3) := by decide +kernel
theorem dX1_paidAt_5 : decode cX1_paidAt 5 = .ok (.if_icmp .lt 15, 3) := by decide +kernel
theorem dX1_paidAt_8 : decode cX1_paidAt 8 = .ok (.iload_n 2, 1) := by decide +kernel
theorem dX1_paidAt_9 : decode cX1_paidAt 9 = .ok (.aload_n 0, 1) := by decide +kernel
theorem dX1_paidAt_10 : decode cX1_paidAt 10 = .ok (.getfield 21, 3) := by decide +kernel
theorem dX1_paidAt_13 : decode cX1_paidAt 13 = .ok (.if_icmp .ge 7, 3) := by decide +kernel
theorem dX1_paidAt_16 : decode cX1_paidAt 16 = .ok (.iconst 1, 1) := by decide +kernel
theorem dX1_paidAt_17 : decode cX1_paidAt 17 = .ok (.goto 4, 3) := by decide +kernel
theorem dX1_paidAt_20 : decode cX1_paidAt 20 = .ok (.iconst 0, 1) := by decide +kernel
theorem dX1_paidAt_21 : decode cX1_paidAt 21 = .ok (.istore_n 3, 1) := by decide +kernel
theorem dX1_paidAt_22 : decode cX1_paidAt 22 = .ok (.aload_n 0, 1) := by decide +kernel
theorem dX1_paidAt_23 : decode cX1_paidAt 23 = .ok (.iload_n 1, 1) := by decide +kernel
theorem dX1_paidAt_24 : decode cX1_paidAt 24 = .ok (.iload_n 2, 1) := by decide +kernel
theorem dX1_paidAt_25 : decode cX1_paidAt 25 = .ok (.invokevirtual 70, 3) := by decide +kernel
theorem dX1_paidAt_28 : decode cX1_paidAt 28 = .ok (.iload_n 3, 1) := by decide +kernel
theorem dX1_paidAt_29 : decode cX1_paidAt 29 = .ok (.ifCond .eq 10, 3) := by decide +kernel
theorem dX1_paidAt_32 : decode cX1_paidAt 32 = .ok (.aload_n 0, 1) := by decide +kernel
theorem dX1_paidAt_33 : decode cX1_paidAt 33 = .ok (.getfield 31, 3) := by decide +kernel
theorem dX1_paidAt_36 : decode cX1_paidAt 36 = .ok (.goto 4, 3) := by decide +kernel
theorem dX1_paidAt_39 : decode cX1_paidAt 39 = .ok (.iconst 0, 1) := by decide +kernel
theorem dX1_paidAt_40 : decode cX1_paidAt 40 = .ok (.iadd, 1) := by decide +kernel
theorem dX1_paidAt_41 : decode cX1_paidAt 41 = .ok (.ireturn, 1) := by decide +kernel
set_option maxHeartbeats 4000000 in
set_option maxRecDepth 100000 in
theorem x_paidAt (l : Launch) (D : va_G) (k : Nat → ClassId) (st : Nat → Nat) (lo : Nat) (c0 : Nat) (z0 : Nat) (z1 : Nat) (z2 : Nat) (z3 : Nat) (pn : Nat) (pf : Int32) (pd : Int32) (pe : Int32) (pco : Nat → Int32) (cn : Nat) (pl : Nat) (hcn : cn < 4) (hpl : pl ≤ 24) (hpn : pn ≤ 24) : CRi l D k st lo yX1_paidAt cX1_paidAt 4 (some .int) ({ frames := 1, cells := 0, slots := 0, locals := 22 }) [.ref z0, .int (nI cn), .int (nI pl)] [(z0, .inr (1, (fX1 c0 z1 z2 z3 (nI pn) pf pd pe))), (aI k z2 100 pco)] (fun _ => True) := by
  intro sz
  refine Met.ofW (cc := cX1_paidAt) (maxL := 4) (ret := (some .int)) (by decide) rfl ?_
  intro p e s m args below meth c s₁ B hml hv
  obtain ⟨rfl, hsz, hlo, hP, hK, hDL, hZ⟩ := hv
  have hx := B.exec
  have hb := B.bytes
  have hr := B.returns
  have hts := WS_ts B.pre
  have hown : s.vm.findClass RX1 = some m.cls := findClass_of_methodNamed B.named
  have hlocks := B.notSynchronized
  subst hsz
  have hA : ∀ q : Nat, s.heap.size ≤ q → (fun q : Nat => s.heap.size ≤ q) q := fun _ h => h
  have hAlo : ∀ q : Nat, (fun q : Nat => s.heap.size ≤ q) q → lo ≤ q := fun q h => Nat.le_trans hlo h
  have hS : va_S (fun q : Nat => s.heap.size ≤ q) s.heap s.heap [] := va_S.rf
  have hl := lv_entry ([.ref z0, .int (nI cn), .int (nI pl)]) (n := 4) (Nat.le_of_ble_eq_true rfl)
  rw [lg_entry_eq]
  generalize (lg_sl ([.ref z0, .int (nI cn), .int (nI pl)]) ++ List.replicate (4 - (lg_sl ([.ref z0, .int (nI cn), .int (nI pl)])).length) Slot.unset).toArray = ls at hl ⊢
  have hl : lv_has ls 4 [(0, .ref z0), (1, .int (nI cn)), (2, .int (nI pl))] := hl
  refine lv_iload_n hx hb dX1_paidAt_0 rfl (lv_at hl 2 rfl) ?_
  refine lv_aload_n hx hb dX1_paidAt_1 rfl (lv_at hl 0 rfl) ?_
  refine va_get (D := D) (ci := 1) (v := .int pd) (C := RX1) (T := TX1) (N := 8) hx hb hts inX1 hown hK hP 0 rfl rfl 6 (by decide) (hts _ tw_242) (fun _ h9 => h9) rfl dX1_paidAt_2 ?_
  refine lv_icmp_lt (tgt := 20) hx hb dX1_paidAt_5 (by decide) (fun c_1 => ?_) (fun c_1 => ?_)
  · refine lv_iconst (v := 0) hx hb dX1_paidAt_20 (by decide) ?_
    refine lv_istore_n (lv' := [(3, .int 0), (0, .ref z0), (1, .int (nI cn)), (2, .int (nI pl))]) hx hb dX1_paidAt_21 rfl hl (by decide) rfl (fun ls hl => ?_)
    refine lv_aload_n hx hb dX1_paidAt_22 rfl (lv_at hl 1 rfl) ?_
    refine lv_iload_n hx hb dX1_paidAt_23 rfl (lv_at hl 2 rfl) ?_
    refine lv_iload_n hx hb dX1_paidAt_24 rfl (lv_at hl 3 rfl) ?_
    refine ro_i (D := D) (va_runV (As := [.int (nI cn), .int (nI pl)]) (rest := []) ⟨hx, hb, hml, hown, hts⟩ ((x_costAt l D k st lo c0 z0 z1 z2 z3 pn pf pd pe pco cn pl (by first | assumption | omega) (by first | assumption | omega)) s.heap.size) (cwV 2 hts (gV tw_866 tw_843 tw_844 tw_84 tw_845) rfl rfl rfl (by decide +kernel) ⟨Nat.le_of_ble_eq_true rfl, Nat.le_of_ble_eq_true rfl⟩) (pV hS hAlo hlo hP hK hDL hZ [0, 1] (by decide) rfl (ci := 1) (q := (RX1, TX1, 8)) (q0 := 0) rfl rfl) rfl rfl hl.1 rfl (lv_room (Nat.le_of_ble_eq_true rfl)) dX1_paidAt_25 ⟨Nat.le_of_ble_eq_true rfl, Nat.le_of_ble_eq_true rfl⟩) hS hA hP (fun r_2 H locs hw_2 hP hS => ?_)
    try dsimp only at hw_2
    refine lv_iload_n hx hb dX1_paidAt_28 rfl (lv_at hl 0 rfl) ?_
    refine lv_if_eq (tgt := 39) hx hb dX1_paidAt_29 (by decide) (fun _ => ?_) (fun h => absurd (by decide) h)
    refine lv_iconst (v := 0) hx hb dX1_paidAt_39 (by decide) ?_
    refine lv_iadd hx hb dX1_paidAt_40 ?_
    refine lv_topi (fun x_3 ex_3 => ?_)
    exact W.iret (v := x_3) hx hb hr (fun t ht hW => ⟨⟨x_3, (), rfl, trivial, trivial⟩, hS.F ht⟩) hS.2.2 dX1_paidAt_41
  · refine lv_iload_n hx hb dX1_paidAt_8 rfl (lv_at hl 2 rfl) ?_
    refine lv_aload_n hx hb dX1_paidAt_9 rfl (lv_at hl 0 rfl) ?_
    refine va_get (D := D) (ci := 1) (v := .int (nI pn)) (C := RX1) (T := TX1) (N := 8) hx hb hts inX1 hown hK hP 0 rfl rfl 4 (by decide) (hts _ tw_240) (fun _ h9 => h9) rfl dX1_paidAt_10 ?_
    refine lv_icmp_ge (tgt := 20) hx hb dX1_paidAt_13 (by decide) (fun c_4 => ?_) (fun c_4 => ?_)
    · have c_4 := (nI_leI (a := pn) (b := pl) (by omega) (by omega)).mp c_4
      refine lv_iconst (v := 0) hx hb dX1_paidAt_20 (by decide) ?_
      refine lv_istore_n (lv' := [(3, .int 0), (0, .ref z0), (1, .int (nI cn)), (2, .int (nI pl))]) hx hb dX1_paidAt_21 rfl hl (by decide) rfl (fun ls hl => ?_)
      refine lv_aload_n hx hb dX1_paidAt_22 rfl (lv_at hl 1 rfl) ?_
      refine lv_iload_n hx hb dX1_paidAt_23 rfl (lv_at hl 2 rfl) ?_
      refine lv_iload_n hx hb dX1_paidAt_24 rfl (lv_at hl 3 rfl) ?_
      refine ro_i (D := D) (va_runV (As := [.int (nI cn), .int (nI pl)]) (rest := []) ⟨hx, hb, hml, hown, hts⟩ ((x_costAt l D k st lo c0 z0 z1 z2 z3 pn pf pd pe pco cn pl (by first | assumption | omega) (by first | assumption | omega)) s.heap.size) (cwV 2 hts (gV tw_866 tw_843 tw_844 tw_84 tw_845) rfl rfl rfl (by decide +kernel) ⟨Nat.le_of_ble_eq_true rfl, Nat.le_of_ble_eq_true rfl⟩) (pV hS hAlo hlo hP hK hDL hZ [0, 1] (by decide) rfl (ci := 1) (q := (RX1, TX1, 8)) (q0 := 0) rfl rfl) rfl rfl hl.1 rfl (lv_room (Nat.le_of_ble_eq_true rfl)) dX1_paidAt_25 ⟨Nat.le_of_ble_eq_true rfl, Nat.le_of_ble_eq_true rfl⟩) hS hA hP (fun r_5 H locs hw_5 hP hS => ?_)
      try dsimp only at hw_5
      refine lv_iload_n hx hb dX1_paidAt_28 rfl (lv_at hl 0 rfl) ?_
      refine lv_if_eq (tgt := 39) hx hb dX1_paidAt_29 (by decide) (fun _ => ?_) (fun h => absurd (by decide) h)
      refine lv_iconst (v := 0) hx hb dX1_paidAt_39 (by decide) ?_
      refine lv_iadd hx hb dX1_paidAt_40 ?_
      refine lv_topi (fun x_6 ex_6 => ?_)
      exact W.iret (v := x_6) hx hb hr (fun t ht hW => ⟨⟨x_6, (), rfl, trivial, trivial⟩, hS.F ht⟩) hS.2.2 dX1_paidAt_41
    · have c_4 : ¬ (pn ≤ pl) := fun h => c_4 ((nI_leI (a := pn) (b := pl) (by omega) (by omega)).mpr h)
      refine lv_iconst (v := 1) hx hb dX1_paidAt_16 (by decide) ?_
      refine lv_goto (tgt := 21) hx hb dX1_paidAt_17 (by decide) ?_
      refine lv_istore_n (lv' := [(3, .int 1), (0, .ref z0), (1, .int (nI cn)), (2, .int (nI pl))]) hx hb dX1_paidAt_21 rfl hl (by decide) rfl (fun ls hl => ?_)
      refine lv_aload_n hx hb dX1_paidAt_22 rfl (lv_at hl 1 rfl) ?_
      refine lv_iload_n hx hb dX1_paidAt_23 rfl (lv_at hl 2 rfl) ?_
      refine lv_iload_n hx hb dX1_paidAt_24 rfl (lv_at hl 3 rfl) ?_
      refine ro_i (D := D) (va_runV (As := [.int (nI cn), .int (nI pl)]) (rest := []) ⟨hx, hb, hml, hown, hts⟩ ((x_costAt l D k st lo c0 z0 z1 z2 z3 pn pf pd pe pco cn pl (by first | assumption | omega) (by first | assumption | omega)) s.heap.size) (cwV 2 hts (gV tw_866 tw_843 tw_844 tw_84 tw_845) rfl rfl rfl (by decide +kernel) ⟨Nat.le_of_ble_eq_true rfl, Nat.le_of_ble_eq_true rfl⟩) (pV hS hAlo hlo hP hK hDL hZ [0, 1] (by decide) rfl (ci := 1) (q := (RX1, TX1, 8)) (q0 := 0) rfl rfl) rfl rfl hl.1 rfl (lv_room (Nat.le_of_ble_eq_true rfl)) dX1_paidAt_25 ⟨Nat.le_of_ble_eq_true rfl, Nat.le_of_ble_eq_true rfl⟩) hS hA hP (fun r_7 H locs hw_7 hP hS => ?_)
      try dsimp only at hw_7
      refine lv_iload_n hx hb dX1_paidAt_28 rfl (lv_at hl 0 rfl) ?_
      refine lv_if_eq (tgt := 39) hx hb dX1_paidAt_29 (by decide) (fun h => absurd h (by decide)) (fun _ => ?_)
      refine lv_aload_n hx hb dX1_paidAt_32 rfl (lv_at hl 1 rfl) ?_
      refine va_get (D := D) (ci := 1) (v := .int pe) (C := RX1) (T := TX1) (N := 8) hx hb hts inX1 hown hK hP 0 rfl rfl 7 (by decide) (hts _ tw_243) (fun _ h9 => h9) rfl dX1_paidAt_33 ?_
      refine lv_goto (tgt := 40) hx hb dX1_paidAt_36 (by decide) ?_
      refine lv_iadd hx hb dX1_paidAt_40 ?_
      refine lv_topi (fun x_8 ex_8 => ?_)
      exact W.iret (v := x_8) hx hb hr (fun t ht hW => ⟨⟨x_8, (), rfl, trivial, trivial⟩, hS.F ht⟩) hS.2.2 dX1_paidAt_41

theorem dX1_placeFrom_0 : decode cX1_placeFrom 0 = .ok (.iload_n 1, 1) := by decide +kernel
theorem dX1_placeFrom_1 : decode cX1_placeFrom 1 = .ok (.istore_n 3, 1) := by decide +kernel
theorem dX1_placeFrom_2 : decode cX1_placeFrom 2 = .ok (.iload_n 3, 1) := by decide +kernel
theorem dX1_placeFrom_3 : decode cX1_placeFrom 3 = .ok (.aload_n 0, 1) := by decide +kernel
theorem dX1_placeFrom_4 : decode cX1_placeFrom 4 = .ok (.getfield 21, 3) := by decide +kernel
theorem dX1_placeFrom_7 : decode cX1_placeFrom 7 = .ok (.if_icmp .ge 19, 3) := by decide +kernel
theorem dX1_placeFrom_10 : decode cX1_placeFrom 10 = .ok (.iload_n 2, 1) := by decide +kernel
theorem dX1_placeFrom_11 : decode cX1_placeFrom 11 = .ok (.iload_n 3, 1) := by decide +kernel
theorem dX1_placeFrom_12 : decode cX1_placeFrom 12 = .ok (.ishr, 1) := by decide +kernel
theorem dX1_placeFrom_13 : decode cX1_placeFrom 13 = .ok (.iconst 1, 1) := by decide +kernel
theorem dX1_placeFrom_14 : decode cX1_placeFrom 14 = .ok (.iand, 1) := by decide +kernel
theorem dX1_placeFrom_15 : decode cX1_placeFrom 15 = .ok (.ifCond .eq 5, 3) := by decide +kernel
theorem dX1_placeFrom_18 : decode cX1_placeFrom 18 = .ok (.iload_n 3, 1) := by decide +kernel
theorem dX1_placeFrom_19 : decode cX1_placeFrom 19 = .ok (.ireturn, 1) := by decide +kernel
theorem dX1_placeFrom_20 : decode cX1_placeFrom 20 = .ok (.iinc 3 1, 3) := by decide +kernel
theorem dX1_placeFrom_23 : decode cX1_placeFrom 23 = .ok (.goto (-21), 3) := by decide +kernel
theorem dX1_placeFrom_26 : decode cX1_placeFrom 26 = .ok (.aload_n 0, 1) := by decide +kernel
theorem dX1_placeFrom_27 : decode cX1_placeFrom 27 = .ok (.getfield 21, 3) := by decide +kernel
theorem dX1_placeFrom_30 : decode cX1_placeFrom 30 = .ok (.ireturn, 1) := by decide +kernel
set_option maxHeartbeats 4000000 in
set_option maxRecDepth 100000 in
theorem x_placeFrom (l : Launch) (D : va_G) (k : Nat → ClassId) (st : Nat → Nat) (lo : Nat) (c0 : Nat) (z0 : Nat) (z1 : Nat) (z2 : Nat) (z3 : Nat) (pn : Nat) (pf : Int32) (pd : Int32) (pe : Int32) (bb : Nat) (p1 : Int32) (hpn : pn ≤ 24) (hbb : bb ≤ 24) : CRi l D k st lo yX1_placeFrom cX1_placeFrom 4 (some .int) ({ frames := 0, cells := 0, slots := 0, locals := 0 }) [.ref z0, .int (nI bb), .int p1] [(z0, .inr (1, (fX1 c0 z1 z2 z3 (nI pn) pf pd pe)))] (fun r => ∃ z : Nat, z ≤ pn ∧ r = nI z) := by
  intro sz
  refine Met.ofW (cc := cX1_placeFrom) (maxL := 4) (ret := (some .int)) (by decide) rfl ?_
  intro p e s m args below meth c s₁ B hml hv
  obtain ⟨rfl, hsz, hlo, hP, hK, hDL, hZ⟩ := hv
  have hx := B.exec
  have hb := B.bytes
  have hr := B.returns
  have hts := WS_ts B.pre
  have hown : s.vm.findClass RX1 = some m.cls := findClass_of_methodNamed B.named
  have hlocks := B.notSynchronized
  subst hsz
  have hA : ∀ q : Nat, s.heap.size ≤ q → (fun q : Nat => s.heap.size ≤ q) q := fun _ h => h
  have hAlo : ∀ q : Nat, (fun q : Nat => s.heap.size ≤ q) q → lo ≤ q := fun q h => Nat.le_trans hlo h
  have hS : va_S (fun q : Nat => s.heap.size ≤ q) s.heap s.heap [] := va_S.rf
  have hl := lv_entry ([.ref z0, .int (nI bb), .int p1]) (n := 4) (Nat.le_of_ble_eq_true rfl)
  rw [lg_entry_eq]
  generalize (lg_sl ([.ref z0, .int (nI bb), .int p1]) ++ List.replicate (4 - (lg_sl ([.ref z0, .int (nI bb), .int p1])).length) Slot.unset).toArray = ls at hl ⊢
  have hl : lv_has ls 4 [(0, .ref z0), (1, .int (nI bb)), (2, .int p1)] := hl
  refine lv_iload_n hx hb dX1_placeFrom_0 rfl (lv_at hl 1 rfl) ?_
  refine lv_istore_n (lv' := [(3, .int (nI bb)), (0, .ref z0), (1, .int (nI bb)), (2, .int p1)]) hx hb dX1_placeFrom_1 rfl hl (by decide) rfl (fun ls hl => ?_)
  refine W_loop (σ := Nat) (fun (n_ : Nat) (ii_1 : Nat) (H : Heap) (locs : List Loc) (ls : Array Slot) => n_ = 25 - ii_1 ∧ (ii_1 ≤ 24) ∧ va_P D classes [(z0, .inr (1, (fX1 c0 z1 z2 z3 (nI pn) pf pd pe)))] H ∧ va_S (fun q : Nat => s.heap.size ≤ q) s.heap H locs ∧ lv_has ls 4 [(3, .int (nI ii_1)), (0, .ref z0), (1, .int (nI bb)), (2, .int p1)]) (fun n_1 x_1 H locs ls hI ih_1 => ?_) _ bb ⟨rfl, (by omega), hP, hS, (lv_sub hl [0, 1, 2, 3] rfl)⟩
  obtain ⟨ii_1, rfl⟩ : ∃ z, z = x_1 := ⟨_, rfl⟩
  obtain ⟨hm_1, hv_1, hP, hS, hl⟩ := hI
  subst hm_1
  refine lv_iload_n hx hb dX1_placeFrom_2 rfl (lv_at hl 0 rfl) ?_
  refine lv_aload_n hx hb dX1_placeFrom_3 rfl (lv_at hl 1 rfl) ?_
  refine va_get (D := D) (ci := 1) (v := .int (nI pn)) (C := RX1) (T := TX1) (N := 8) hx hb hts inX1 hown hK hP 0 rfl rfl 4 (by decide) (hts _ tw_240) (fun _ h9 => h9) rfl dX1_placeFrom_4 ?_
  refine lv_icmp_ge (tgt := 26) hx hb dX1_placeFrom_7 (by decide) (fun c_2 => ?_) (fun c_2 => ?_)
  · have c_2 := (nI_leI (a := pn) (b := ii_1) (by omega) (by omega)).mp c_2
    refine lv_aload_n hx hb dX1_placeFrom_26 rfl (lv_at hl 1 rfl) ?_
    refine va_get (D := D) (ci := 1) (v := .int (nI pn)) (C := RX1) (T := TX1) (N := 8) hx hb hts inX1 hown hK hP 0 rfl rfl 4 (by decide) (hts _ tw_240) (fun _ h9 => h9) rfl dX1_placeFrom_27 ?_
    exact W.iret (v := (nI pn)) hx hb hr (fun t ht hW => ⟨⟨(nI pn), (), rfl, ⟨_, by omega, rfl⟩, trivial⟩, hS.F ht⟩) hS.2.2 dX1_placeFrom_30
  · have c_2 : ¬ (pn ≤ ii_1) := fun h => c_2 ((nI_leI (a := pn) (b := ii_1) (by omega) (by omega)).mpr h)
    refine lv_iload_n hx hb dX1_placeFrom_10 rfl (lv_at hl 3 rfl) ?_
    refine lv_iload_n hx hb dX1_placeFrom_11 rfl (lv_at hl 0 rfl) ?_
    refine lv_ishr hx hb dX1_placeFrom_12 ?_
    refine lv_topi (fun x_3 ex_3 => ?_)
    refine lv_iconst (v := 1) hx hb dX1_placeFrom_13 (by decide) ?_
    refine lv_iand hx hb dX1_placeFrom_14 ?_
    refine lv_topi (fun x_4 ex_4 => ?_)
    refine lv_if_eq (tgt := 20) hx hb dX1_placeFrom_15 (by decide) (fun c_5 => ?_) (fun c_5 => ?_)
    · refine lv_iinc (v := (nI (ii_1 + 1))) (lv' := [(3, .int (nI (ii_1 + 1))), (0, .ref z0), (1, .int (nI bb)), (2, .int p1)]) hx hb dX1_placeFrom_20 hl (k := 0) rfl (nI_add ii_1 1) (by decide) rfl (fun ls hl => ?_)
      refine lv_goto (tgt := 2) hx hb dX1_placeFrom_23 (by decide) ?_
      exact ih_1 _ (ii_1 + 1) _ _ _ (by omega) ⟨rfl, (by omega), hP, hS, (lv_sub hl [0, 1, 2, 3] rfl)⟩
    · refine lv_iload_n hx hb dX1_placeFrom_18 rfl (lv_at hl 0 rfl) ?_
      exact W.iret (v := (nI ii_1)) hx hb hr (fun t ht hW => ⟨⟨(nI ii_1), (), rfl, ⟨_, by omega, rfl⟩, trivial⟩, hS.F ht⟩) hS.2.2 dX1_placeFrom_19

theorem dX1_leftBehind_0 : decode cX1_leftBehind 0 = .ok (.iload_n 2, 1) := by decide +kernel
theorem dX1_leftBehind_1 : decode cX1_leftBehind 1 = .ok (.iconst 1, 1) := by decide +kernel
theorem dX1_leftBehind_2 : decode cX1_leftBehind 2 = .ok (.aload_n 0, 1) := by decide +kernel
theorem dX1_leftBehind_3 : decode cX1_leftBehind 3 = .ok (.aload_n 0, 1) := by decide +kernel
theorem dX1_leftBehind_4 : decode cX1_leftBehind 4 = .ok (.getfield 9, 3) := by decide +kernel
theorem dX1_leftBehind_7 : decode cX1_leftBehind 7 = .ok (.iload_n 1, 1) := by decide +kernel
theorem dX1_leftBehind_8 : decode cX1_leftBehind 8 = .ok (.iaload, 1) := by decide +kernel
theorem dX1_leftBehind_9 : decode cX1_leftBehind 9 = .ok (.iload_n 2, 1) := by decide +kernel
theorem dX1_leftBehind_10 : decode cX1_leftBehind 10 = .ok (.invokevirtual 74, 3) := by decide +kernel
theorem dX1_leftBehind_13 : decode cX1_leftBehind 13 = .ok (.ishl, 1) := by decide +kernel
theorem dX1_leftBehind_14 : decode cX1_leftBehind 14 = .ok (.iconst (-1), 1) := by decide +kernel
theorem dX1_leftBehind_15 : decode cX1_leftBehind 15 = .ok (.ixor, 1) := by decide +kernel
theorem dX1_leftBehind_16 : decode cX1_leftBehind 16 = .ok (.iand, 1) := by decide +kernel
theorem dX1_leftBehind_17 : decode cX1_leftBehind 17 = .ok (.ireturn, 1) := by decide +kernel
set_option maxHeartbeats 4000000 in
set_option maxRecDepth 100000 in
theorem x_leftBehind (l : Launch) (D : va_G) (k : Nat → ClassId) (st : Nat → Nat) (lo : Nat) (c0 : Nat) (z0 : Nat) (z1 : Nat) (z2 : Nat) (z3 : Nat) (pn : Nat) (pf : Int32) (pd : Int32) (pe : Int32) (pb : Nat → Nat) (cn : Nat) (p1 : Int32) (hpn : pn ≤ 24) (hcn : cn < 4) (hpb : ∀ j, pb j ≤ 24) : CRi l D k st lo yX1_leftBehind cX1_leftBehind 3 (some .int) ({ frames := 1, cells := 0, slots := 0, locals := 23 }) [.ref z0, .int (nI cn), .int p1] [(z0, .inr (1, (fX1 c0 z1 z2 z3 (nI pn) pf pd pe))), (aI k z1 4 (nF pb))] (fun _ => True) := by
  intro sz
  refine Met.ofW (cc := cX1_leftBehind) (maxL := 3) (ret := (some .int)) (by decide) rfl ?_
  intro p e s m args below meth c s₁ B hml hv
  obtain ⟨rfl, hsz, hlo, hP, hK, hDL, hZ⟩ := hv
  have hx := B.exec
  have hb := B.bytes
  have hr := B.returns
  have hts := WS_ts B.pre
  have hown : s.vm.findClass RX1 = some m.cls := findClass_of_methodNamed B.named
  have hlocks := B.notSynchronized
  subst hsz
  have hA : ∀ q : Nat, s.heap.size ≤ q → (fun q : Nat => s.heap.size ≤ q) q := fun _ h => h
  have hAlo : ∀ q : Nat, (fun q : Nat => s.heap.size ≤ q) q → lo ≤ q := fun q h => Nat.le_trans hlo h
  have hS : va_S (fun q : Nat => s.heap.size ≤ q) s.heap s.heap [] := va_S.rf
  have hl := lv_entry ([.ref z0, .int (nI cn), .int p1]) (n := 3) (Nat.le_of_ble_eq_true rfl)
  rw [lg_entry_eq]
  generalize (lg_sl ([.ref z0, .int (nI cn), .int p1]) ++ List.replicate (3 - (lg_sl ([.ref z0, .int (nI cn), .int p1])).length) Slot.unset).toArray = ls at hl ⊢
  have hl : lv_has ls 3 [(0, .ref z0), (1, .int (nI cn)), (2, .int p1)] := hl
  refine lv_iload_n hx hb dX1_leftBehind_0 rfl (lv_at hl 2 rfl) ?_
  refine lv_iconst (v := 1) hx hb dX1_leftBehind_1 (by decide) ?_
  refine lv_aload_n hx hb dX1_leftBehind_2 rfl (lv_at hl 0 rfl) ?_
  refine lv_aload_n hx hb dX1_leftBehind_3 rfl (lv_at hl 0 rfl) ?_
  refine va_get (D := D) (ci := 1) (v := .ref z1) (C := RX1) (T := TX1) (N := 8) hx hb hts inX1 hown hK hP 0 rfl rfl 1 (by decide) (hts _ tw_236) (fun _ h9 => h9) rfl dX1_leftBehind_4 ?_
  refine lv_iload_n hx hb dX1_leftBehind_7 rfl (lv_at hl 1 rfl) ?_
  refine va_iald hx hb hK hP 1 1 rfl rfl (vp_in_nI (by omega) (by decide)) dX1_leftBehind_8 ?_
  have hq_1 := hpb cn
  refine lv_ti (y := (nI (pb cn))) (by rw [nI_clamp (by omega)]; rfl) ?_
  refine lv_iload_n hx hb dX1_leftBehind_9 rfl (lv_at hl 2 rfl) ?_
  refine ro_i (D := D) (va_runV (As := [.int (nI (pb cn)), .int p1]) (rest := [.int 1, .int p1]) ⟨hx, hb, hml, hown, hts⟩ ((x_placeFrom l D k st lo c0 z0 z1 z2 z3 pn pf pd pe (pb cn) p1 (by first | assumption | omega) (by first | assumption | omega)) s.heap.size) (cwV 2 hts (gV tw_838 tw_840 tw_20 tw_84 tw_841) rfl rfl rfl (by decide +kernel) ⟨Nat.le_of_ble_eq_true rfl, Nat.le_of_ble_eq_true rfl⟩) (pV hS hAlo hlo hP hK hDL hZ [0] (by decide) rfl (ci := 1) (q := (RX1, TX1, 8)) (q0 := 0) rfl rfl) rfl rfl hl.1 rfl (lv_room (Nat.le_of_ble_eq_true rfl)) dX1_leftBehind_10 ⟨Nat.le_of_ble_eq_true rfl, Nat.le_of_ble_eq_true rfl⟩) hS hA hP (fun r_2 H locs hw_2 hP hS => ?_)
  try dsimp only at hw_2
  obtain ⟨zp_3, hzp_3, rfl⟩ := hw_2
  refine lv_ishl hx hb dX1_leftBehind_13 ?_
  refine lv_topi (fun x_4 ex_4 => ?_)
  refine lv_iconst (v := (-1)) hx hb dX1_leftBehind_14 (by decide) ?_
  refine lv_ixor hx hb dX1_leftBehind_15 ?_
  refine lv_topi (fun x_5 ex_5 => ?_)
  refine lv_iand hx hb dX1_leftBehind_16 ?_
  refine lv_topi (fun x_6 ex_6 => ?_)
  exact W.iret (v := x_6) hx hb hr (fun t ht hW => ⟨⟨x_6, (), rfl, trivial, trivial⟩, hS.F ht⟩) hS.2.2 dX1_leftBehind_17

theorem dX1_placeOf_0 : decode cX1_placeOf 0 = .ok (.aload_n 0, 1) := by decide +kernel
theorem dX1_placeOf_1 : decode cX1_placeOf 1 = .ok (.getfield 25, 3) := by decide +kernel
theorem dX1_placeOf_4 : decode cX1_placeOf 4 = .ok (.istore_n 2, 1) := by decide +kernel
theorem dX1_placeOf_5 : decode cX1_placeOf 5 = .ok (.iconst 0, 1) := by decide +kernel
theorem dX1_placeOf_6 : decode cX1_placeOf 6 = .ok (.istore_n 3, 1) := by decide +kernel
theorem dX1_placeOf_7 : decode cX1_placeOf 7 = .ok (.iload_n 3, 1) := by decide +kernel
theorem dX1_placeOf_8 : decode cX1_placeOf 8 = .ok (.iload_n 1, 1) := by decide +kernel
theorem dX1_placeOf_9 : decode cX1_placeOf 9 = .ok (.if_icmp .ge 16, 3) := by decide +kernel
theorem dX1_placeOf_12 : decode cX1_placeOf 12 = .ok (.aload_n 0, 1) := by decide +kernel
theorem dX1_placeOf_13 : decode cX1_placeOf 13 = .ok (.iload_n 3, 1) := by decide +kernel
theorem dX1_placeOf_14 : decode cX1_placeOf 14 = .ok (.iload_n 2, 1) := by decide +kernel
theorem dX1_placeOf_15 : decode cX1_placeOf 15 = .ok (.invokevirtual 77, 3) := by decide +kernel
theorem dX1_placeOf_18 : decode cX1_placeOf 18 = .ok (.istore_n 2, 1) := by decide +kernel
theorem dX1_placeOf_19 : decode cX1_placeOf 19 = .ok (.iinc 3 1, 3) := by decide +kernel
theorem dX1_placeOf_22 : decode cX1_placeOf 22 = .ok (.goto (-15), 3) := by decide +kernel
theorem dX1_placeOf_25 : decode cX1_placeOf 25 = .ok (.aload_n 0, 1) := by decide +kernel
theorem dX1_placeOf_26 : decode cX1_placeOf 26 = .ok (.aload_n 0, 1) := by decide +kernel
theorem dX1_placeOf_27 : decode cX1_placeOf 27 = .ok (.getfield 9, 3) := by decide +kernel
theorem dX1_placeOf_30 : decode cX1_placeOf 30 = .ok (.iload_n 1, 1) := by decide +kernel
theorem dX1_placeOf_31 : decode cX1_placeOf 31 = .ok (.iaload, 1) := by decide +kernel
theorem dX1_placeOf_32 : decode cX1_placeOf 32 = .ok (.iload_n 2, 1) := by decide +kernel
theorem dX1_placeOf_33 : decode cX1_placeOf 33 = .ok (.invokevirtual 74, 3) := by decide +kernel
theorem dX1_placeOf_36 : decode cX1_placeOf 36 = .ok (.ireturn, 1) := by decide +kernel
set_option maxHeartbeats 4000000 in
set_option maxRecDepth 100000 in
theorem x_placeOf (l : Launch) (D : va_G) (k : Nat → ClassId) (st : Nat → Nat) (lo : Nat) (c0 : Nat) (z0 : Nat) (z1 : Nat) (z2 : Nat) (z3 : Nat) (pn : Nat) (pf : Int32) (pd : Int32) (pe : Int32) (pb : Nat → Nat) (cn : Nat) (hpn : pn ≤ 24) (hcn : cn < 4) (hpb : ∀ j, pb j ≤ 24) : CRi l D k st lo yX1_placeOf cX1_placeOf 4 (some .int) ({ frames := 2, cells := 0, slots := 0, locals := 45 }) [.ref z0, .int (nI cn)] [(z0, .inr (1, (fX1 c0 z1 z2 z3 (nI pn) pf pd pe))), (aI k z1 4 (nF pb))] (fun r => ∃ z : Nat, z ≤ pn ∧ r = nI z) := by
  intro sz
  refine Met.ofW (cc := cX1_placeOf) (maxL := 4) (ret := (some .int)) (by decide) rfl ?_
  intro p e s m args below meth c s₁ B hml hv
  obtain ⟨rfl, hsz, hlo, hP, hK, hDL, hZ⟩ := hv
  have hx := B.exec
  have hb := B.bytes
  have hr := B.returns
  have hts := WS_ts B.pre
  have hown : s.vm.findClass RX1 = some m.cls := findClass_of_methodNamed B.named
  have hlocks := B.notSynchronized
  subst hsz
  have hA : ∀ q : Nat, s.heap.size ≤ q → (fun q : Nat => s.heap.size ≤ q) q := fun _ h => h
  have hAlo : ∀ q : Nat, (fun q : Nat => s.heap.size ≤ q) q → lo ≤ q := fun q h => Nat.le_trans hlo h
  have hS : va_S (fun q : Nat => s.heap.size ≤ q) s.heap s.heap [] := va_S.rf
  have hl := lv_entry ([.ref z0, .int (nI cn)]) (n := 4) (Nat.le_of_ble_eq_true rfl)
  rw [lg_entry_eq]
  generalize (lg_sl ([.ref z0, .int (nI cn)]) ++ List.replicate (4 - (lg_sl ([.ref z0, .int (nI cn)])).length) Slot.unset).toArray = ls at hl ⊢
  have hl : lv_has ls 4 [(0, .ref z0), (1, .int (nI cn))] := hl
  refine lv_aload_n hx hb dX1_placeOf_0 rfl (lv_at hl 0 rfl) ?_
  refine va_get (D := D) (ci := 1) (v := .int pf) (C := RX1) (T := TX1) (N := 8) hx hb hts inX1 hown hK hP 0 rfl rfl 5 (by decide) (hts _ tw_241) (fun _ h9 => h9) rfl dX1_placeOf_1 ?_
  refine lv_istore_n (lv' := [(2, .int pf), (0, .ref z0), (1, .int (nI cn))]) hx hb dX1_placeOf_4 rfl hl (by decide) rfl (fun ls hl => ?_)
  refine lv_iconst (v := 0) hx hb dX1_placeOf_5 (by decide) ?_
  refine lv_istore_n (lv' := [(3, .int 0), (2, .int pf), (0, .ref z0), (1, .int (nI cn))]) hx hb dX1_placeOf_6 rfl hl (by decide) rfl (fun ls hl => ?_)
  refine W_loop (σ := Nat × Int32) (fun (n_ : Nat) (x_ : Nat × Int32) (H : Heap) (locs : List Loc) (ls : Array Slot) => match x_ with | (ii_1, lf_1) => n_ = 5 - ii_1 ∧ (ii_1 ≤ cn) ∧ va_P D classes [(z0, .inr (1, (fX1 c0 z1 z2 z3 (nI pn) pf pd pe))), (aI k z1 4 (nF pb))] H ∧ va_S (fun q : Nat => s.heap.size ≤ q) s.heap H locs ∧ lv_has ls 4 [(3, .int (nI ii_1)), (2, .int lf_1), (0, .ref z0), (1, .int (nI cn))]) (fun n_1 x_1 H locs ls hI ih_1 => ?_) _ (0, pf) ⟨rfl, (by omega), hP, hS, (lv_sub hl [0, 1, 2, 3] rfl)⟩
  obtain ⟨ii_1, lf_1⟩ := x_1
  obtain ⟨hm_1, hv_1, hP, hS, hl⟩ := hI
  subst hm_1
  refine lv_iload_n hx hb dX1_placeOf_7 rfl (lv_at hl 0 rfl) ?_
  refine lv_iload_n hx hb dX1_placeOf_8 rfl (lv_at hl 3 rfl) ?_
  refine lv_icmp_ge (tgt := 25) hx hb dX1_placeOf_9 (by decide) (fun c_2 => ?_) (fun c_2 => ?_)
  · have c_2 := (nI_leI (a := cn) (b := ii_1) (by omega) (by omega)).mp c_2
    refine lv_aload_n hx hb dX1_placeOf_25 rfl (lv_at hl 2 rfl) ?_
    refine lv_aload_n hx hb dX1_placeOf_26 rfl (lv_at hl 2 rfl) ?_
    refine va_get (D := D) (ci := 1) (v := .ref z1) (C := RX1) (T := TX1) (N := 8) hx hb hts inX1 hown hK hP 0 rfl rfl 1 (by decide) (hts _ tw_236) (fun _ h9 => h9) rfl dX1_placeOf_27 ?_
    refine lv_iload_n hx hb dX1_placeOf_30 rfl (lv_at hl 3 rfl) ?_
    refine va_iald hx hb hK hP 1 1 rfl rfl (vp_in_nI (by omega) (by decide)) dX1_placeOf_31 ?_
    have hq_3 := hpb cn
    refine lv_ti (y := (nI (pb cn))) (by rw [nI_clamp (by omega)]; rfl) ?_
    refine lv_iload_n hx hb dX1_placeOf_32 rfl (lv_at hl 1 rfl) ?_
    refine ro_i (D := D) (va_runV (As := [.int (nI (pb cn)), .int lf_1]) (rest := []) ⟨hx, hb, hml, hown, hts⟩ ((x_placeFrom l D k st lo c0 z0 z1 z2 z3 pn pf pd pe (pb cn) lf_1 (by first | assumption | omega) (by first | assumption | omega)) H.size) (cwV 2 hts (gV tw_838 tw_840 tw_20 tw_84 tw_841) rfl rfl rfl (by decide +kernel) ⟨Nat.le_of_ble_eq_true rfl, Nat.le_of_ble_eq_true rfl⟩) (pV hS hAlo hlo hP hK hDL hZ [0] (by decide) rfl (ci := 1) (q := (RX1, TX1, 8)) (q0 := 0) rfl rfl) rfl rfl hl.1 rfl (lv_room (Nat.le_of_ble_eq_true rfl)) dX1_placeOf_33 ⟨Nat.le_of_ble_eq_true rfl, Nat.le_of_ble_eq_true rfl⟩) hS hA hP (fun r_4 H locs hw_4 hP hS => ?_)
    try dsimp only at hw_4
    obtain ⟨zp_5, hzp_5, rfl⟩ := hw_4
    exact W.iret (v := (nI zp_5)) hx hb hr (fun t ht hW => ⟨⟨(nI zp_5), (), rfl, ⟨_, by omega, rfl⟩, trivial⟩, hS.F ht⟩) hS.2.2 dX1_placeOf_36
  · have c_2 : ¬ (cn ≤ ii_1) := fun h => c_2 ((nI_leI (a := cn) (b := ii_1) (by omega) (by omega)).mpr h)
    refine lv_aload_n hx hb dX1_placeOf_12 rfl (lv_at hl 2 rfl) ?_
    refine lv_iload_n hx hb dX1_placeOf_13 rfl (lv_at hl 0 rfl) ?_
    refine lv_iload_n hx hb dX1_placeOf_14 rfl (lv_at hl 1 rfl) ?_
    refine ro_i (D := D) (va_runV (As := [.int (nI ii_1), .int lf_1]) (rest := []) ⟨hx, hb, hml, hown, hts⟩ ((x_leftBehind l D k st lo c0 z0 z1 z2 z3 pn pf pd pe pb ii_1 lf_1 (by first | assumption | omega) (by first | assumption | omega) hpb) H.size) (cwV 2 hts (gV tw_834 tw_836 tw_19 tw_84 tw_837) rfl rfl rfl (by decide +kernel) ⟨Nat.le_of_ble_eq_true rfl, Nat.le_of_ble_eq_true rfl⟩) (pV hS hAlo hlo hP hK hDL hZ [0, 1] (by decide) rfl (ci := 1) (q := (RX1, TX1, 8)) (q0 := 0) rfl rfl) rfl rfl hl.1 rfl (lv_room (Nat.le_of_ble_eq_true rfl)) dX1_placeOf_15 ⟨Nat.le_of_ble_eq_true rfl, Nat.le_of_ble_eq_true rfl⟩) hS hA hP (fun r_6 H locs hw_6 hP hS => ?_)
    try dsimp only at hw_6
    refine lv_istore_n (lv' := [(2, .int r_6), (3, .int (nI ii_1)), (0, .ref z0), (1, .int (nI cn))]) hx hb dX1_placeOf_18 rfl hl (by decide) rfl (fun ls hl => ?_)
    refine lv_iinc (v := (nI (ii_1 + 1))) (lv' := [(3, .int (nI (ii_1 + 1))), (2, .int r_6), (0, .ref z0), (1, .int (nI cn))]) hx hb dX1_placeOf_19 hl (k := 1) rfl (nI_add ii_1 1) (by decide) rfl (fun ls hl => ?_)
    refine lv_goto (tgt := 7) hx hb dX1_placeOf_22 (by decide) ?_
    exact ih_1 _ (ii_1 + 1, r_6) _ _ _ (by omega) ⟨rfl, (by omega), hP, hS, (lv_sub hl [0, 1, 2, 3] rfl)⟩

theorem dX1_bestBar_0 : decode cX1_bestBar 0 = .ok (.aload_n 0, 1) := by decide +kernel
theorem dX1_bestBar_1 : decode cX1_bestBar 1 = .ok (.getfield 21, 3) := by decide +kernel
theorem dX1_bestBar_4 : decode cX1_bestBar 4 = .ok (.istore_n 3, 1) := by decide +kernel
theorem dX1_bestBar_5 : decode cX1_bestBar 5 = .ok (.iload_n 3, 1) := by decide +kernel
theorem dX1_bestBar_6 : decode cX1_bestBar 6 = .ok (.istore 4, 2) := by decide +kernel
theorem dX1_bestBar_8 : decode cX1_bestBar 8 = .ok (.aload_n 0, 1) := by decide +kernel
theorem dX1_bestBar_9 : decode cX1_bestBar 9 = .ok (.iload_n 1, 1) := by decide +kernel
theorem dX1_bestBar_10 : decode cX1_bestBar 10 = .ok (.iload 4, 2) := by decide +kernel
theorem dX1_bestBar_12 : decode cX1_bestBar 12 = .ok (.invokevirtual 80, 3) := by decide +kernel
theorem dX1_bestBar_15 : decode cX1_bestBar 15 = .ok (.istore 5, 2) := by decide +kernel
theorem dX1_bestBar_17 : decode cX1_bestBar 17 = .ok (.aload_n 0, 1) := by decide +kernel
theorem dX1_bestBar_18 : decode cX1_bestBar 18 = .ok (.getfield 21, 3) := by decide +kernel
theorem dX1_bestBar_21 : decode cX1_bestBar 21 = .ok (.iconst 1, 1) := by decide +kernel
theorem dX1_bestBar_22 : decode cX1_bestBar 22 = .ok (.isub, 1) := by decide +kernel
theorem dX1_bestBar_23 : decode cX1_bestBar 23 = .ok (.istore 6, 2) := by decide +kernel
theorem dX1_bestBar_25 : decode cX1_bestBar 25 = .ok (.iload 6, 2) := by decide +kernel
theorem dX1_bestBar_27 : decode cX1_bestBar 27 = .ok (.ifCond .lt 45, 3) := by decide +kernel
theorem dX1_bestBar_30 : decode cX1_bestBar 30 = .ok (.iload_n 2, 1) := by decide +kernel
theorem dX1_bestBar_31 : decode cX1_bestBar 31 = .ok (.iload 6, 2) := by decide +kernel
theorem dX1_bestBar_33 : decode cX1_bestBar 33 = .ok (.ishr, 1) := by decide +kernel
theorem dX1_bestBar_34 : decode cX1_bestBar 34 = .ok (.iconst 1, 1) := by decide +kernel
theorem dX1_bestBar_35 : decode cX1_bestBar 35 = .ok (.iand, 1) := by decide +kernel
theorem dX1_bestBar_36 : decode cX1_bestBar 36 = .ok (.ifCond .eq 7, 3) := by decide +kernel
theorem dX1_bestBar_39 : decode cX1_bestBar 39 = .ok (.iload 6, 2) := by decide +kernel
theorem dX1_bestBar_41 : decode cX1_bestBar 41 = .ok (.istore 4, 2) := by decide +kernel
theorem dX1_bestBar_43 : decode cX1_bestBar 43 = .ok (.aload_n 0, 1) := by decide +kernel
theorem dX1_bestBar_44 : decode cX1_bestBar 44 = .ok (.iload_n 1, 1) := by decide +kernel
theorem dX1_bestBar_45 : decode cX1_bestBar 45 = .ok (.iload 4, 2) := by decide +kernel
theorem dX1_bestBar_47 : decode cX1_bestBar 47 = .ok (.invokevirtual 80, 3) := by decide +kernel
theorem dX1_bestBar_50 : decode cX1_bestBar 50 = .ok (.istore 7, 2) := by decide +kernel
theorem dX1_bestBar_52 : decode cX1_bestBar 52 = .ok (.iload 7, 2) := by decide +kernel
theorem dX1_bestBar_54 : decode cX1_bestBar 54 = .ok (.iload 5, 2) := by decide +kernel
theorem dX1_bestBar_56 : decode cX1_bestBar 56 = .ok (.if_icmp .gt 10, 3) := by decide +kernel
theorem dX1_bestBar_59 : decode cX1_bestBar 59 = .ok (.iload 7, 2) := by decide +kernel
theorem dX1_bestBar_61 : decode cX1_bestBar 61 = .ok (.istore 5, 2) := by decide +kernel
theorem dX1_bestBar_63 : decode cX1_bestBar 63 = .ok (.iload 6, 2) := by decide +kernel
theorem dX1_bestBar_65 : decode cX1_bestBar 65 = .ok (.istore_n 3, 1) := by decide +kernel
theorem dX1_bestBar_66 : decode cX1_bestBar 66 = .ok (.iinc 6 (-1), 3) := by decide +kernel
theorem dX1_bestBar_69 : decode cX1_bestBar 69 = .ok (.goto (-44), 3) := by decide +kernel
theorem dX1_bestBar_72 : decode cX1_bestBar 72 = .ok (.aload_n 0, 1) := by decide +kernel
theorem dX1_bestBar_73 : decode cX1_bestBar 73 = .ok (.getfield 9, 3) := by decide +kernel
theorem dX1_bestBar_76 : decode cX1_bestBar 76 = .ok (.iload_n 1, 1) := by decide +kernel
theorem dX1_bestBar_77 : decode cX1_bestBar 77 = .ok (.iaload, 1) := by decide +kernel
theorem dX1_bestBar_78 : decode cX1_bestBar 78 = .ok (.aload_n 0, 1) := by decide +kernel
theorem dX1_bestBar_79 : decode cX1_bestBar 79 = .ok (.getfield 21, 3) := by decide +kernel
theorem dX1_bestBar_82 : decode cX1_bestBar 82 = .ok (.if_icmp .gt 28, 3) := by decide +kernel
theorem dX1_bestBar_85 : decode cX1_bestBar 85 = .ok (.aload_n 0, 1) := by decide +kernel
theorem dX1_bestBar_86 : decode cX1_bestBar 86 = .ok (.iload_n 1, 1) := by decide +kernel
theorem dX1_bestBar_87 : decode cX1_bestBar 87 = .ok (.aload_n 0, 1) := by decide +kernel
theorem dX1_bestBar_88 : decode cX1_bestBar 88 = .ok (.aload_n 0, 1) := by decide +kernel
theorem dX1_bestBar_89 : decode cX1_bestBar 89 = .ok (.getfield 9, 3) := by decide +kernel
theorem dX1_bestBar_92 : decode cX1_bestBar 92 = .ok (.iload_n 1, 1) := by decide +kernel
theorem dX1_bestBar_93 : decode cX1_bestBar 93 = .ok (.iaload, 1) := by decide +kernel
theorem dX1_bestBar_94 : decode cX1_bestBar 94 = .ok (.iload_n 2, 1) := by decide +kernel
theorem dX1_bestBar_95 : decode cX1_bestBar 95 = .ok (.invokevirtual 74, 3) := by decide +kernel
theorem dX1_bestBar_98 : decode cX1_bestBar 98 = .ok (.invokevirtual 80, 3) := by decide +kernel
theorem dX1_bestBar_101 : decode cX1_bestBar 101 = .ok (.iload 5, 2) := by decide +kernel
theorem dX1_bestBar_103 : decode cX1_bestBar 103 = .ok (.if_icmp .ne 7, 3) := by decide +kernel
theorem dX1_bestBar_106 : decode cX1_bestBar 106 = .ok (.iconst 1, 1) := by decide +kernel
theorem dX1_bestBar_107 : decode cX1_bestBar 107 = .ok (.goto 4, 3) := by decide +kernel
theorem dX1_bestBar_110 : decode cX1_bestBar 110 = .ok (.iconst 0, 1) := by decide +kernel
theorem dX1_bestBar_111 : decode cX1_bestBar 111 = .ok (.istore 6, 2) := by decide +kernel
theorem dX1_bestBar_113 : decode cX1_bestBar 113 = .ok (.iload 6, 2) := by decide +kernel
theorem dX1_bestBar_115 : decode cX1_bestBar 115 = .ok (.ifCond .eq 12, 3) := by decide +kernel
theorem dX1_bestBar_118 : decode cX1_bestBar 118 = .ok (.aload_n 0, 1) := by decide +kernel
theorem dX1_bestBar_119 : decode cX1_bestBar 119 = .ok (.getfield 9, 3) := by decide +kernel
theorem dX1_bestBar_122 : decode cX1_bestBar 122 = .ok (.iload_n 1, 1) := by decide +kernel
theorem dX1_bestBar_123 : decode cX1_bestBar 123 = .ok (.iaload, 1) := by decide +kernel
theorem dX1_bestBar_124 : decode cX1_bestBar 124 = .ok (.goto 4, 3) := by decide +kernel
theorem dX1_bestBar_127 : decode cX1_bestBar 127 = .ok (.iload_n 3, 1) := by decide +kernel
theorem dX1_bestBar_128 : decode cX1_bestBar 128 = .ok (.ireturn, 1) := by decide +kernel
set_option maxHeartbeats 4000000 in
set_option maxRecDepth 100000 in
theorem x_bestBar (l : Launch) (D : va_G) (k : Nat → ClassId) (st : Nat → Nat) (lo : Nat) (c0 : Nat) (z0 : Nat) (z1 : Nat) (z2 : Nat) (z3 : Nat) (pn : Nat) (pf : Int32) (pd : Int32) (pe : Int32) (pb : Nat → Nat) (pco : Nat → Int32) (cn : Nat) (p1 : Int32) (hpn : pn ≤ 24) (hcn : cn < 4) (hpb : ∀ j, pb j ≤ 24) : CRi l D k st lo yX1_bestBar cX1_bestBar 8 (some .int) ({ frames := 2, cells := 0, slots := 0, locals := 45 }) [.ref z0, .int (nI cn), .int p1] [(z0, .inr (1, (fX1 c0 z1 z2 z3 (nI pn) pf pd pe))), (aI k z1 4 (nF pb)), (aI k z2 100 pco)] (fun r => ∃ z : Nat, z ≤ 24 ∧ r = nI z) := by
  intro sz
  refine Met.ofW (cc := cX1_bestBar) (maxL := 8) (ret := (some .int)) (by decide) rfl ?_
  intro p e s m args below meth c s₁ B hml hv
  obtain ⟨rfl, hsz, hlo, hP, hK, hDL, hZ⟩ := hv
  have hx := B.exec
  have hb := B.bytes
  have hr := B.returns
  have hts := WS_ts B.pre
  have hown : s.vm.findClass RX1 = some m.cls := findClass_of_methodNamed B.named
  have hlocks := B.notSynchronized
  subst hsz
  have hA : ∀ q : Nat, s.heap.size ≤ q → (fun q : Nat => s.heap.size ≤ q) q := fun _ h => h
  have hAlo : ∀ q : Nat, (fun q : Nat => s.heap.size ≤ q) q → lo ≤ q := fun q h => Nat.le_trans hlo h
  have hS : va_S (fun q : Nat => s.heap.size ≤ q) s.heap s.heap [] := va_S.rf
  have hl := lv_entry ([.ref z0, .int (nI cn), .int p1]) (n := 8) (Nat.le_of_ble_eq_true rfl)
  rw [lg_entry_eq]
  generalize (lg_sl ([.ref z0, .int (nI cn), .int p1]) ++ List.replicate (8 - (lg_sl ([.ref z0, .int (nI cn), .int p1])).length) Slot.unset).toArray = ls at hl ⊢
  have hl : lv_has ls 8 [(0, .ref z0), (1, .int (nI cn)), (2, .int p1)] := hl
  refine lv_aload_n hx hb dX1_bestBar_0 rfl (lv_at hl 0 rfl) ?_
  refine va_get (D := D) (ci := 1) (v := .int (nI pn)) (C := RX1) (T := TX1) (N := 8) hx hb hts inX1 hown hK hP 0 rfl rfl 4 (by decide) (hts _ tw_240) (fun _ h9 => h9) rfl dX1_bestBar_1 ?_
  refine lv_istore_n (lv' := [(3, .int (nI pn)), (0, .ref z0), (1, .int (nI cn)), (2, .int p1)]) hx hb dX1_bestBar_4 rfl hl (by decide) rfl (fun ls hl => ?_)
  refine lv_iload_n hx hb dX1_bestBar_5 rfl (lv_at hl 0 rfl) ?_
  refine lv_istore (lv' := [(4, .int (nI pn)), (3, .int (nI pn)), (0, .ref z0), (1, .int (nI cn)), (2, .int p1)]) hx hb dX1_bestBar_6 hl (by decide) rfl (fun ls hl => ?_)
  refine lv_aload_n hx hb dX1_bestBar_8 rfl (lv_at hl 2 rfl) ?_
  refine lv_iload_n hx hb dX1_bestBar_9 rfl (lv_at hl 3 rfl) ?_
  refine lv_iload hx hb dX1_bestBar_10 (lv_at hl 0 rfl) ?_
  refine ro_i (D := D) (va_runV (As := [.int (nI cn), .int (nI pn)]) (rest := []) ⟨hx, hb, hml, hown, hts⟩ ((x_paidAt l D k st lo c0 z0 z1 z2 z3 pn pf pd pe pco cn pn (by first | assumption | omega) (by first | assumption | omega) (by first | assumption | omega)) s.heap.size) (cwV 2 hts (gV tw_862 tw_864 tw_23 tw_84 tw_865) rfl rfl rfl (by decide +kernel) ⟨Nat.le_of_ble_eq_true rfl, Nat.le_of_ble_eq_true rfl⟩) (pV hS hAlo hlo hP hK hDL hZ [0, 2] (by decide) rfl (ci := 1) (q := (RX1, TX1, 8)) (q0 := 0) rfl rfl) rfl rfl hl.1 rfl (lv_room (Nat.le_of_ble_eq_true rfl)) dX1_bestBar_12 ⟨Nat.le_of_ble_eq_true rfl, Nat.le_of_ble_eq_true rfl⟩) hS hA hP (fun r_1 H locs hw_1 hP hS => ?_)
  try dsimp only at hw_1
  refine lv_istore (lv' := [(5, .int r_1), (4, .int (nI pn)), (3, .int (nI pn)), (0, .ref z0), (1, .int (nI cn)), (2, .int p1)]) hx hb dX1_bestBar_15 hl (by decide) rfl (fun ls hl => ?_)
  refine lv_aload_n hx hb dX1_bestBar_17 rfl (lv_at hl 3 rfl) ?_
  refine va_get (D := D) (ci := 1) (v := .int (nI pn)) (C := RX1) (T := TX1) (N := 8) hx hb hts inX1 hown hK hP 0 rfl rfl 4 (by decide) (hts _ tw_240) (fun _ h9 => h9) rfl dX1_bestBar_18 ?_
  refine lv_iconst (v := 1) hx hb dX1_bestBar_21 (by decide) ?_
  refine lv_isub hx hb dX1_bestBar_22 ?_
  refine lv_ti (y := (nI pn - 1)) rfl ?_
  refine lv_istore (lv' := [(6, .int (nI pn - 1)), (5, .int r_1), (4, .int (nI pn)), (3, .int (nI pn)), (0, .ref z0), (1, .int (nI cn)), (2, .int p1)]) hx hb dX1_bestBar_23 hl (by decide) rfl (fun ls hl => ?_)
  refine W_loop (σ := Nat × Nat × Nat × Int32) (fun (n_ : Nat) (x_ : Nat × Nat × Nat × Int32) (H : Heap) (locs : List Loc) (ls : Array Slot) => match x_ with | (q_2, be_2, pl2_2, le_2) => n_ = 2 * q_2 ∧ (q_2 ≤ pn ∧ be_2 ≤ 24 ∧ pl2_2 ≤ 24) ∧ va_P D classes [(z0, .inr (1, (fX1 c0 z1 z2 z3 (nI pn) pf pd pe))), (aI k z1 4 (nF pb)), (aI k z2 100 pco)] H ∧ va_S (fun q : Nat => s.heap.size ≤ q) s.heap H locs ∧ lv_has ls 8 [(6, .int (nI q_2 - 1)), (5, .int le_2), (4, .int (nI pl2_2)), (3, .int (nI be_2)), (0, .ref z0), (1, .int (nI cn)), (2, .int p1)]) (fun n_2 x_2 H locs ls hI ih_2 => ?_) _ (pn, pn, pn, r_1) ⟨rfl, ⟨by omega, by omega, by omega⟩, hP, hS, (lv_sub hl [0, 1, 2, 3, 4, 5, 6] rfl)⟩
  obtain ⟨q_2, be_2, pl2_2, le_2⟩ := x_2
  obtain ⟨hm_2, hv_2, hP, hS, hl⟩ := hI
  subst hm_2
  rcases q_2 with _ | q_2
  · rw [dn0] at hl
    refine lv_iload hx hb dX1_bestBar_25 (lv_at hl 0 rfl) ?_
    refine lv_if_lt (tgt := 72) hx hb dX1_bestBar_27 (by decide) (fun _ => ?_) (fun h => absurd (by decide) h)
    refine lv_aload_n hx hb dX1_bestBar_72 rfl (lv_at hl 4 rfl) ?_
    refine va_get (D := D) (ci := 1) (v := .ref z1) (C := RX1) (T := TX1) (N := 8) hx hb hts inX1 hown hK hP 0 rfl rfl 1 (by decide) (hts _ tw_236) (fun _ h9 => h9) rfl dX1_bestBar_73 ?_
    refine lv_iload_n hx hb dX1_bestBar_76 rfl (lv_at hl 5 rfl) ?_
    refine va_iald hx hb hK hP 1 1 rfl rfl (vp_in_nI (by omega) (by decide)) dX1_bestBar_77 ?_
    have hq_3 := hpb cn
    refine lv_ti (y := (nI (pb cn))) (by rw [nI_clamp (by omega)]; rfl) ?_
    refine lv_aload_n hx hb dX1_bestBar_78 rfl (lv_at hl 4 rfl) ?_
    refine va_get (D := D) (ci := 1) (v := .int (nI pn)) (C := RX1) (T := TX1) (N := 8) hx hb hts inX1 hown hK hP 0 rfl rfl 4 (by decide) (hts _ tw_240) (fun _ h9 => h9) rfl dX1_bestBar_79 ?_
    refine lv_icmp_gt (tgt := 110) hx hb dX1_bestBar_82 (by decide) (fun c_4 => ?_) (fun c_4 => ?_)
    · have c_4 := (nI_ltI (a := pn) (b := (pb cn)) (by omega) (by omega)).mp c_4
      refine lv_iconst (v := 0) hx hb dX1_bestBar_110 (by decide) ?_
      refine lv_istore (lv' := [(6, .int 0), (5, .int le_2), (4, .int (nI pl2_2)), (3, .int (nI be_2)), (0, .ref z0), (1, .int (nI cn)), (2, .int p1)]) hx hb dX1_bestBar_111 hl (by decide) rfl (fun ls hl => ?_)
      refine lv_iload hx hb dX1_bestBar_113 (lv_at hl 0 rfl) ?_
      refine lv_if_eq (tgt := 127) hx hb dX1_bestBar_115 (by decide) (fun _ => ?_) (fun h => absurd (by decide) h)
      refine lv_iload_n hx hb dX1_bestBar_127 rfl (lv_at hl 3 rfl) ?_
      exact W.iret (v := (nI be_2)) hx hb hr (fun t ht hW => ⟨⟨(nI be_2), (), rfl, ⟨_, by omega, rfl⟩, trivial⟩, hS.F ht⟩) hS.2.2 dX1_bestBar_128
    · have c_4 : ¬ (pn < (pb cn)) := fun h => c_4 ((nI_ltI (a := pn) (b := (pb cn)) (by omega) (by omega)).mpr h)
      refine lv_aload_n hx hb dX1_bestBar_85 rfl (lv_at hl 4 rfl) ?_
      refine lv_iload_n hx hb dX1_bestBar_86 rfl (lv_at hl 5 rfl) ?_
      refine lv_aload_n hx hb dX1_bestBar_87 rfl (lv_at hl 4 rfl) ?_
      refine lv_aload_n hx hb dX1_bestBar_88 rfl (lv_at hl 4 rfl) ?_
      refine va_get (D := D) (ci := 1) (v := .ref z1) (C := RX1) (T := TX1) (N := 8) hx hb hts inX1 hown hK hP 0 rfl rfl 1 (by decide) (hts _ tw_236) (fun _ h9 => h9) rfl dX1_bestBar_89 ?_
      refine lv_iload_n hx hb dX1_bestBar_92 rfl (lv_at hl 5 rfl) ?_
      refine va_iald hx hb hK hP 1 1 rfl rfl (vp_in_nI (by omega) (by decide)) dX1_bestBar_93 ?_
      have hq_5 := hpb cn
      refine lv_ti (y := (nI (pb cn))) (by rw [nI_clamp (by omega)]; rfl) ?_
      refine lv_iload_n hx hb dX1_bestBar_94 rfl (lv_at hl 6 rfl) ?_
      refine ro_i (D := D) (va_runV (As := [.int (nI (pb cn)), .int p1]) (rest := [.int (nI cn), .ref z0]) ⟨hx, hb, hml, hown, hts⟩ ((x_placeFrom l D k st lo c0 z0 z1 z2 z3 pn pf pd pe (pb cn) p1 (by first | assumption | omega) (by first | assumption | omega)) H.size) (cwV 2 hts (gV tw_838 tw_840 tw_20 tw_84 tw_841) rfl rfl rfl (by decide +kernel) ⟨Nat.le_of_ble_eq_true rfl, Nat.le_of_ble_eq_true rfl⟩) (pV hS hAlo hlo hP hK hDL hZ [0] (by decide) rfl (ci := 1) (q := (RX1, TX1, 8)) (q0 := 0) rfl rfl) rfl rfl hl.1 rfl (lv_room (Nat.le_of_ble_eq_true rfl)) dX1_bestBar_95 ⟨Nat.le_of_ble_eq_true rfl, Nat.le_of_ble_eq_true rfl⟩) hS hA hP (fun r_6 H locs hw_6 hP hS => ?_)
      try dsimp only at hw_6
      obtain ⟨zp_7, hzp_7, rfl⟩ := hw_6
      refine ro_i (D := D) (va_runV (As := [.int (nI cn), .int (nI zp_7)]) (rest := []) ⟨hx, hb, hml, hown, hts⟩ ((x_paidAt l D k st lo c0 z0 z1 z2 z3 pn pf pd pe pco cn zp_7 (by first | assumption | omega) (by first | assumption | omega) (by first | assumption | omega)) H.size) (cwV 2 hts (gV tw_862 tw_864 tw_23 tw_84 tw_865) rfl rfl rfl (by decide +kernel) ⟨Nat.le_of_ble_eq_true rfl, Nat.le_of_ble_eq_true rfl⟩) (pV hS hAlo hlo hP hK hDL hZ [0, 2] (by decide) rfl (ci := 1) (q := (RX1, TX1, 8)) (q0 := 0) rfl rfl) rfl rfl hl.1 rfl (lv_room (Nat.le_of_ble_eq_true rfl)) dX1_bestBar_98 ⟨Nat.le_of_ble_eq_true rfl, Nat.le_of_ble_eq_true rfl⟩) hS hA hP (fun r_8 H locs hw_8 hP hS => ?_)
      try dsimp only at hw_8
      refine lv_iload hx hb dX1_bestBar_101 (lv_at hl 1 rfl) ?_
      refine lv_icmp_ne (tgt := 110) hx hb dX1_bestBar_103 (by decide) (fun c_9 => ?_) (fun c_9 => ?_)
      · refine lv_iconst (v := 0) hx hb dX1_bestBar_110 (by decide) ?_
        refine lv_istore (lv' := [(6, .int 0), (5, .int le_2), (4, .int (nI pl2_2)), (3, .int (nI be_2)), (0, .ref z0), (1, .int (nI cn)), (2, .int p1)]) hx hb dX1_bestBar_111 hl (by decide) rfl (fun ls hl => ?_)
        refine lv_iload hx hb dX1_bestBar_113 (lv_at hl 0 rfl) ?_
        refine lv_if_eq (tgt := 127) hx hb dX1_bestBar_115 (by decide) (fun _ => ?_) (fun h => absurd (by decide) h)
        refine lv_iload_n hx hb dX1_bestBar_127 rfl (lv_at hl 3 rfl) ?_
        exact W.iret (v := (nI be_2)) hx hb hr (fun t ht hW => ⟨⟨(nI be_2), (), rfl, ⟨_, by omega, rfl⟩, trivial⟩, hS.F ht⟩) hS.2.2 dX1_bestBar_128
      · refine lv_iconst (v := 1) hx hb dX1_bestBar_106 (by decide) ?_
        refine lv_goto (tgt := 111) hx hb dX1_bestBar_107 (by decide) ?_
        refine lv_istore (lv' := [(6, .int 1), (5, .int le_2), (4, .int (nI pl2_2)), (3, .int (nI be_2)), (0, .ref z0), (1, .int (nI cn)), (2, .int p1)]) hx hb dX1_bestBar_111 hl (by decide) rfl (fun ls hl => ?_)
        refine lv_iload hx hb dX1_bestBar_113 (lv_at hl 0 rfl) ?_
        refine lv_if_eq (tgt := 127) hx hb dX1_bestBar_115 (by decide) (fun h => absurd h (by decide)) (fun _ => ?_)
        refine lv_aload_n hx hb dX1_bestBar_118 rfl (lv_at hl 4 rfl) ?_
        refine va_get (D := D) (ci := 1) (v := .ref z1) (C := RX1) (T := TX1) (N := 8) hx hb hts inX1 hown hK hP 0 rfl rfl 1 (by decide) (hts _ tw_236) (fun _ h9 => h9) rfl dX1_bestBar_119 ?_
        refine lv_iload_n hx hb dX1_bestBar_122 rfl (lv_at hl 5 rfl) ?_
        refine va_iald hx hb hK hP 1 1 rfl rfl (vp_in_nI (by omega) (by decide)) dX1_bestBar_123 ?_
        have hq_10 := hpb cn
        refine lv_ti (y := (nI (pb cn))) (by rw [nI_clamp (by omega)]; rfl) ?_
        refine lv_goto (tgt := 128) hx hb dX1_bestBar_124 (by decide) ?_
        exact W.iret (v := (nI (pb cn))) hx hb hr (fun t ht hW => ⟨⟨(nI (pb cn)), (), rfl, ⟨_, by omega, rfl⟩, trivial⟩, hS.F ht⟩) hS.2.2 dX1_bestBar_128
  · rw [nI_pred] at hl
    refine lv_iload hx hb dX1_bestBar_25 (lv_at hl 0 rfl) ?_
    refine lv_if_lt (tgt := 72) hx hb dX1_bestBar_27 (by decide) (fun h => absurd h (nI_pos0 (by omega))) (fun _ => ?_)
    refine lv_iload_n hx hb dX1_bestBar_30 rfl (lv_at hl 6 rfl) ?_
    refine lv_iload hx hb dX1_bestBar_31 (lv_at hl 0 rfl) ?_
    refine lv_ishr hx hb dX1_bestBar_33 ?_
    refine lv_topi (fun x_11 ex_11 => ?_)
    refine lv_iconst (v := 1) hx hb dX1_bestBar_34 (by decide) ?_
    refine lv_iand hx hb dX1_bestBar_35 ?_
    refine lv_topi (fun x_12 ex_12 => ?_)
    refine lv_if_eq (tgt := 43) hx hb dX1_bestBar_36 (by decide) (fun c_13 => ?_) (fun c_13 => ?_)
    · refine lv_aload_n hx hb dX1_bestBar_43 rfl (lv_at hl 4 rfl) ?_
      refine lv_iload_n hx hb dX1_bestBar_44 rfl (lv_at hl 5 rfl) ?_
      refine lv_iload hx hb dX1_bestBar_45 (lv_at hl 2 rfl) ?_
      refine ro_i (D := D) (va_runV (As := [.int (nI cn), .int (nI pl2_2)]) (rest := []) ⟨hx, hb, hml, hown, hts⟩ ((x_paidAt l D k st lo c0 z0 z1 z2 z3 pn pf pd pe pco cn pl2_2 (by first | assumption | omega) (by first | assumption | omega) (by first | assumption | omega)) H.size) (cwV 2 hts (gV tw_862 tw_864 tw_23 tw_84 tw_865) rfl rfl rfl (by decide +kernel) ⟨Nat.le_of_ble_eq_true rfl, Nat.le_of_ble_eq_true rfl⟩) (pV hS hAlo hlo hP hK hDL hZ [0, 2] (by decide) rfl (ci := 1) (q := (RX1, TX1, 8)) (q0 := 0) rfl rfl) rfl rfl hl.1 rfl (lv_room (Nat.le_of_ble_eq_true rfl)) dX1_bestBar_47 ⟨Nat.le_of_ble_eq_true rfl, Nat.le_of_ble_eq_true rfl⟩) hS hA hP (fun r_14 H locs hw_14 hP hS => ?_)
      try dsimp only at hw_14
      refine lv_istore (lv' := [(7, .int r_14), (6, .int (nI q_2)), (5, .int le_2), (4, .int (nI pl2_2)), (3, .int (nI be_2)), (0, .ref z0), (1, .int (nI cn)), (2, .int p1)]) hx hb dX1_bestBar_50 hl (by decide) rfl (fun ls hl => ?_)
      refine lv_iload hx hb dX1_bestBar_52 (lv_at hl 0 rfl) ?_
      refine lv_iload hx hb dX1_bestBar_54 (lv_at hl 2 rfl) ?_
      refine lv_icmp_gt (tgt := 66) hx hb dX1_bestBar_56 (by decide) (fun c_15 => ?_) (fun c_15 => ?_)
      · refine lv_iinc (v := (nI q_2 - 1)) (lv' := [(6, .int (nI q_2 - 1)), (7, .int r_14), (5, .int le_2), (4, .int (nI pl2_2)), (3, .int (nI be_2)), (0, .ref z0), (1, .int (nI cn)), (2, .int p1)]) hx hb dX1_bestBar_66 hl (k := 1) rfl (dn1 _) (by decide) rfl (fun ls hl => ?_)
        refine lv_goto (tgt := 25) hx hb dX1_bestBar_69 (by decide) ?_
        exact ih_2 _ (q_2, be_2, pl2_2, le_2) _ _ _ (by omega) ⟨rfl, ⟨by omega, by omega, by omega⟩, hP, hS, (lv_sub hl [0, 2, 3, 4, 5, 6, 7] rfl)⟩
      · refine lv_iload hx hb dX1_bestBar_59 (lv_at hl 0 rfl) ?_
        refine lv_istore (lv' := [(5, .int r_14), (7, .int r_14), (6, .int (nI q_2)), (4, .int (nI pl2_2)), (3, .int (nI be_2)), (0, .ref z0), (1, .int (nI cn)), (2, .int p1)]) hx hb dX1_bestBar_61 hl (by decide) rfl (fun ls hl => ?_)
        refine lv_iload hx hb dX1_bestBar_63 (lv_at hl 2 rfl) ?_
        refine lv_istore_n (lv' := [(3, .int (nI q_2)), (5, .int r_14), (7, .int r_14), (6, .int (nI q_2)), (4, .int (nI pl2_2)), (0, .ref z0), (1, .int (nI cn)), (2, .int p1)]) hx hb dX1_bestBar_65 rfl hl (by decide) rfl (fun ls hl => ?_)
        refine lv_iinc (v := (nI q_2 - 1)) (lv' := [(6, .int (nI q_2 - 1)), (3, .int (nI q_2)), (5, .int r_14), (7, .int r_14), (4, .int (nI pl2_2)), (0, .ref z0), (1, .int (nI cn)), (2, .int p1)]) hx hb dX1_bestBar_66 hl (k := 3) rfl (dn1 _) (by decide) rfl (fun ls hl => ?_)
        refine lv_goto (tgt := 25) hx hb dX1_bestBar_69 (by decide) ?_
        exact ih_2 _ (q_2, q_2, pl2_2, r_14) _ _ _ (by omega) ⟨rfl, ⟨by omega, by omega, by omega⟩, hP, hS, (lv_sub hl [0, 2, 4, 1, 5, 6, 7] rfl)⟩
    · refine lv_iload hx hb dX1_bestBar_39 (lv_at hl 0 rfl) ?_
      refine lv_istore (lv' := [(4, .int (nI q_2)), (6, .int (nI q_2)), (5, .int le_2), (3, .int (nI be_2)), (0, .ref z0), (1, .int (nI cn)), (2, .int p1)]) hx hb dX1_bestBar_41 hl (by decide) rfl (fun ls hl => ?_)
      refine lv_aload_n hx hb dX1_bestBar_43 rfl (lv_at hl 4 rfl) ?_
      refine lv_iload_n hx hb dX1_bestBar_44 rfl (lv_at hl 5 rfl) ?_
      refine lv_iload hx hb dX1_bestBar_45 (lv_at hl 0 rfl) ?_
      refine ro_i (D := D) (va_runV (As := [.int (nI cn), .int (nI q_2)]) (rest := []) ⟨hx, hb, hml, hown, hts⟩ ((x_paidAt l D k st lo c0 z0 z1 z2 z3 pn pf pd pe pco cn q_2 (by first | assumption | omega) (by first | assumption | omega) (by first | assumption | omega)) H.size) (cwV 2 hts (gV tw_862 tw_864 tw_23 tw_84 tw_865) rfl rfl rfl (by decide +kernel) ⟨Nat.le_of_ble_eq_true rfl, Nat.le_of_ble_eq_true rfl⟩) (pV hS hAlo hlo hP hK hDL hZ [0, 2] (by decide) rfl (ci := 1) (q := (RX1, TX1, 8)) (q0 := 0) rfl rfl) rfl rfl hl.1 rfl (lv_room (Nat.le_of_ble_eq_true rfl)) dX1_bestBar_47 ⟨Nat.le_of_ble_eq_true rfl, Nat.le_of_ble_eq_true rfl⟩) hS hA hP (fun r_16 H locs hw_16 hP hS => ?_)
      try dsimp only at hw_16
      refine lv_istore (lv' := [(7, .int r_16), (4, .int (nI q_2)), (6, .int (nI q_2)), (5, .int le_2), (3, .int (nI be_2)), (0, .ref z0), (1, .int (nI cn)), (2, .int p1)]) hx hb dX1_bestBar_50 hl (by decide) rfl (fun ls hl => ?_)
      refine lv_iload hx hb dX1_bestBar_52 (lv_at hl 0 rfl) ?_
      refine lv_iload hx hb dX1_bestBar_54 (lv_at hl 3 rfl) ?_
      refine lv_icmp_gt (tgt := 66) hx hb dX1_bestBar_56 (by decide) (fun c_17 => ?_) (fun c_17 => ?_)
      · refine lv_iinc (v := (nI q_2 - 1)) (lv' := [(6, .int (nI q_2 - 1)), (7, .int r_16), (4, .int (nI q_2)), (5, .int le_2), (3, .int (nI be_2)), (0, .ref z0), (1, .int (nI cn)), (2, .int p1)]) hx hb dX1_bestBar_66 hl (k := 2) rfl (dn1 _) (by decide) rfl (fun ls hl => ?_)
        refine lv_goto (tgt := 25) hx hb dX1_bestBar_69 (by decide) ?_
        exact ih_2 _ (q_2, be_2, q_2, le_2) _ _ _ (by omega) ⟨rfl, ⟨by omega, by omega, by omega⟩, hP, hS, (lv_sub hl [0, 3, 2, 4, 5, 6, 7] rfl)⟩
      · refine lv_iload hx hb dX1_bestBar_59 (lv_at hl 0 rfl) ?_
        refine lv_istore (lv' := [(5, .int r_16), (7, .int r_16), (4, .int (nI q_2)), (6, .int (nI q_2)), (3, .int (nI be_2)), (0, .ref z0), (1, .int (nI cn)), (2, .int p1)]) hx hb dX1_bestBar_61 hl (by decide) rfl (fun ls hl => ?_)
        refine lv_iload hx hb dX1_bestBar_63 (lv_at hl 3 rfl) ?_
        refine lv_istore_n (lv' := [(3, .int (nI q_2)), (5, .int r_16), (7, .int r_16), (4, .int (nI q_2)), (6, .int (nI q_2)), (0, .ref z0), (1, .int (nI cn)), (2, .int p1)]) hx hb dX1_bestBar_65 rfl hl (by decide) rfl (fun ls hl => ?_)
        refine lv_iinc (v := (nI q_2 - 1)) (lv' := [(6, .int (nI q_2 - 1)), (3, .int (nI q_2)), (5, .int r_16), (7, .int r_16), (4, .int (nI q_2)), (0, .ref z0), (1, .int (nI cn)), (2, .int p1)]) hx hb dX1_bestBar_66 hl (k := 4) rfl (dn1 _) (by decide) rfl (fun ls hl => ?_)
        refine lv_goto (tgt := 25) hx hb dX1_bestBar_69 (by decide) ?_
        exact ih_2 _ (q_2, q_2, q_2, r_16) _ _ _ (by omega) ⟨rfl, ⟨by omega, by omega, by omega⟩, hP, hS, (lv_sub hl [0, 2, 4, 1, 5, 6, 7] rfl)⟩

theorem dX1_isAtRest_0 : decode cX1_isAtRest 0 = .ok (.aload_n 0, 1) := by decide +kernel
theorem dX1_isAtRest_1 : decode cX1_isAtRest 1 = .ok (.getfield 25, 3) := by decide +kernel
theorem dX1_isAtRest_4 : decode cX1_isAtRest 4 = .ok (.istore_n 1, 1) := by decide +kernel
theorem dX1_isAtRest_5 : decode cX1_isAtRest 5 = .ok (.iconst 0, 1) := by decide +kernel
theorem dX1_isAtRest_6 : decode cX1_isAtRest 6 = .ok (.istore_n 2, 1) := by decide +kernel
theorem dX1_isAtRest_7 : decode cX1_isAtRest 7 = .ok (.iload_n 2, 1) := by decide +kernel
theorem dX1_isAtRest_8 : decode cX1_isAtRest 8 = .ok (.aload_n 0, 1) := by decide +kernel
theorem dX1_isAtRest_9 : decode cX1_isAtRest 9 = .ok (.getfield 34, 3) := by decide +kernel
theorem dX1_isAtRest_12 : decode cX1_isAtRest 12 = .ok (.getfield 53, 3) := by decide +kernel
theorem dX1_isAtRest_15 : decode cX1_isAtRest 15 = .ok (.if_icmp .ge 55, 3) := by decide +kernel
theorem dX1_isAtRest_18 : decode cX1_isAtRest 18 = .ok (.aload_n 0, 1) := by decide +kernel
theorem dX1_isAtRest_19 : decode cX1_isAtRest 19 = .ok (.aload_n 0, 1) := by decide +kernel
theorem dX1_isAtRest_20 : decode cX1_isAtRest 20 = .ok (.iload_n 2, 1) := by decide +kernel
theorem dX1_isAtRest_21 : decode cX1_isAtRest 21 = .ok (.iload_n 1, 1) := by decide +kernel
theorem dX1_isAtRest_22 : decode cX1_isAtRest 22 = .ok (.invokevirtual 83, 3) := by decide +kernel
theorem dX1_isAtRest_25 : decode cX1_isAtRest 25 = .ok (.iload_n 1, 1) := by decide +kernel
theorem dX1_isAtRest_26 : decode cX1_isAtRest 26 = .ok (.invokevirtual 74, 3) := by decide +kernel
theorem dX1_isAtRest_29 : decode cX1_isAtRest 29 = .ok (.istore_n 3, 1) := by decide +kernel
theorem dX1_isAtRest_30 : decode cX1_isAtRest 30 = .ok (.aload_n 0, 1) := by decide +kernel
theorem dX1_isAtRest_31 : decode cX1_isAtRest 31 = .ok (.iload_n 2, 1) := by decide +kernel
theorem dX1_isAtRest_32 : decode cX1_isAtRest 32 = .ok (.iload_n 3, 1) := by decide +kernel
theorem dX1_isAtRest_33 : decode cX1_isAtRest 33 = .ok (.invokevirtual 80, 3) := by decide +kernel
theorem dX1_isAtRest_36 : decode cX1_isAtRest 36 = .ok (.aload_n 0, 1) := by decide +kernel
theorem dX1_isAtRest_37 : decode cX1_isAtRest 37 = .ok (.iload_n 2, 1) := by decide +kernel
theorem dX1_isAtRest_38 : decode cX1_isAtRest 38 = .ok (.aload_n 0, 1) := by decide +kernel
theorem dX1_isAtRest_39 : decode cX1_isAtRest 39 = .ok (.aload_n 0, 1) := by decide +kernel
theorem dX1_isAtRest_40 : decode cX1_isAtRest 40 = .ok (.getfield 9, 3) := by decide +kernel
theorem dX1_isAtRest_43 : decode cX1_isAtRest 43 = .ok (.iload_n 2, 1) := by decide +kernel
theorem dX1_isAtRest_44 : decode cX1_isAtRest 44 = .ok (.iaload, 1) := by decide +kernel
theorem dX1_isAtRest_45 : decode cX1_isAtRest 45 = .ok (.iload_n 1, 1) := by decide +kernel
theorem dX1_isAtRest_46 : decode cX1_isAtRest 46 = .ok (.invokevirtual 74, 3) := by decide +kernel
theorem dX1_isAtRest_49 : decode cX1_isAtRest 49 = .ok (.invokevirtual 80, 3) := by decide +kernel
theorem dX1_isAtRest_52 : decode cX1_isAtRest 52 = .ok (.if_icmp .ge 5, 3) := by decide +kernel
theorem dX1_isAtRest_55 : decode cX1_isAtRest 55 = .ok (.iconst 0, 1) := by decide +kernel
theorem dX1_isAtRest_56 : decode cX1_isAtRest 56 = .ok (.ireturn, 1) := by decide +kernel
theorem dX1_isAtRest_57 : decode cX1_isAtRest 57 = .ok (.aload_n 0, 1) := by decide +kernel
theorem dX1_isAtRest_58 : decode cX1_isAtRest 58 = .ok (.iload_n 2, 1) := by decide +kernel
theorem dX1_isAtRest_59 : decode cX1_isAtRest 59 = .ok (.iload_n 1, 1) := by decide +kernel
theorem dX1_isAtRest_60 : decode cX1_isAtRest 60 = .ok (.invokevirtual 77, 3) := by decide +kernel
theorem dX1_isAtRest_63 : decode cX1_isAtRest 63 = .ok (.istore_n 1, 1) := by decide +kernel
theorem dX1_isAtRest_64 : decode cX1_isAtRest 64 = .ok (.iinc 2 1, 3) := by decide +kernel
theorem dX1_isAtRest_67 : decode cX1_isAtRest 67 = .ok (.goto (-60), 3) := by decide +kernel
theorem dX1_isAtRest_70 : decode cX1_isAtRest 70 = .ok (.iconst 1, 1) := by decide +kernel
theorem dX1_isAtRest_71 : decode cX1_isAtRest 71 = .ok (.ireturn, 1) := by decide +kernel
set_option maxHeartbeats 4000000 in
set_option maxRecDepth 100000 in
theorem x_isAtRest (l : Launch) (D : va_G) (k : Nat → ClassId) (st : Nat → Nat) (lo : Nat) (c0 : Nat) (z0 : Nat) (z1 : Nat) (z2 : Nat) (z3 : Nat) (pn : Nat) (pf : Int32) (pd : Int32) (pe : Int32) (pb : Nat → Nat) (pco : Nat → Int32) (c1 : Nat) (c2 : Nat) (cc : Nat) (rz : Nat) (ro : Int32) (sd : Int32) (hpn : pn ≤ 24) (hcc : cc ≤ 4) (hpb : ∀ j, pb j ≤ 24) : CRi l D k st lo yX1_isAtRest cX1_isAtRest 4 (some .boolean) ({ frames := 3, cells := 0, slots := 0, locals := 72 }) [.ref z0] [(z0, .inr (1, (fX1 c0 z1 z2 z3 (nI pn) pf pd pe))), (aI k z1 4 (nF pb)), (aI k z2 100 pco), (c0, .inr (4, (fX4 c1 c2 (nI cc) (nI rz) ro sd)))] (fun r => r = 1 ∨ r = 0) := by
  intro sz
  refine Met.ofW (cc := cX1_isAtRest) (maxL := 4) (ret := (some .boolean)) (by decide) rfl ?_
  intro p e s m args below meth c s₁ B hml hv
  obtain ⟨rfl, hsz, hlo, hP, hK, hDL, hZ⟩ := hv
  have hx := B.exec
  have hb := B.bytes
  have hr := B.returns
  have hts := WS_ts B.pre
  have hown : s.vm.findClass RX1 = some m.cls := findClass_of_methodNamed B.named
  have hlocks := B.notSynchronized
  subst hsz
  have hA : ∀ q : Nat, s.heap.size ≤ q → (fun q : Nat => s.heap.size ≤ q) q := fun _ h => h
  have hAlo : ∀ q : Nat, (fun q : Nat => s.heap.size ≤ q) q → lo ≤ q := fun q h => Nat.le_trans hlo h
  have hS : va_S (fun q : Nat => s.heap.size ≤ q) s.heap s.heap [] := va_S.rf
  have hl := lv_entry ([.ref z0]) (n := 4) (Nat.le_of_ble_eq_true rfl)
  rw [lg_entry_eq]
  generalize (lg_sl ([.ref z0]) ++ List.replicate (4 - (lg_sl ([.ref z0])).length) Slot.unset).toArray = ls at hl ⊢
  have hl : lv_has ls 4 [(0, .ref z0)] := hl
  refine lv_aload_n hx hb dX1_isAtRest_0 rfl (lv_at hl 0 rfl) ?_
  refine va_get (D := D) (ci := 1) (v := .int pf) (C := RX1) (T := TX1) (N := 8) hx hb hts inX1 hown hK hP 0 rfl rfl 5 (by decide) (hts _ tw_241) (fun _ h9 => h9) rfl dX1_isAtRest_1 ?_
  refine lv_istore_n (lv' := [(1, .int pf), (0, .ref z0)]) hx hb dX1_isAtRest_4 rfl hl (by decide) rfl (fun ls hl => ?_)
  refine lv_iconst (v := 0) hx hb dX1_isAtRest_5 (by decide) ?_
  refine lv_istore_n (lv' := [(2, .int 0), (1, .int pf), (0, .ref z0)]) hx hb dX1_isAtRest_6 rfl hl (by decide) rfl (fun ls hl => ?_)
  refine W_loop (σ := Nat × Int32) (fun (n_ : Nat) (x_ : Nat × Int32) (H : Heap) (locs : List Loc) (ls : Array Slot) => match x_ with | (cn2_1, lf_1) => n_ = 5 - cn2_1 ∧ (cn2_1 ≤ 4) ∧ va_P D classes [(z0, .inr (1, (fX1 c0 z1 z2 z3 (nI pn) pf pd pe))), (aI k z1 4 (nF pb)), (aI k z2 100 pco), (c0, .inr (4, (fX4 c1 c2 (nI cc) (nI rz) ro sd)))] H ∧ va_S (fun q : Nat => s.heap.size ≤ q) s.heap H locs ∧ lv_has ls 4 [(2, .int (nI cn2_1)), (1, .int lf_1), (0, .ref z0)]) (fun n_1 x_1 H locs ls hI ih_1 => ?_) _ (0, pf) ⟨rfl, (by omega), hP, hS, (lv_sub hl [0, 1, 2] rfl)⟩
  obtain ⟨cn2_1, lf_1⟩ := x_1
  obtain ⟨hm_1, hv_1, hP, hS, hl⟩ := hI
  subst hm_1
  refine lv_iload_n hx hb dX1_isAtRest_7 rfl (lv_at hl 0 rfl) ?_
  refine lv_aload_n hx hb dX1_isAtRest_8 rfl (lv_at hl 2 rfl) ?_
  refine va_get (D := D) (ci := 1) (v := .ref c0) (C := RX1) (T := TX1) (N := 8) hx hb hts inX1 hown hK hP 0 rfl rfl 0 (by decide) (hts _ tw_235) (fun _ h9 => h9) rfl dX1_isAtRest_9 ?_
  refine va_get (D := D) (ci := 4) (v := .int (nI cc)) (C := RX4) (T := TX4) (N := 6) hx hb hts inX4 hown hK hP 3 rfl rfl 2 (by decide) (hts _ tw_179) (fun _ h9 => h9) rfl dX1_isAtRest_12 ?_
  refine lv_icmp_ge (tgt := 70) hx hb dX1_isAtRest_15 (by decide) (fun c_2 => ?_) (fun c_2 => ?_)
  · have c_2 := (nI_leI (a := cc) (b := cn2_1) (by omega) (by omega)).mp c_2
    refine lv_iconst (v := 1) hx hb dX1_isAtRest_70 (by decide) ?_
    exact W.zret (v := 1) (ty := .boolean) hx hb hr rfl (fun t ht hW => ⟨⟨1, (), rfl, .inl rfl, trivial⟩, hS.F ht⟩) hS.2.2 dX1_isAtRest_71
  · have c_2 : ¬ (cc ≤ cn2_1) := fun h => c_2 ((nI_leI (a := cc) (b := cn2_1) (by omega) (by omega)).mpr h)
    refine lv_aload_n hx hb dX1_isAtRest_18 rfl (lv_at hl 2 rfl) ?_
    refine lv_aload_n hx hb dX1_isAtRest_19 rfl (lv_at hl 2 rfl) ?_
    refine lv_iload_n hx hb dX1_isAtRest_20 rfl (lv_at hl 0 rfl) ?_
    refine lv_iload_n hx hb dX1_isAtRest_21 rfl (lv_at hl 1 rfl) ?_
    refine ro_i (D := D) (va_runV (As := [.int (nI cn2_1), .int lf_1]) (rest := [.ref z0]) ⟨hx, hb, hml, hown, hts⟩ ((x_bestBar l D k st lo c0 z0 z1 z2 z3 pn pf pd pe pb pco cn2_1 lf_1 (by first | assumption | omega) (by first | assumption | omega) hpb) H.size) (cwV 2 hts (gV tw_858 tw_860 tw_22 tw_84 tw_861) rfl rfl rfl (by decide +kernel) ⟨Nat.le_of_ble_eq_true rfl, Nat.le_of_ble_eq_true rfl⟩) (pV hS hAlo hlo hP hK hDL hZ [0, 1, 2] (by decide) rfl (ci := 1) (q := (RX1, TX1, 8)) (q0 := 0) rfl rfl) rfl rfl hl.1 rfl (lv_room (Nat.le_of_ble_eq_true rfl)) dX1_isAtRest_22 ⟨Nat.le_of_ble_eq_true rfl, Nat.le_of_ble_eq_true rfl⟩) hS hA hP (fun r_3 H locs hw_3 hP hS => ?_)
    try dsimp only at hw_3
    obtain ⟨zp_4, hzp_4, rfl⟩ := hw_3
    refine lv_iload_n hx hb dX1_isAtRest_25 rfl (lv_at hl 1 rfl) ?_
    refine ro_i (D := D) (va_runV (As := [.int (nI zp_4), .int lf_1]) (rest := []) ⟨hx, hb, hml, hown, hts⟩ ((x_placeFrom l D k st lo c0 z0 z1 z2 z3 pn pf pd pe zp_4 lf_1 (by first | assumption | omega) (by first | assumption | omega)) H.size) (cwV 2 hts (gV tw_838 tw_840 tw_20 tw_84 tw_841) rfl rfl rfl (by decide +kernel) ⟨Nat.le_of_ble_eq_true rfl, Nat.le_of_ble_eq_true rfl⟩) (pV hS hAlo hlo hP hK hDL hZ [0] (by decide) rfl (ci := 1) (q := (RX1, TX1, 8)) (q0 := 0) rfl rfl) rfl rfl hl.1 rfl (lv_room (Nat.le_of_ble_eq_true rfl)) dX1_isAtRest_26 ⟨Nat.le_of_ble_eq_true rfl, Nat.le_of_ble_eq_true rfl⟩) hS hA hP (fun r_5 H locs hw_5 hP hS => ?_)
    try dsimp only at hw_5
    obtain ⟨zp_6, hzp_6, rfl⟩ := hw_5
    refine lv_istore_n (lv' := [(3, .int (nI zp_6)), (2, .int (nI cn2_1)), (1, .int lf_1), (0, .ref z0)]) hx hb dX1_isAtRest_29 rfl hl (by decide) rfl (fun ls hl => ?_)
    refine lv_aload_n hx hb dX1_isAtRest_30 rfl (lv_at hl 3 rfl) ?_
    refine lv_iload_n hx hb dX1_isAtRest_31 rfl (lv_at hl 1 rfl) ?_
    refine lv_iload_n hx hb dX1_isAtRest_32 rfl (lv_at hl 0 rfl) ?_
    refine ro_i (D := D) (va_runV (As := [.int (nI cn2_1), .int (nI zp_6)]) (rest := []) ⟨hx, hb, hml, hown, hts⟩ ((x_paidAt l D k st lo c0 z0 z1 z2 z3 pn pf pd pe pco cn2_1 zp_6 (by first | assumption | omega) (by first | assumption | omega) (by first | assumption | omega)) H.size) (cwV 2 hts (gV tw_862 tw_864 tw_23 tw_84 tw_865) rfl rfl rfl (by decide +kernel) ⟨Nat.le_of_ble_eq_true rfl, Nat.le_of_ble_eq_true rfl⟩) (pV hS hAlo hlo hP hK hDL hZ [0, 2] (by decide) rfl (ci := 1) (q := (RX1, TX1, 8)) (q0 := 0) rfl rfl) rfl rfl hl.1 rfl (lv_room (Nat.le_of_ble_eq_true rfl)) dX1_isAtRest_33 ⟨Nat.le_of_ble_eq_true rfl, Nat.le_of_ble_eq_true rfl⟩) hS hA hP (fun r_7 H locs hw_7 hP hS => ?_)
    try dsimp only at hw_7
    refine lv_aload_n hx hb dX1_isAtRest_36 rfl (lv_at hl 3 rfl) ?_
    refine lv_iload_n hx hb dX1_isAtRest_37 rfl (lv_at hl 1 rfl) ?_
    refine lv_aload_n hx hb dX1_isAtRest_38 rfl (lv_at hl 3 rfl) ?_
    refine lv_aload_n hx hb dX1_isAtRest_39 rfl (lv_at hl 3 rfl) ?_
    refine va_get (D := D) (ci := 1) (v := .ref z1) (C := RX1) (T := TX1) (N := 8) hx hb hts inX1 hown hK hP 0 rfl rfl 1 (by decide) (hts _ tw_236) (fun _ h9 => h9) rfl dX1_isAtRest_40 ?_
    refine lv_iload_n hx hb dX1_isAtRest_43 rfl (lv_at hl 1 rfl) ?_
    refine va_iald hx hb hK hP 1 1 rfl rfl (vp_in_nI (by omega) (by decide)) dX1_isAtRest_44 ?_
    have hq_8 := hpb cn2_1
    refine lv_ti (y := (nI (pb cn2_1))) (by rw [nI_clamp (by omega)]; rfl) ?_
    refine lv_iload_n hx hb dX1_isAtRest_45 rfl (lv_at hl 2 rfl) ?_
    refine ro_i (D := D) (va_runV (As := [.int (nI (pb cn2_1)), .int lf_1]) (rest := [.int (nI cn2_1), .ref z0, .int r_7]) ⟨hx, hb, hml, hown, hts⟩ ((x_placeFrom l D k st lo c0 z0 z1 z2 z3 pn pf pd pe (pb cn2_1) lf_1 (by first | assumption | omega) (by first | assumption | omega)) H.size) (cwV 2 hts (gV tw_838 tw_840 tw_20 tw_84 tw_841) rfl rfl rfl (by decide +kernel) ⟨Nat.le_of_ble_eq_true rfl, Nat.le_of_ble_eq_true rfl⟩) (pV hS hAlo hlo hP hK hDL hZ [0] (by decide) rfl (ci := 1) (q := (RX1, TX1, 8)) (q0 := 0) rfl rfl) rfl rfl hl.1 rfl (lv_room (Nat.le_of_ble_eq_true rfl)) dX1_isAtRest_46 ⟨Nat.le_of_ble_eq_true rfl, Nat.le_of_ble_eq_true rfl⟩) hS hA hP (fun r_9 H locs hw_9 hP hS => ?_)
    try dsimp only at hw_9
    obtain ⟨zp_10, hzp_10, rfl⟩ := hw_9
    refine ro_i (D := D) (va_runV (As := [.int (nI cn2_1), .int (nI zp_10)]) (rest := [.int r_7]) ⟨hx, hb, hml, hown, hts⟩ ((x_paidAt l D k st lo c0 z0 z1 z2 z3 pn pf pd pe pco cn2_1 zp_10 (by first | assumption | omega) (by first | assumption | omega) (by first | assumption | omega)) H.size) (cwV 2 hts (gV tw_862 tw_864 tw_23 tw_84 tw_865) rfl rfl rfl (by decide +kernel) ⟨Nat.le_of_ble_eq_true rfl, Nat.le_of_ble_eq_true rfl⟩) (pV hS hAlo hlo hP hK hDL hZ [0, 2] (by decide) rfl (ci := 1) (q := (RX1, TX1, 8)) (q0 := 0) rfl rfl) rfl rfl hl.1 rfl (lv_room (Nat.le_of_ble_eq_true rfl)) dX1_isAtRest_49 ⟨Nat.le_of_ble_eq_true rfl, Nat.le_of_ble_eq_true rfl⟩) hS hA hP (fun r_11 H locs hw_11 hP hS => ?_)
    try dsimp only at hw_11
    refine lv_icmp_ge (tgt := 57) hx hb dX1_isAtRest_52 (by decide) (fun c_12 => ?_) (fun c_12 => ?_)
    · refine lv_aload_n hx hb dX1_isAtRest_57 rfl (lv_at hl 3 rfl) ?_
      refine lv_iload_n hx hb dX1_isAtRest_58 rfl (lv_at hl 1 rfl) ?_
      refine lv_iload_n hx hb dX1_isAtRest_59 rfl (lv_at hl 2 rfl) ?_
      refine ro_i (D := D) (va_runV (As := [.int (nI cn2_1), .int lf_1]) (rest := []) ⟨hx, hb, hml, hown, hts⟩ ((x_leftBehind l D k st lo c0 z0 z1 z2 z3 pn pf pd pe pb cn2_1 lf_1 (by first | assumption | omega) (by first | assumption | omega) hpb) H.size) (cwV 2 hts (gV tw_834 tw_836 tw_19 tw_84 tw_837) rfl rfl rfl (by decide +kernel) ⟨Nat.le_of_ble_eq_true rfl, Nat.le_of_ble_eq_true rfl⟩) (pV hS hAlo hlo hP hK hDL hZ [0, 1] (by decide) rfl (ci := 1) (q := (RX1, TX1, 8)) (q0 := 0) rfl rfl) rfl rfl hl.1 rfl (lv_room (Nat.le_of_ble_eq_true rfl)) dX1_isAtRest_60 ⟨Nat.le_of_ble_eq_true rfl, Nat.le_of_ble_eq_true rfl⟩) hS hA hP (fun r_13 H locs hw_13 hP hS => ?_)
      try dsimp only at hw_13
      refine lv_istore_n (lv' := [(1, .int r_13), (3, .int (nI zp_6)), (2, .int (nI cn2_1)), (0, .ref z0)]) hx hb dX1_isAtRest_63 rfl hl (by decide) rfl (fun ls hl => ?_)
      refine lv_iinc (v := (nI (cn2_1 + 1))) (lv' := [(2, .int (nI (cn2_1 + 1))), (1, .int r_13), (3, .int (nI zp_6)), (0, .ref z0)]) hx hb dX1_isAtRest_64 hl (k := 2) rfl (nI_add cn2_1 1) (by decide) rfl (fun ls hl => ?_)
      refine lv_goto (tgt := 7) hx hb dX1_isAtRest_67 (by decide) ?_
      exact ih_1 _ (cn2_1 + 1, r_13) _ _ _ (by omega) ⟨rfl, (by omega), hP, hS, (lv_sub hl [0, 1, 3] rfl)⟩
    · refine lv_iconst (v := 0) hx hb dX1_isAtRest_55 (by decide) ?_
      exact W.zret (v := 0) (ty := .boolean) hx hb hr rfl (fun t ht hW => ⟨⟨0, (), rfl, .inr rfl, trivial⟩, hS.F ht⟩) hS.2.2 dX1_isAtRest_56

theorem dX1_changeInTurn_0 : decode cX1_changeInTurn 0 = .ok (.iconst 0, 1) := by decide +kernel
theorem dX1_changeInTurn_1 : decode cX1_changeInTurn 1 = .ok (.istore_n 1, 1) := by decide +kernel
theorem dX1_changeInTurn_2 : decode cX1_changeInTurn 2 = .ok (.aload_n 0, 1) := by decide +kernel
theorem dX1_changeInTurn_3 : decode cX1_changeInTurn 3 = .ok (.getfield 25, 3) := by decide +kernel
theorem dX1_changeInTurn_6 : decode cX1_changeInTurn 6 = .ok (.istore_n 2, 1) := by decide +kernel
theorem dX1_changeInTurn_7 : decode cX1_changeInTurn 7 = .ok (.iconst 0, 1) := by decide +kernel
theorem dX1_changeInTurn_8 : decode cX1_changeInTurn 8 = .ok (.istore_n 3, 1) := by decide +kernel
theorem dX1_changeInTurn_9 : decode cX1_changeInTurn 9 = .ok (.iload_n 3, 1) := by decide +kernel
theorem dX1_changeInTurn_10 : decode cX1_changeInTurn 10 = .ok (.aload_n 0, 1) := by decide +kernel
theorem dX1_changeInTurn_11 : decode cX1_changeInTurn 11 = .ok (.getfield 34, 3) := by decide +kernel
theorem dX1_changeInTurn_14 : decode cX1_changeInTurn 14 = .ok (.getfield 53, 3) := by decide +kernel
theorem dX1_changeInTurn_17 : decode cX1_changeInTurn 17 = .ok (.if_icmp .ge 45, 3) := by decide +kernel
theorem dX1_changeInTurn_20 : decode cX1_changeInTurn 20 = .ok (.aload_n 0, 1) := by decide +kernel
theorem dX1_changeInTurn_21 : decode cX1_changeInTurn 21 = .ok (.iload_n 3, 1) := by decide +kernel
theorem dX1_changeInTurn_22 : decode cX1_changeInTurn 22 = .ok (.iload_n 2, 1) := by decide +kernel
theorem dX1_changeInTurn_23 : decode cX1_changeInTurn 23 = .ok (.invokevirtual 83, 3) := by decide +kernel
theorem dX1_changeInTurn_26 : decode cX1_changeInTurn 26 = .ok (.istore 4, 2) := by decide +kernel
theorem dX1_changeInTurn_28 : decode cX1_changeInTurn 28 = .ok (.iload 4, 2) := by decide +kernel
theorem dX1_changeInTurn_30 : decode cX1_changeInTurn 30 = .ok (.aload_n 0, 1) := by decide +kernel
theorem dX1_changeInTurn_31 : decode cX1_changeInTurn 31 = .ok (.getfield 9, 3) := by decide +kernel
theorem dX1_changeInTurn_34 : decode cX1_changeInTurn 34 = .ok (.iload_n 3, 1) := by decide +kernel
theorem dX1_changeInTurn_35 : decode cX1_changeInTurn 35 = .ok (.iaload, 1) := by decide +kernel
theorem dX1_changeInTurn_36 : decode cX1_changeInTurn 36 = .ok (.if_icmp .eq 13, 3) := by decide +kernel
theorem dX1_changeInTurn_39 : decode cX1_changeInTurn 39 = .ok (.aload_n 0, 1) := by decide +kernel
theorem dX1_changeInTurn_40 : decode cX1_changeInTurn 40 = .ok (.getfield 9, 3) := by decide +kernel
theorem dX1_changeInTurn_43 : decode cX1_changeInTurn 43 = .ok (.iload_n 3, 1) := by decide +kernel
theorem dX1_changeInTurn_44 : decode cX1_changeInTurn 44 = .ok (.iload 4, 2) := by decide +kernel
theorem dX1_changeInTurn_46 : decode cX1_changeInTurn 46 = .ok (.iastore, 1) := by decide +kernel
theorem dX1_changeInTurn_47 : decode cX1_changeInTurn 47 = .ok (.iconst 1, 1) := by decide +kernel
theorem dX1_changeInTurn_48 : decode cX1_changeInTurn 48 = .ok (.istore_n 1, 1) := by decide +kernel
theorem dX1_changeInTurn_49 : decode cX1_changeInTurn 49 = .ok (.aload_n 0, 1) := by decide +kernel
theorem dX1_changeInTurn_50 : decode cX1_changeInTurn 50 = .ok (.iload_n 3, 1) := by decide +kernel
theorem dX1_changeInTurn_51 : decode cX1_changeInTurn 51 = .ok (.iload_n 2, 1) := by decide +kernel
theorem dX1_changeInTurn_52 : decode cX1_changeInTurn 52 = .ok (.invokevirtual 77, 3) := by decide +kernel
theorem dX1_changeInTurn_55 : decode cX1_changeInTurn 55 = .ok (.istore_n 2, 1) := by decide +kernel
theorem dX1_changeInTurn_56 : decode cX1_changeInTurn 56 = .ok (.iinc 3 1, 3) := by decide +kernel
theorem dX1_changeInTurn_59 : decode cX1_changeInTurn 59 = .ok (.goto (-50), 3) := by decide +kernel
theorem dX1_changeInTurn_62 : decode cX1_changeInTurn 62 = .ok (.iload_n 1, 1) := by decide +kernel
theorem dX1_changeInTurn_63 : decode cX1_changeInTurn 63 = .ok (.ireturn, 1) := by decide +kernel
set_option maxHeartbeats 4000000 in
set_option maxRecDepth 100000 in
theorem x_changeInTurn (l : Launch) (D : va_G) (k : Nat → ClassId) (st : Nat → Nat) (lo : Nat) (c0 : Nat) (z0 : Nat) (z1 : Nat) (z2 : Nat) (z3 : Nat) (pn : Nat) (pf : Int32) (pd : Int32) (pe : Int32) (pb : Nat → Nat) (pco : Nat → Int32) (c1 : Nat) (c2 : Nat) (cc : Nat) (rz : Nat) (ro : Int32) (sd : Int32) (hpn : pn ≤ 24) (hcc : cc ≤ 4) (hpb : ∀ j, pb j ≤ 24) : CWi l D k st lo yX1_changeInTurn cX1_changeInTurn 5 (some .boolean) ({ frames := 3, cells := 0, slots := 0, locals := 72 }) 0 0 [.ref z0] [(z0, .inr (1, (fX1 c0 z1 z2 z3 (nI pn) pf pd pe))), (aI k z1 4 (nF pb)), (aI k z2 100 pco), (c0, .inr (4, (fX4 c1 c2 (nI cc) (nI rz) ro sd)))] (fun (r : Int32) (pb_ : (Nat → Nat)) => (r = 1 ∨ r = 0) ∧ (∀ j, pb_ j ≤ 24)) (fun (pb_ : (Nat → Nat)) => [(z0, .inr (1, (fX1 c0 z1 z2 z3 (nI pn) pf pd pe))), (aI k z1 4 (nF pb_)), (aI k z2 100 pco), (c0, .inr (4, (fX4 c1 c2 (nI cc) (nI rz) ro sd)))]) := by
  intro sz
  refine Met.ofW (cc := cX1_changeInTurn) (maxL := 5) (ret := (some .boolean)) (by decide) rfl ?_
  intro p e s m args below meth c s₁ B hml hv
  obtain ⟨rfl, hsz, hlo, hP, hK, hDL, hZ⟩ := hv
  have hx := B.exec
  have hb := B.bytes
  have hr := B.returns
  have hts := WS_ts B.pre
  have hown : s.vm.findClass RX1 = some m.cls := findClass_of_methodNamed B.named
  have hlocks := B.notSynchronized
  subst hsz
  have hD := hDL.self (sz := s.heap.size)
  have hAlo := A_lo hDL hlo
  generalize hAe : va_A [(z0, .inr (1, (fX1 c0 z1 z2 z3 (nI pn) pf pd pe))), (aI k z1 4 (nF pb)), (aI k z2 100 pco), (c0, .inr (4, (fX4 c1 c2 (nI cc) (nI rz) ro sd)))] s.heap.size = A at hD hAlo ⊢
  have hA : ∀ q : Nat, s.heap.size ≤ q → A q := fun q h => by rw [← hAe]; exact Or.inr h
  have hS : va_S A s.heap s.heap [] := va_S.rf
  have hl := lv_entry ([.ref z0]) (n := 5) (Nat.le_of_ble_eq_true rfl)
  rw [lg_entry_eq]
  generalize (lg_sl ([.ref z0]) ++ List.replicate (5 - (lg_sl ([.ref z0])).length) Slot.unset).toArray = ls at hl ⊢
  have hl : lv_has ls 5 [(0, .ref z0)] := hl
  refine lv_iconst (v := 0) hx hb dX1_changeInTurn_0 (by decide) ?_
  refine lv_istore_n (lv' := [(1, .int 0), (0, .ref z0)]) hx hb dX1_changeInTurn_1 rfl hl (by decide) rfl (fun ls hl => ?_)
  refine lv_aload_n hx hb dX1_changeInTurn_2 rfl (lv_at hl 1 rfl) ?_
  refine va_get (D := D) (ci := 1) (v := .int pf) (C := RX1) (T := TX1) (N := 8) hx hb hts inX1 hown hK hP 0 rfl rfl 5 (by decide) (hts _ tw_241) (fun _ h9 => h9) rfl dX1_changeInTurn_3 ?_
  refine lv_istore_n (lv' := [(2, .int pf), (1, .int 0), (0, .ref z0)]) hx hb dX1_changeInTurn_6 rfl hl (by decide) rfl (fun ls hl => ?_)
  refine lv_iconst (v := 0) hx hb dX1_changeInTurn_7 (by decide) ?_
  refine lv_istore_n (lv' := [(3, .int 0), (2, .int pf), (1, .int 0), (0, .ref z0)]) hx hb dX1_changeInTurn_8 rfl hl (by decide) rfl (fun ls hl => ?_)
  refine W_loop (σ := Nat × Int32 × Int32 × (Nat → Nat)) (fun (n_ : Nat) (x_ : Nat × Int32 × Int32 × (Nat → Nat)) (H : Heap) (locs : List Loc) (ls : Array Slot) => match x_ with | (cn2_1, ch_1, lf_1, pb2_1) => n_ = 5 - cn2_1 ∧ ((cn2_1 ≤ 4 ∧ (ch_1 = 1 ∨ ch_1 = 0)) ∧ (∀ j, pb2_1 j ≤ 24)) ∧ va_P D classes [(z0, .inr (1, (fX1 c0 z1 z2 z3 (nI pn) pf pd pe))), (aI k z1 4 (nF pb2_1)), (aI k z2 100 pco), (c0, .inr (4, (fX4 c1 c2 (nI cc) (nI rz) ro sd)))] H ∧ va_D A [(z0, .inr (1, (fX1 c0 z1 z2 z3 (nI pn) pf pd pe))), (aI k z1 4 (nF pb2_1)), (aI k z2 100 pco), (c0, .inr (4, (fX4 c1 c2 (nI cc) (nI rz) ro sd)))] ∧ va_S A s.heap H locs ∧ lv_has ls 5 [(3, .int (nI cn2_1)), (2, .int lf_1), (1, .int ch_1), (0, .ref z0)]) (fun n_1 x_1 H locs ls hI ih_1 => ?_) _ (0, 0, pf, pb) ⟨rfl, ⟨⟨by omega, .inr rfl⟩, hpb⟩, hP, hD, hS, (lv_sub hl [0, 1, 2, 3] rfl)⟩
  obtain ⟨cn2_1, ch_1, lf_1, pb2_1⟩ := x_1
  obtain ⟨hm_1, hv_1, hP, hD, hS, hl⟩ := hI
  subst hm_1
  have hpl_1 := hv_1.2
  refine lv_iload_n hx hb dX1_changeInTurn_9 rfl (lv_at hl 0 rfl) ?_
  refine lv_aload_n hx hb dX1_changeInTurn_10 rfl (lv_at hl 3 rfl) ?_
  refine va_get (D := D) (ci := 1) (v := .ref c0) (C := RX1) (T := TX1) (N := 8) hx hb hts inX1 hown hK hP 0 rfl rfl 0 (by decide) (hts _ tw_235) (fun _ h9 => h9) rfl dX1_changeInTurn_11 ?_
  refine va_get (D := D) (ci := 4) (v := .int (nI cc)) (C := RX4) (T := TX4) (N := 6) hx hb hts inX4 hown hK hP 3 rfl rfl 2 (by decide) (hts _ tw_179) (fun _ h9 => h9) rfl dX1_changeInTurn_14 ?_
  refine lv_icmp_ge (tgt := 62) hx hb dX1_changeInTurn_17 (by decide) (fun c_2 => ?_) (fun c_2 => ?_)
  · have c_2 := (nI_leI (a := cc) (b := cn2_1) (by omega) (by omega)).mp c_2
    refine lv_iload_n hx hb dX1_changeInTurn_62 rfl (lv_at hl 2 rfl) ?_
    rcases hv_1.1.2 with hE_9 | hE_9
    · refine lv_ti (y := 1) hE_9 ?_
      have hP9 := hP.sub (ws' := [(z0, .inr (1, (fX1 c0 z1 z2 z3 (nI pn) pf pd pe))), (aI k z1 4 (nF pb2_1)), (aI k z2 100 pco), (c0, .inr (4, (fX4 c1 c2 (nI cc) (nI rz) ro sd)))]) [0, 1, 2, 3] rfl
      have hD9 := hD.sub (ws' := [(z0, .inr (1, (fX1 c0 z1 z2 z3 (nI pn) pf pd pe))), (aI k z1 4 (nF pb2_1)), (aI k z2 100 pco), (c0, .inr (4, (fX4 c1 c2 (nI cc) (nI rz) ro sd)))]) [0, 1, 2, 3] (by decide) rfl
      exact W.zret (v := 1) (ty := .boolean) hx hb hr rfl (fun t ht hW => ⟨⟨1, pb2_1, rfl, ⟨.inl rfl, hpl_1⟩, by rw [ht]; exact hP9, hD9⟩, hS.F ht⟩) hS.2.2 dX1_changeInTurn_63
    · refine lv_ti (y := 0) hE_9 ?_
      have hP9 := hP.sub (ws' := [(z0, .inr (1, (fX1 c0 z1 z2 z3 (nI pn) pf pd pe))), (aI k z1 4 (nF pb2_1)), (aI k z2 100 pco), (c0, .inr (4, (fX4 c1 c2 (nI cc) (nI rz) ro sd)))]) [0, 1, 2, 3] rfl
      have hD9 := hD.sub (ws' := [(z0, .inr (1, (fX1 c0 z1 z2 z3 (nI pn) pf pd pe))), (aI k z1 4 (nF pb2_1)), (aI k z2 100 pco), (c0, .inr (4, (fX4 c1 c2 (nI cc) (nI rz) ro sd)))]) [0, 1, 2, 3] (by decide) rfl
      exact W.zret (v := 0) (ty := .boolean) hx hb hr rfl (fun t ht hW => ⟨⟨0, pb2_1, rfl, ⟨.inr rfl, hpl_1⟩, by rw [ht]; exact hP9, hD9⟩, hS.F ht⟩) hS.2.2 dX1_changeInTurn_63
  · have c_2 : ¬ (cc ≤ cn2_1) := fun h => c_2 ((nI_leI (a := cc) (b := cn2_1) (by omega) (by omega)).mpr h)
    refine lv_aload_n hx hb dX1_changeInTurn_20 rfl (lv_at hl 3 rfl) ?_
    refine lv_iload_n hx hb dX1_changeInTurn_21 rfl (lv_at hl 0 rfl) ?_
    refine lv_iload_n hx hb dX1_changeInTurn_22 rfl (lv_at hl 1 rfl) ?_
    refine ro_i (D := D) (va_runV (As := [.int (nI cn2_1), .int lf_1]) (rest := []) ⟨hx, hb, hml, hown, hts⟩ ((x_bestBar l D k st lo c0 z0 z1 z2 z3 pn pf pd pe pb2_1 pco cn2_1 lf_1 (by first | assumption | omega) (by first | assumption | omega) hpl_1) H.size) (cwV 2 hts (gV tw_858 tw_860 tw_22 tw_84 tw_861) rfl rfl rfl (by decide +kernel) ⟨Nat.le_of_ble_eq_true rfl, Nat.le_of_ble_eq_true rfl⟩) (pV hS hAlo hlo hP hK (va_Dlo hD hAlo) hZ [0, 1, 2] (by decide) rfl (ci := 1) (q := (RX1, TX1, 8)) (q0 := 0) rfl rfl) rfl rfl hl.1 rfl (lv_room (Nat.le_of_ble_eq_true rfl)) dX1_changeInTurn_23 ⟨Nat.le_of_ble_eq_true rfl, Nat.le_of_ble_eq_true rfl⟩) hS hA hP (fun r_3 H locs hw_3 hP hS => ?_)
    try dsimp only at hw_3
    obtain ⟨zp_4, hzp_4, rfl⟩ := hw_3
    refine lv_istore (lv' := [(4, .int (nI zp_4)), (3, .int (nI cn2_1)), (2, .int lf_1), (1, .int ch_1), (0, .ref z0)]) hx hb dX1_changeInTurn_26 hl (by decide) rfl (fun ls hl => ?_)
    refine lv_iload hx hb dX1_changeInTurn_28 (lv_at hl 0 rfl) ?_
    refine lv_aload_n hx hb dX1_changeInTurn_30 rfl (lv_at hl 4 rfl) ?_
    refine va_get (D := D) (ci := 1) (v := .ref z1) (C := RX1) (T := TX1) (N := 8) hx hb hts inX1 hown hK hP 0 rfl rfl 1 (by decide) (hts _ tw_236) (fun _ h9 => h9) rfl dX1_changeInTurn_31 ?_
    refine lv_iload_n hx hb dX1_changeInTurn_34 rfl (lv_at hl 1 rfl) ?_
    refine va_iald hx hb hK hP 1 1 rfl rfl (vp_in_nI (by omega) (by decide)) dX1_changeInTurn_35 ?_
    have hq_5 := hpl_1 cn2_1
    refine lv_ti (y := (nI (pb2_1 cn2_1))) (by rw [nI_clamp (by omega)]; rfl) ?_
    refine lv_icmp_eq (tgt := 49) hx hb dX1_changeInTurn_36 (by decide) (fun c_6 => ?_) (fun c_6 => ?_)
    · have c_6 := (nI_eq (a := zp_4) (b := (pb2_1 cn2_1)) (by omega) (by omega)).mp c_6
      refine lv_aload_n hx hb dX1_changeInTurn_49 rfl (lv_at hl 4 rfl) ?_
      refine lv_iload_n hx hb dX1_changeInTurn_50 rfl (lv_at hl 1 rfl) ?_
      refine lv_iload_n hx hb dX1_changeInTurn_51 rfl (lv_at hl 2 rfl) ?_
      refine ro_i (D := D) (va_runV (As := [.int (nI cn2_1), .int lf_1]) (rest := []) ⟨hx, hb, hml, hown, hts⟩ ((x_leftBehind l D k st lo c0 z0 z1 z2 z3 pn pf pd pe pb2_1 cn2_1 lf_1 (by first | assumption | omega) (by first | assumption | omega) hpl_1) H.size) (cwV 2 hts (gV tw_834 tw_836 tw_19 tw_84 tw_837) rfl rfl rfl (by decide +kernel) ⟨Nat.le_of_ble_eq_true rfl, Nat.le_of_ble_eq_true rfl⟩) (pV hS hAlo hlo hP hK (va_Dlo hD hAlo) hZ [0, 1] (by decide) rfl (ci := 1) (q := (RX1, TX1, 8)) (q0 := 0) rfl rfl) rfl rfl hl.1 rfl (lv_room (Nat.le_of_ble_eq_true rfl)) dX1_changeInTurn_52 ⟨Nat.le_of_ble_eq_true rfl, Nat.le_of_ble_eq_true rfl⟩) hS hA hP (fun r_7 H locs hw_7 hP hS => ?_)
      try dsimp only at hw_7
      refine lv_istore_n (lv' := [(2, .int r_7), (4, .int (nI zp_4)), (3, .int (nI cn2_1)), (1, .int ch_1), (0, .ref z0)]) hx hb dX1_changeInTurn_55 rfl hl (by decide) rfl (fun ls hl => ?_)
      refine lv_iinc (v := (nI (cn2_1 + 1))) (lv' := [(3, .int (nI (cn2_1 + 1))), (2, .int r_7), (4, .int (nI zp_4)), (1, .int ch_1), (0, .ref z0)]) hx hb dX1_changeInTurn_56 hl (k := 2) rfl (nI_add cn2_1 1) (by decide) rfl (fun ls hl => ?_)
      refine lv_goto (tgt := 9) hx hb dX1_changeInTurn_59 (by decide) ?_
      exact ih_1 _ (cn2_1 + 1, ch_1, r_7, pb2_1) _ _ _ (by omega) ⟨rfl, ⟨⟨by omega, hv_1.1.2⟩, hpl_1⟩, hP, hD, hS, (lv_sub hl [0, 1, 3, 4] rfl)⟩
    · have c_6 : ¬ (zp_4 = (pb2_1 cn2_1)) := fun h => c_6 ((nI_eq (a := zp_4) (b := (pb2_1 cn2_1)) (by omega) (by omega)).mpr h)
      refine lv_aload_n hx hb dX1_changeInTurn_39 rfl (lv_at hl 4 rfl) ?_
      refine va_get (D := D) (ci := 1) (v := .ref z1) (C := RX1) (T := TX1) (N := 8) hx hb hts inX1 hown hK hP 0 rfl rfl 1 (by decide) (hts _ tw_236) (fun _ h9 => h9) rfl dX1_changeInTurn_40 ?_
      refine lv_iload_n hx hb dX1_changeInTurn_43 rfl (lv_at hl 1 rfl) ?_
      refine lv_iload hx hb dX1_changeInTurn_44 (lv_at hl 0 rfl) ?_
      refine va_iast hx hb hK hP hD hS 1 1 rfl rfl (vp_in_nI (by omega) (by decide)) dX1_changeInTurn_46 (fun H locs hP hD hS => ?_)
      replace hP : va_P D classes [(z0, .inr (1, (fX1 c0 z1 z2 z3 (nI pn) pf pd pe))), (aI k z1 4 (upd (nF pb2_1) (Int32.toNatClampNeg (nI cn2_1)) (nI zp_4))), (aI k z2 100 pco), (c0, .inr (4, (fX4 c1 c2 (nI cc) (nI rz) ro sd)))] H := hP
      replace hD : va_D A [(z0, .inr (1, (fX1 c0 z1 z2 z3 (nI pn) pf pd pe))), (aI k z1 4 (upd (nF pb2_1) (Int32.toNatClampNeg (nI cn2_1)) (nI zp_4))), (aI k z2 100 pco), (c0, .inr (4, (fX4 c1 c2 (nI cc) (nI rz) ro sd)))] := hD
      rw [nI_clamp (n := cn2_1) (by omega)] at hP hD
      rw [show upd (nF pb2_1) cn2_1 (nI zp_4) = nF (fun j => if j = cn2_1 then zp_4 else pb2_1 j) from nF_upd _ _ _] at hP hD
      obtain ⟨d_9, hd_9⟩ : ∃ z : Nat → Nat, z = (fun j => if j = cn2_1 then zp_4 else pb2_1 j) := ⟨_, rfl⟩
      rw [← hd_9] at hP hD
      have hbb_9 : ∀ j, d_9 j ≤ 24 := by rw [hd_9]; exact up_le hpl_1 (by omega)
      refine lv_iconst (v := 1) hx hb dX1_changeInTurn_47 (by decide) ?_
      refine lv_istore_n (lv' := [(1, .int 1), (4, .int (nI zp_4)), (3, .int (nI cn2_1)), (2, .int lf_1), (0, .ref z0)]) hx hb dX1_changeInTurn_48 rfl hl (by decide) rfl (fun ls hl => ?_)
      refine lv_aload_n hx hb dX1_changeInTurn_49 rfl (lv_at hl 4 rfl) ?_
      refine lv_iload_n hx hb dX1_changeInTurn_50 rfl (lv_at hl 2 rfl) ?_
      refine lv_iload_n hx hb dX1_changeInTurn_51 rfl (lv_at hl 3 rfl) ?_
      refine ro_i (D := D) (va_runV (As := [.int (nI cn2_1), .int lf_1]) (rest := []) ⟨hx, hb, hml, hown, hts⟩ ((x_leftBehind l D k st lo c0 z0 z1 z2 z3 pn pf pd pe d_9 cn2_1 lf_1 (by first | assumption | omega) (by first | assumption | omega) hbb_9) H.size) (cwV 2 hts (gV tw_834 tw_836 tw_19 tw_84 tw_837) rfl rfl rfl (by decide +kernel) ⟨Nat.le_of_ble_eq_true rfl, Nat.le_of_ble_eq_true rfl⟩) (pV hS hAlo hlo hP hK (va_Dlo hD hAlo) hZ [0, 1] (by decide) rfl (ci := 1) (q := (RX1, TX1, 8)) (q0 := 0) rfl rfl) rfl rfl hl.1 rfl (lv_room (Nat.le_of_ble_eq_true rfl)) dX1_changeInTurn_52 ⟨Nat.le_of_ble_eq_true rfl, Nat.le_of_ble_eq_true rfl⟩) hS hA hP (fun r_10 H locs hw_10 hP hS => ?_)
      try dsimp only at hw_10
      refine lv_istore_n (lv' := [(2, .int r_10), (1, .int 1), (4, .int (nI zp_4)), (3, .int (nI cn2_1)), (0, .ref z0)]) hx hb dX1_changeInTurn_55 rfl hl (by decide) rfl (fun ls hl => ?_)
      refine lv_iinc (v := (nI (cn2_1 + 1))) (lv' := [(3, .int (nI (cn2_1 + 1))), (2, .int r_10), (1, .int 1), (4, .int (nI zp_4)), (0, .ref z0)]) hx hb dX1_changeInTurn_56 hl (k := 3) rfl (nI_add cn2_1 1) (by decide) rfl (fun ls hl => ?_)
      refine lv_goto (tgt := 9) hx hb dX1_changeInTurn_59 (by decide) ?_
      exact ih_1 _ (cn2_1 + 1, 1, r_10, d_9) _ _ _ (by omega) ⟨rfl, ⟨⟨by omega, .inl rfl⟩, hbb_9⟩, hP, hD, hS, (lv_sub hl [0, 1, 2, 4] rfl)⟩

theorem dX1_goByTurns_0 : decode cX1_goByTurns 0 = .ok (.iconst 0, 1) := by decide +kernel
theorem dX1_goByTurns_1 : decode cX1_goByTurns 1 = .ok (.istore_n 1, 1) := by decide +kernel
theorem dX1_goByTurns_2 : decode cX1_goByTurns 2 = .ok (.iload_n 1, 1) := by decide +kernel
theorem dX1_goByTurns_3 : decode cX1_goByTurns 3 = .ok (.bipush 50, 2) := by decide +kernel
theorem dX1_goByTurns_5 : decode cX1_goByTurns 5 = .ok (.if_icmp .ge 18, 3) := by decide +kernel
theorem dX1_goByTurns_8 : decode cX1_goByTurns 8 = .ok (.aload_n 0, 1) := by decide +kernel
theorem dX1_goByTurns_9 : decode cX1_goByTurns 9 = .ok (.invokevirtual 86, 3) := by decide +kernel
theorem dX1_goByTurns_12 : decode cX1_goByTurns 12 = .ok (.ifCond .ne 5, 3) := by decide +kernel
theorem dX1_goByTurns_15 : decode cX1_goByTurns 15 = .ok (.iload_n 1, 1) := by decide +kernel
theorem dX1_goByTurns_16 : decode cX1_goByTurns 16 = .ok (.ireturn, 1) := by decide +kernel
theorem dX1_goByTurns_17 : decode cX1_goByTurns 17 = .ok (.iinc 1 1, 3) := by decide +kernel
theorem dX1_goByTurns_20 : decode cX1_goByTurns 20 = .ok (.goto (-18), 3) := by decide +kernel
theorem dX1_goByTurns_23 : decode cX1_goByTurns 23 = .ok (.iconst (-1), 1) := by decide +kernel
theorem dX1_goByTurns_24 : decode cX1_goByTurns 24 = .ok (.ireturn, 1) := by decide +kernel
set_option maxHeartbeats 4000000 in
set_option maxRecDepth 100000 in
theorem x_goByTurns (l : Launch) (D : va_G) (k : Nat → ClassId) (st : Nat → Nat) (lo : Nat) (c0 : Nat) (z0 : Nat) (z1 : Nat) (z2 : Nat) (z3 : Nat) (pn : Nat) (pf : Int32) (pd : Int32) (pe : Int32) (pb : Nat → Nat) (pco : Nat → Int32) (c1 : Nat) (c2 : Nat) (cc : Nat) (rz : Nat) (ro : Int32) (sd : Int32) (hpn : pn ≤ 24) (hcc : cc ≤ 4) (hpb : ∀ j, pb j ≤ 24) : CWi l D k st lo yX1_goByTurns cX1_goByTurns 2 (some .int) ({ frames := 4, cells := 0, slots := 0, locals := 96 }) 0 0 [.ref z0] [(z0, .inr (1, (fX1 c0 z1 z2 z3 (nI pn) pf pd pe))), (aI k z1 4 (nF pb)), (aI k z2 100 pco), (c0, .inr (4, (fX4 c1 c2 (nI cc) (nI rz) ro sd)))] (fun (r : Int32) (pb_ : (Nat → Nat)) => ∀ j, pb_ j ≤ 24) (fun (pb_ : (Nat → Nat)) => [(z0, .inr (1, (fX1 c0 z1 z2 z3 (nI pn) pf pd pe))), (aI k z1 4 (nF pb_)), (aI k z2 100 pco), (c0, .inr (4, (fX4 c1 c2 (nI cc) (nI rz) ro sd)))]) := by
  intro sz
  refine Met.ofW (cc := cX1_goByTurns) (maxL := 2) (ret := (some .int)) (by decide) rfl ?_
  intro p e s m args below meth c s₁ B hml hv
  obtain ⟨rfl, hsz, hlo, hP, hK, hDL, hZ⟩ := hv
  have hx := B.exec
  have hb := B.bytes
  have hr := B.returns
  have hts := WS_ts B.pre
  have hown : s.vm.findClass RX1 = some m.cls := findClass_of_methodNamed B.named
  have hlocks := B.notSynchronized
  subst hsz
  have hD := hDL.self (sz := s.heap.size)
  have hAlo := A_lo hDL hlo
  generalize hAe : va_A [(z0, .inr (1, (fX1 c0 z1 z2 z3 (nI pn) pf pd pe))), (aI k z1 4 (nF pb)), (aI k z2 100 pco), (c0, .inr (4, (fX4 c1 c2 (nI cc) (nI rz) ro sd)))] s.heap.size = A at hD hAlo ⊢
  have hA : ∀ q : Nat, s.heap.size ≤ q → A q := fun q h => by rw [← hAe]; exact Or.inr h
  have hS : va_S A s.heap s.heap [] := va_S.rf
  have hl := lv_entry ([.ref z0]) (n := 2) (Nat.le_of_ble_eq_true rfl)
  rw [lg_entry_eq]
  generalize (lg_sl ([.ref z0]) ++ List.replicate (2 - (lg_sl ([.ref z0])).length) Slot.unset).toArray = ls at hl ⊢
  have hl : lv_has ls 2 [(0, .ref z0)] := hl
  refine lv_iconst (v := 0) hx hb dX1_goByTurns_0 (by decide) ?_
  refine lv_istore_n (lv' := [(1, .int 0), (0, .ref z0)]) hx hb dX1_goByTurns_1 rfl hl (by decide) rfl (fun ls hl => ?_)
  refine W_loop (σ := Nat × (Nat → Nat)) (fun (n_ : Nat) (x_ : Nat × (Nat → Nat)) (H : Heap) (locs : List Loc) (ls : Array Slot) => match x_ with | (tt_1, pb2_1) => n_ = 51 - tt_1 ∧ ((tt_1 ≤ 50) ∧ (∀ j, pb2_1 j ≤ 24)) ∧ va_P D classes [(z0, .inr (1, (fX1 c0 z1 z2 z3 (nI pn) pf pd pe))), (aI k z1 4 (nF pb2_1)), (aI k z2 100 pco), (c0, .inr (4, (fX4 c1 c2 (nI cc) (nI rz) ro sd)))] H ∧ va_D A [(z0, .inr (1, (fX1 c0 z1 z2 z3 (nI pn) pf pd pe))), (aI k z1 4 (nF pb2_1)), (aI k z2 100 pco), (c0, .inr (4, (fX4 c1 c2 (nI cc) (nI rz) ro sd)))] ∧ va_S A s.heap H locs ∧ lv_has ls 2 [(1, .int (nI tt_1)), (0, .ref z0)]) (fun n_1 x_1 H locs ls hI ih_1 => ?_) _ (0, pb) ⟨rfl, ⟨by omega, hpb⟩, hP, hD, hS, (lv_sub hl [0, 1] rfl)⟩
  obtain ⟨tt_1, pb2_1⟩ := x_1
  obtain ⟨hm_1, hv_1, hP, hD, hS, hl⟩ := hI
  subst hm_1
  have hpl_1 := hv_1.2
  refine lv_iload_n hx hb dX1_goByTurns_2 rfl (lv_at hl 0 rfl) ?_
  refine lv_bipush (v := 50) hx hb dX1_goByTurns_3 (by decide) ?_
  refine lv_icmp_ge (tgt := 23) hx hb dX1_goByTurns_5 (by decide) (fun c_2 => ?_) (fun c_2 => ?_)
  · have c_2 := (nI_leI (a := 50) (b := tt_1) (by omega) (by omega)).mp c_2
    refine lv_iconst (v := (-1)) hx hb dX1_goByTurns_23 (by decide) ?_
    have hP9 := hP.sub (ws' := [(z0, .inr (1, (fX1 c0 z1 z2 z3 (nI pn) pf pd pe))), (aI k z1 4 (nF pb2_1)), (aI k z2 100 pco), (c0, .inr (4, (fX4 c1 c2 (nI cc) (nI rz) ro sd)))]) [0, 1, 2, 3] rfl
    have hD9 := hD.sub (ws' := [(z0, .inr (1, (fX1 c0 z1 z2 z3 (nI pn) pf pd pe))), (aI k z1 4 (nF pb2_1)), (aI k z2 100 pco), (c0, .inr (4, (fX4 c1 c2 (nI cc) (nI rz) ro sd)))]) [0, 1, 2, 3] (by decide) rfl
    exact W.iret (v := (-1)) hx hb hr (fun t ht hW => ⟨⟨(-1), pb2_1, rfl, hpl_1, by rw [ht]; exact hP9, hD9⟩, hS.F ht⟩) hS.2.2 dX1_goByTurns_24
  · have c_2 : ¬ (50 ≤ tt_1) := fun h => c_2 ((nI_leI (a := 50) (b := tt_1) (by omega) (by omega)).mpr h)
    refine lv_aload_n hx hb dX1_goByTurns_8 rfl (lv_at hl 1 rfl) ?_
    refine rw_i (D := D) (wr := []) (va_runV (As := []) (rest := []) ⟨hx, hb, hml, hown, hts⟩ ((x_changeInTurn l D k st lo c0 z0 z1 z2 z3 pn pf pd pe pb2_1 pco c1 c2 cc rz ro sd (by first | assumption | omega) (by first | assumption | omega) hpl_1) H.size) (cwV 0 hts (gV tw_875 tw_877 tw_24 tw_84 tw_878) rfl rfl rfl (by decide +kernel) ⟨Nat.le_of_ble_eq_true rfl, Nat.le_of_ble_eq_true rfl⟩) (pV hS hAlo hlo hP hK (va_Dlo hD hAlo) hZ [0, 1, 2, 3] (by decide) rfl (ci := 1) (q := (RX1, TX1, 8)) (q0 := 0) rfl rfl) rfl rfl hl.1 rfl (lv_room (Nat.le_of_ble_eq_true rfl)) dX1_goByTurns_9 ⟨Nat.le_of_ble_eq_true rfl, Nat.le_of_ble_eq_true rfl⟩) hS hA hP hD [0, 1, 2, 3] [] rfl rfl (by decide) (by decide) (fun r_3 u H locs hw_3 hP hD hS => ?_)
    obtain ⟨pb__3, rfl⟩ : ∃ z, z = u := ⟨_, rfl⟩
    replace hP : va_P D classes [(z0, .inr (1, (fX1 c0 z1 z2 z3 (nI pn) pf pd pe))), (aI k z1 4 (nF pb__3)), (aI k z2 100 pco), (c0, .inr (4, (fX4 c1 c2 (nI cc) (nI rz) ro sd)))] H := hP
    replace hD : va_D A [(z0, .inr (1, (fX1 c0 z1 z2 z3 (nI pn) pf pd pe))), (aI k z1 4 (nF pb__3)), (aI k z2 100 pco), (c0, .inr (4, (fX4 c1 c2 (nI cc) (nI rz) ro sd)))] := hD
    try dsimp only at hw_3
    rcases hw_3 with ⟨rfl | rfl, hw_3⟩
    · refine lv_if_ne (tgt := 17) hx hb dX1_goByTurns_12 (by decide) (fun _ => ?_) (fun h => absurd h (by decide))
      refine lv_iinc (v := (nI (tt_1 + 1))) (lv' := [(1, .int (nI (tt_1 + 1))), (0, .ref z0)]) hx hb dX1_goByTurns_17 hl (k := 0) rfl (nI_add tt_1 1) (by decide) rfl (fun ls hl => ?_)
      refine lv_goto (tgt := 2) hx hb dX1_goByTurns_20 (by decide) ?_
      exact ih_1 _ (tt_1 + 1, pb__3) _ _ _ (by omega) ⟨rfl, ⟨by omega, hw_3⟩, hP, hD, hS, (lv_sub hl [0, 1] rfl)⟩
    · refine lv_if_ne (tgt := 17) hx hb dX1_goByTurns_12 (by decide) (fun h => absurd (by decide) h) (fun _ => ?_)
      refine lv_iload_n hx hb dX1_goByTurns_15 rfl (lv_at hl 0 rfl) ?_
      have hP9 := hP.sub (ws' := [(z0, .inr (1, (fX1 c0 z1 z2 z3 (nI pn) pf pd pe))), (aI k z1 4 (nF pb__3)), (aI k z2 100 pco), (c0, .inr (4, (fX4 c1 c2 (nI cc) (nI rz) ro sd)))]) [0, 1, 2, 3] rfl
      have hD9 := hD.sub (ws' := [(z0, .inr (1, (fX1 c0 z1 z2 z3 (nI pn) pf pd pe))), (aI k z1 4 (nF pb__3)), (aI k z2 100 pco), (c0, .inr (4, (fX4 c1 c2 (nI cc) (nI rz) ro sd)))]) [0, 1, 2, 3] (by decide) rfl
      exact W.iret (v := (nI tt_1)) hx hb hr (fun t ht hW => ⟨⟨(nI tt_1), pb__3, rfl, hw_3, by rw [ht]; exact hP9, hD9⟩, hS.F ht⟩) hS.2.2 dX1_goByTurns_16

theorem f_x_countRests_rows : True := trivial
theorem dX1_countRests_0 : decode cX1_countRests 0 = .ok (.aload_n 0, 1) := by decide +kernel
theorem dX1_countRests_1 : decode cX1_countRests 1 = .ok (.getfield 34, 3) := by decide +kernel
theorem dX1_countRests_4 : decode cX1_countRests 4 = .ok (.getfield 53, 3) := by decide +kernel
theorem dX1_countRests_7 : decode cX1_countRests 7 = .ok (.ifCond .le 10, 3) := by decide +kernel
theorem dX1_countRests_10 : decode cX1_countRests 10 = .ok (.aload_n 0, 1) := by decide +kernel
theorem dX1_countRests_11 : decode cX1_countRests 11 = .ok (.getfield 21, 3) := by decide +kernel
theorem dX1_countRests_14 : decode cX1_countRests 14 = .ok (.goto 4, 3) := by decide +kernel
theorem dX1_countRests_17 : decode cX1_countRests 17 = .ok (.iconst 0, 1) := by decide +kernel
theorem dX1_countRests_18 : decode cX1_countRests 18 = .ok (.istore_n 1, 1) := by decide +kernel
theorem dX1_countRests_19 : decode cX1_countRests 19 = .ok (.aload_n 0, 1) := by decide +kernel
theorem dX1_countRests_20 : decode cX1_countRests 20 = .ok (.getfield 34, 3) := by decide +kernel
theorem dX1_countRests_23 : decode cX1_countRests 23 = .ok (.getfield 53, 3) := by decide +kernel
theorem dX1_countRests_26 : decode cX1_countRests 26 = .ok (.iconst 1, 1) := by decide +kernel
theorem dX1_countRests_27 : decode cX1_countRests 27 = .ok (.if_icmp .le 10, 3) := by decide +kernel
theorem dX1_countRests_30 : decode cX1_countRests 30 = .ok (.aload_n 0, 1) := by decide +kernel
theorem dX1_countRests_31 : decode cX1_countRests 31 = .ok (.getfield 21, 3) := by decide +kernel
theorem dX1_countRests_34 : decode cX1_countRests 34 = .ok (.goto 4, 3) := by decide +kernel
theorem dX1_countRests_37 : decode cX1_countRests 37 = .ok (.iconst 0, 1) := by decide +kernel
theorem dX1_countRests_38 : decode cX1_countRests 38 = .ok (.istore_n 2, 1) := by decide +kernel
theorem dX1_countRests_39 : decode cX1_countRests 39 = .ok (.iconst 0, 1) := by decide +kernel
theorem dX1_countRests_40 : decode cX1_countRests 40 = .ok (.istore_n 3, 1) := by decide +kernel
theorem dX1_countRests_41 : decode cX1_countRests 41 = .ok (.iconst 0, 1) := by decide +kernel
theorem dX1_countRests_42 : decode cX1_countRests 42 = .ok (.istore 4, 2) := by decide +kernel
theorem dX1_countRests_44 : decode cX1_countRests 44 = .ok (.iload 4, 2) := by decide +kernel
theorem dX1_countRests_46 : decode cX1_countRests 46 = .ok (.iload_n 1, 1) := by decide +kernel
theorem dX1_countRests_47 : decode cX1_countRests 47 = .ok (.if_icmp .gt 55, 3) := by decide +kernel
theorem dX1_countRests_50 : decode cX1_countRests 50 = .ok (.iconst 0, 1) := by decide +kernel
theorem dX1_countRests_51 : decode cX1_countRests 51 = .ok (.istore 5, 2) := by decide +kernel
theorem dX1_countRests_53 : decode cX1_countRests 53 = .ok (.iload 5, 2) := by decide +kernel
theorem dX1_countRests_55 : decode cX1_countRests 55 = .ok (.iload_n 2, 1) := by decide +kernel
theorem dX1_countRests_56 : decode cX1_countRests 56 = .ok (.if_icmp .gt 40, 3) := by decide +kernel
theorem dX1_countRests_59 : decode cX1_countRests 59 = .ok (.aload_n 0, 1) := by decide +kernel
theorem dX1_countRests_60 : decode cX1_countRests 60 = .ok (.getfield 9, 3) := by decide +kernel
theorem dX1_countRests_63 : decode cX1_countRests 63 = .ok (.iconst 0, 1) := by decide +kernel
theorem dX1_countRests_64 : decode cX1_countRests 64 = .ok (.iload 4, 2) := by decide +kernel
theorem dX1_countRests_66 : decode cX1_countRests 66 = .ok (.iastore, 1) := by decide +kernel
theorem dX1_countRests_67 : decode cX1_countRests 67 = .ok (.aload_n 0, 1) := by decide +kernel
theorem dX1_countRests_68 : decode cX1_countRests 68 = .ok (.getfield 9, 3) := by decide +kernel
theorem dX1_countRests_71 : decode cX1_countRests 71 = .ok (.iconst 1, 1) := by decide +kernel
theorem dX1_countRests_72 : decode cX1_countRests 72 = .ok (.iload 5, 2) := by decide +kernel
theorem dX1_countRests_74 : decode cX1_countRests 74 = .ok (.iastore, 1) := by decide +kernel
theorem dX1_countRests_75 : decode cX1_countRests 75 = .ok (.iload_n 3, 1) := by decide +kernel
theorem dX1_countRests_76 : decode cX1_countRests 76 = .ok (.aload_n 0, 1) := by decide +kernel
theorem dX1_countRests_77 : decode cX1_countRests 77 = .ok (.invokevirtual 90, 3) := by decide +kernel
theorem dX1_countRests_80 : decode cX1_countRests 80 = .ok (.ifCond .eq 7, 3) := by decide +kernel
theorem dX1_countRests_83 : decode cX1_countRests 83 = .ok (.iconst 1, 1) := by decide +kernel
theorem dX1_countRests_84 : decode cX1_countRests 84 = .ok (.goto 4, 3) := by decide +kernel
theorem dX1_countRests_87 : decode cX1_countRests 87 = .ok (.iconst 0, 1) := by decide +kernel
theorem dX1_countRests_88 : decode cX1_countRests 88 = .ok (.iadd, 1) := by decide +kernel
theorem dX1_countRests_89 : decode cX1_countRests 89 = .ok (.istore_n 3, 1) := by decide +kernel
theorem dX1_countRests_90 : decode cX1_countRests 90 = .ok (.iinc 5 1, 3) := by decide +kernel
theorem dX1_countRests_93 : decode cX1_countRests 93 = .ok (.goto (-40), 3) := by decide +kernel
theorem dX1_countRests_96 : decode cX1_countRests 96 = .ok (.iinc 4 1, 3) := by decide +kernel
theorem dX1_countRests_99 : decode cX1_countRests 99 = .ok (.goto (-55), 3) := by decide +kernel
theorem dX1_countRests_102 : decode cX1_countRests 102 = .ok (.iload_n 3, 1) := by decide +kernel
theorem dX1_countRests_103 : decode cX1_countRests 103 = .ok (.ireturn, 1) := by decide +kernel
theorem dX1_costOfAll_0 : decode cX1_costOfAll 0 = .ok (.iconst 0, 1) := by decide +kernel
theorem dX1_costOfAll_1 : decode cX1_costOfAll 1 = .ok (.istore_n 1, 1) := by decide +kernel
theorem dX1_costOfAll_2 : decode cX1_costOfAll 2 = .ok (.aload_n 0, 1) := by decide +kernel
theorem dX1_costOfAll_3 : decode cX1_costOfAll 3 = .ok (.getfield 25, 3) := by decide +kernel
theorem dX1_costOfAll_6 : decode cX1_costOfAll 6 = .ok (.istore_n 2, 1) := by decide +kernel
theorem dX1_costOfAll_7 : decode cX1_costOfAll 7 = .ok (.iconst 0, 1) := by decide +kernel
theorem dX1_costOfAll_8 : decode cX1_costOfAll 8 = .ok (.istore_n 3, 1) := by decide +kernel
theorem dX1_costOfAll_9 : decode cX1_costOfAll 9 = .ok (.iload_n 3, 1) := by decide +kernel
theorem dX1_costOfAll_10 : decode cX1_costOfAll 10 = .ok (.aload_n 0, 1) := by decide +kernel
theorem dX1_costOfAll_11 : decode cX1_costOfAll 11 = .ok (.getfield 34, 3) := by decide +kernel
theorem dX1_costOfAll_14 : decode cX1_costOfAll 14 = .ok (.getfield 53, 3) := by decide +kernel
theorem dX1_costOfAll_17 : decode cX1_costOfAll 17 = .ok (.if_icmp .ge 35, 3) := by decide +kernel
theorem dX1_costOfAll_20 : decode cX1_costOfAll 20 = .ok (.iload_n 1, 1) := by decide +kernel
theorem dX1_costOfAll_21 : decode cX1_costOfAll 21 = .ok (.aload_n 0, 1) := by decide +kernel
theorem dX1_costOfAll_22 : decode cX1_costOfAll 22 = .ok (.iload_n 3, 1) := by decide +kernel
theorem dX1_costOfAll_23 : decode cX1_costOfAll 23 = .ok (.aload_n 0, 1) := by decide +kernel
theorem dX1_costOfAll_24 : decode cX1_costOfAll 24 = .ok (.aload_n 0, 1) := by decide +kernel
theorem dX1_costOfAll_25 : decode cX1_costOfAll 25 = .ok (.getfield 9, 3) := by decide +kernel
theorem dX1_costOfAll_28 : decode cX1_costOfAll 28 = .ok (.iload_n 3, 1) := by decide +kernel
theorem dX1_costOfAll_29 : decode cX1_costOfAll 29 = .ok (.iaload, 1) := by decide +kernel
theorem dX1_costOfAll_30 : decode cX1_costOfAll 30 = .ok (.iload_n 2, 1) := by decide +kernel
theorem dX1_costOfAll_31 : decode cX1_costOfAll 31 = .ok (.invokevirtual 74, 3) := by decide +kernel
theorem dX1_costOfAll_34 : decode cX1_costOfAll 34 = .ok (.invokevirtual 70, 3) := by decide +kernel
theorem dX1_costOfAll_37 : decode cX1_costOfAll 37 = .ok (.iadd, 1) := by decide +kernel
theorem dX1_costOfAll_38 : decode cX1_costOfAll 38 = .ok (.istore_n 1, 1) := by decide +kernel
theorem dX1_costOfAll_39 : decode cX1_costOfAll 39 = .ok (.aload_n 0, 1) := by decide +kernel
theorem dX1_costOfAll_40 : decode cX1_costOfAll 40 = .ok (.iload_n 3, 1) := by decide +kernel
theorem dX1_costOfAll_41 : decode cX1_costOfAll 41 = .ok (.iload_n 2, 1) := by decide +kernel
theorem dX1_costOfAll_42 : decode cX1_costOfAll 42 = .ok (.invokevirtual 77, 3) := by decide +kernel
theorem dX1_costOfAll_45 : decode cX1_costOfAll 45 = .ok (.istore_n 2, 1) := by decide +kernel
theorem dX1_costOfAll_46 : decode cX1_costOfAll 46 = .ok (.iinc 3 1, 3) := by decide +kernel
theorem dX1_costOfAll_49 : decode cX1_costOfAll 49 = .ok (.goto (-40), 3) := by decide +kernel
theorem dX1_costOfAll_52 : decode cX1_costOfAll 52 = .ok (.iload_n 1, 1) := by decide +kernel
theorem dX1_costOfAll_53 : decode cX1_costOfAll 53 = .ok (.ireturn, 1) := by decide +kernel
set_option maxHeartbeats 4000000 in
set_option maxRecDepth 100000 in
theorem x_costOfAll (l : Launch) (D : va_G) (k : Nat → ClassId) (st : Nat → Nat) (lo : Nat) (c0 : Nat) (z0 : Nat) (z1 : Nat) (z2 : Nat) (z3 : Nat) (pn : Nat) (pf : Int32) (pd : Int32) (pe : Int32) (pb : Nat → Nat) (pco : Nat → Int32) (c1 : Nat) (c2 : Nat) (cc : Nat) (rz : Nat) (ro : Int32) (sd : Int32) (hpn : pn ≤ 24) (hcc : cc ≤ 4) (hpb : ∀ j, pb j ≤ 24) : CRi l D k st lo yX1_costOfAll cX1_costOfAll 4 (some .int) ({ frames := 2, cells := 0, slots := 0, locals := 45 }) [.ref z0] [(z0, .inr (1, (fX1 c0 z1 z2 z3 (nI pn) pf pd pe))), (aI k z1 4 (nF pb)), (aI k z2 100 pco), (c0, .inr (4, (fX4 c1 c2 (nI cc) (nI rz) ro sd)))] (fun _ => True) := by
  intro sz
  refine Met.ofW (cc := cX1_costOfAll) (maxL := 4) (ret := (some .int)) (by decide) rfl ?_
  intro p e s m args below meth c s₁ B hml hv
  obtain ⟨rfl, hsz, hlo, hP, hK, hDL, hZ⟩ := hv
  have hx := B.exec
  have hb := B.bytes
  have hr := B.returns
  have hts := WS_ts B.pre
  have hown : s.vm.findClass RX1 = some m.cls := findClass_of_methodNamed B.named
  have hlocks := B.notSynchronized
  subst hsz
  have hA : ∀ q : Nat, s.heap.size ≤ q → (fun q : Nat => s.heap.size ≤ q) q := fun _ h => h
  have hAlo : ∀ q : Nat, (fun q : Nat => s.heap.size ≤ q) q → lo ≤ q := fun q h => Nat.le_trans hlo h
  have hS : va_S (fun q : Nat => s.heap.size ≤ q) s.heap s.heap [] := va_S.rf
  have hl := lv_entry ([.ref z0]) (n := 4) (Nat.le_of_ble_eq_true rfl)
  rw [lg_entry_eq]
  generalize (lg_sl ([.ref z0]) ++ List.replicate (4 - (lg_sl ([.ref z0])).length) Slot.unset).toArray = ls at hl ⊢
  have hl : lv_has ls 4 [(0, .ref z0)] := hl
  refine lv_iconst (v := 0) hx hb dX1_costOfAll_0 (by decide) ?_
  refine lv_istore_n (lv' := [(1, .int 0), (0, .ref z0)]) hx hb dX1_costOfAll_1 rfl hl (by decide) rfl (fun ls hl => ?_)
  refine lv_aload_n hx hb dX1_costOfAll_2 rfl (lv_at hl 1 rfl) ?_
  refine va_get (D := D) (ci := 1) (v := .int pf) (C := RX1) (T := TX1) (N := 8) hx hb hts inX1 hown hK hP 0 rfl rfl 5 (by decide) (hts _ tw_241) (fun _ h9 => h9) rfl dX1_costOfAll_3 ?_
  refine lv_istore_n (lv' := [(2, .int pf), (1, .int 0), (0, .ref z0)]) hx hb dX1_costOfAll_6 rfl hl (by decide) rfl (fun ls hl => ?_)
  refine lv_iconst (v := 0) hx hb dX1_costOfAll_7 (by decide) ?_
  refine lv_istore_n (lv' := [(3, .int 0), (2, .int pf), (1, .int 0), (0, .ref z0)]) hx hb dX1_costOfAll_8 rfl hl (by decide) rfl (fun ls hl => ?_)
  refine W_loop (σ := Nat × Int32 × Int32) (fun (n_ : Nat) (x_ : Nat × Int32 × Int32) (H : Heap) (locs : List Loc) (ls : Array Slot) => match x_ with | (cn2_1, al_1, lf_1) => n_ = 5 - cn2_1 ∧ (cn2_1 ≤ 4) ∧ va_P D classes [(z0, .inr (1, (fX1 c0 z1 z2 z3 (nI pn) pf pd pe))), (aI k z1 4 (nF pb)), (aI k z2 100 pco), (c0, .inr (4, (fX4 c1 c2 (nI cc) (nI rz) ro sd)))] H ∧ va_S (fun q : Nat => s.heap.size ≤ q) s.heap H locs ∧ lv_has ls 4 [(3, .int (nI cn2_1)), (2, .int lf_1), (1, .int al_1), (0, .ref z0)]) (fun n_1 x_1 H locs ls hI ih_1 => ?_) _ (0, 0, pf) ⟨rfl, (by omega), hP, hS, (lv_sub hl [0, 1, 2, 3] rfl)⟩
  obtain ⟨cn2_1, al_1, lf_1⟩ := x_1
  obtain ⟨hm_1, hv_1, hP, hS, hl⟩ := hI
  subst hm_1
  refine lv_iload_n hx hb dX1_costOfAll_9 rfl (lv_at hl 0 rfl) ?_
  refine lv_aload_n hx hb dX1_costOfAll_10 rfl (lv_at hl 3 rfl) ?_
  refine va_get (D := D) (ci := 1) (v := .ref c0) (C := RX1) (T := TX1) (N := 8) hx hb hts inX1 hown hK hP 0 rfl rfl 0 (by decide) (hts _ tw_235) (fun _ h9 => h9) rfl dX1_costOfAll_11 ?_
  refine va_get (D := D) (ci := 4) (v := .int (nI cc)) (C := RX4) (T := TX4) (N := 6) hx hb hts inX4 hown hK hP 3 rfl rfl 2 (by decide) (hts _ tw_179) (fun _ h9 => h9) rfl dX1_costOfAll_14 ?_
  refine lv_icmp_ge (tgt := 52) hx hb dX1_costOfAll_17 (by decide) (fun c_2 => ?_) (fun c_2 => ?_)
  · have c_2 := (nI_leI (a := cc) (b := cn2_1) (by omega) (by omega)).mp c_2
    refine lv_iload_n hx hb dX1_costOfAll_52 rfl (lv_at hl 2 rfl) ?_
    exact W.iret (v := al_1) hx hb hr (fun t ht hW => ⟨⟨al_1, (), rfl, trivial, trivial⟩, hS.F ht⟩) hS.2.2 dX1_costOfAll_53
  · have c_2 : ¬ (cc ≤ cn2_1) := fun h => c_2 ((nI_leI (a := cc) (b := cn2_1) (by omega) (by omega)).mpr h)
    refine lv_iload_n hx hb dX1_costOfAll_20 rfl (lv_at hl 2 rfl) ?_
    refine lv_aload_n hx hb dX1_costOfAll_21 rfl (lv_at hl 3 rfl) ?_
    refine lv_iload_n hx hb dX1_costOfAll_22 rfl (lv_at hl 0 rfl) ?_
    refine lv_aload_n hx hb dX1_costOfAll_23 rfl (lv_at hl 3 rfl) ?_
    refine lv_aload_n hx hb dX1_costOfAll_24 rfl (lv_at hl 3 rfl) ?_
    refine va_get (D := D) (ci := 1) (v := .ref z1) (C := RX1) (T := TX1) (N := 8) hx hb hts inX1 hown hK hP 0 rfl rfl 1 (by decide) (hts _ tw_236) (fun _ h9 => h9) rfl dX1_costOfAll_25 ?_
    refine lv_iload_n hx hb dX1_costOfAll_28 rfl (lv_at hl 0 rfl) ?_
    refine va_iald hx hb hK hP 1 1 rfl rfl (vp_in_nI (by omega) (by decide)) dX1_costOfAll_29 ?_
    have hq_3 := hpb cn2_1
    refine lv_ti (y := (nI (pb cn2_1))) (by rw [nI_clamp (by omega)]; rfl) ?_
    refine lv_iload_n hx hb dX1_costOfAll_30 rfl (lv_at hl 1 rfl) ?_
    refine ro_i (D := D) (va_runV (As := [.int (nI (pb cn2_1)), .int lf_1]) (rest := [.int (nI cn2_1), .ref z0, .int al_1]) ⟨hx, hb, hml, hown, hts⟩ ((x_placeFrom l D k st lo c0 z0 z1 z2 z3 pn pf pd pe (pb cn2_1) lf_1 (by first | assumption | omega) (by first | assumption | omega)) H.size) (cwV 2 hts (gV tw_838 tw_840 tw_20 tw_84 tw_841) rfl rfl rfl (by decide +kernel) ⟨Nat.le_of_ble_eq_true rfl, Nat.le_of_ble_eq_true rfl⟩) (pV hS hAlo hlo hP hK hDL hZ [0] (by decide) rfl (ci := 1) (q := (RX1, TX1, 8)) (q0 := 0) rfl rfl) rfl rfl hl.1 rfl (lv_room (Nat.le_of_ble_eq_true rfl)) dX1_costOfAll_31 ⟨Nat.le_of_ble_eq_true rfl, Nat.le_of_ble_eq_true rfl⟩) hS hA hP (fun r_4 H locs hw_4 hP hS => ?_)
    try dsimp only at hw_4
    obtain ⟨zp_5, hzp_5, rfl⟩ := hw_4
    refine ro_i (D := D) (va_runV (As := [.int (nI cn2_1), .int (nI zp_5)]) (rest := [.int al_1]) ⟨hx, hb, hml, hown, hts⟩ ((x_costAt l D k st lo c0 z0 z1 z2 z3 pn pf pd pe pco cn2_1 zp_5 (by first | assumption | omega) (by first | assumption | omega)) H.size) (cwV 2 hts (gV tw_866 tw_843 tw_844 tw_84 tw_845) rfl rfl rfl (by decide +kernel) ⟨Nat.le_of_ble_eq_true rfl, Nat.le_of_ble_eq_true rfl⟩) (pV hS hAlo hlo hP hK hDL hZ [0, 2] (by decide) rfl (ci := 1) (q := (RX1, TX1, 8)) (q0 := 0) rfl rfl) rfl rfl hl.1 rfl (lv_room (Nat.le_of_ble_eq_true rfl)) dX1_costOfAll_34 ⟨Nat.le_of_ble_eq_true rfl, Nat.le_of_ble_eq_true rfl⟩) hS hA hP (fun r_6 H locs hw_6 hP hS => ?_)
    try dsimp only at hw_6
    refine lv_iadd hx hb dX1_costOfAll_37 ?_
    refine lv_topi (fun x_7 ex_7 => ?_)
    refine lv_istore_n (lv' := [(1, .int x_7), (3, .int (nI cn2_1)), (2, .int lf_1), (0, .ref z0)]) hx hb dX1_costOfAll_38 rfl hl (by decide) rfl (fun ls hl => ?_)
    refine lv_aload_n hx hb dX1_costOfAll_39 rfl (lv_at hl 3 rfl) ?_
    refine lv_iload_n hx hb dX1_costOfAll_40 rfl (lv_at hl 1 rfl) ?_
    refine lv_iload_n hx hb dX1_costOfAll_41 rfl (lv_at hl 2 rfl) ?_
    refine ro_i (D := D) (va_runV (As := [.int (nI cn2_1), .int lf_1]) (rest := []) ⟨hx, hb, hml, hown, hts⟩ ((x_leftBehind l D k st lo c0 z0 z1 z2 z3 pn pf pd pe pb cn2_1 lf_1 (by first | assumption | omega) (by first | assumption | omega) hpb) H.size) (cwV 2 hts (gV tw_834 tw_836 tw_19 tw_84 tw_837) rfl rfl rfl (by decide +kernel) ⟨Nat.le_of_ble_eq_true rfl, Nat.le_of_ble_eq_true rfl⟩) (pV hS hAlo hlo hP hK hDL hZ [0, 1] (by decide) rfl (ci := 1) (q := (RX1, TX1, 8)) (q0 := 0) rfl rfl) rfl rfl hl.1 rfl (lv_room (Nat.le_of_ble_eq_true rfl)) dX1_costOfAll_42 ⟨Nat.le_of_ble_eq_true rfl, Nat.le_of_ble_eq_true rfl⟩) hS hA hP (fun r_8 H locs hw_8 hP hS => ?_)
    try dsimp only at hw_8
    refine lv_istore_n (lv' := [(2, .int r_8), (1, .int x_7), (3, .int (nI cn2_1)), (0, .ref z0)]) hx hb dX1_costOfAll_45 rfl hl (by decide) rfl (fun ls hl => ?_)
    refine lv_iinc (v := (nI (cn2_1 + 1))) (lv' := [(3, .int (nI (cn2_1 + 1))), (2, .int r_8), (1, .int x_7), (0, .ref z0)]) hx hb dX1_costOfAll_46 hl (k := 2) rfl (nI_add cn2_1 1) (by decide) rfl (fun ls hl => ?_)
    refine lv_goto (tgt := 9) hx hb dX1_costOfAll_49 (by decide) ?_
    exact ih_1 _ (cn2_1 + 1, x_7, r_8) _ _ _ (by omega) ⟨rfl, (by omega), hP, hS, (lv_sub hl [0, 1, 2, 3] rfl)⟩


theorem dX8_street_0 : decode cX8_street 0 = .ok (.iload_n 1, 1) := by decide +kernel
theorem dX8_street_1 : decode cX8_street 1 = .ok (.i2l, 1) := by decide +kernel
theorem dX8_street_2 : decode cX8_street 2 = .ok (.lconst 0, 1) := by decide +kernel
theorem dX8_street_3 : decode cX8_street 3 = .ok (.ldc2_w 105, 3) := by decide +kernel
theorem dX8_street_6 : decode cX8_street 6 = .ok (.invokestatic 107, 3) := by decide +kernel
theorem dX8_street_9 : decode cX8_street 9 = .ok (.ifCond .ne 7, 3) := by decide +kernel
theorem dX8_street_12 : decode cX8_street 12 = .ok (.sipush (-1001), 3) := by decide +kernel
theorem dX8_street_15 : decode cX8_street 15 = .ok (.ireturn, 1) := by decide +kernel
theorem dX8_street_16 : decode cX8_street 16 = .ok (.aload_n 0, 1) := by decide +kernel
theorem dX8_street_17 : decode cX8_street 17 = .ok (.iconst (-1), 1) := by decide +kernel
theorem dX8_street_18 : decode cX8_street 18 = .ok (.putfield 25, 3) := by decide +kernel
theorem dX8_street_21 : decode cX8_street 21 = .ok (.aload_n 0, 1) := by decide +kernel
theorem dX8_street_22 : decode cX8_street 22 = .ok (.iconst 0, 1) := by decide +kernel
theorem dX8_street_23 : decode cX8_street 23 = .ok (.putfield 118, 3) := by decide +kernel
theorem dX8_street_26 : decode cX8_street 26 = .ok (.aload_n 0, 1) := by decide +kernel
theorem dX8_street_27 : decode cX8_street 27 = .ok (.invokevirtual 102, 3) := by decide +kernel
theorem dX8_street_30 : decode cX8_street 30 = .ok (.iconst 0, 1) := by decide +kernel
theorem dX8_street_31 : decode cX8_street 31 = .ok (.istore_n 2, 1) := by decide +kernel
theorem dX8_street_32 : decode cX8_street 32 = .ok (.iload_n 2, 1) := by decide +kernel
theorem dX8_street_33 : decode cX8_street 33 = .ok (.ifCond .ne 18, 3) := by decide +kernel
theorem dX8_street_36 : decode cX8_street 36 = .ok (.aload_n 0, 1) := by decide +kernel
theorem dX8_street_37 : decode cX8_street 37 = .ok (.invokevirtual 121, 3) := by decide +kernel
theorem dX8_street_40 : decode cX8_street 40 = .ok (.ifCond .lt 11, 3) := by decide +kernel
theorem dX8_street_43 : decode cX8_street 43 = .ok (.aload_n 0, 1) := by decide +kernel
theorem dX8_street_44 : decode cX8_street 44 = .ok (.invokevirtual 203, 3) := by decide +kernel
theorem dX8_street_47 : decode cX8_street 47 = .ok (.istore_n 2, 1) := by decide +kernel
theorem dX8_street_48 : decode cX8_street 48 = .ok (.goto (-16), 3) := by decide +kernel
theorem dX8_street_51 : decode cX8_street 51 = .ok (.iload_n 2, 1) := by decide +kernel
theorem dX8_street_52 : decode cX8_street 52 = .ok (.ifCond .ne 22, 3) := by decide +kernel
theorem dX8_street_55 : decode cX8_street 55 = .ok (.aload_n 0, 1) := by decide +kernel
theorem dX8_street_56 : decode cX8_street 56 = .ok (.getfield 177, 3) := by decide +kernel
theorem dX8_street_59 : decode cX8_street 59 = .ok (.ifCond .ne 15, 3) := by decide +kernel
theorem dX8_street_62 : decode cX8_street 62 = .ok (.aload_n 0, 1) := by decide +kernel
theorem dX8_street_63 : decode cX8_street 63 = .ok (.iconst 1, 1) := by decide +kernel
theorem dX8_street_64 : decode cX8_street 64 = .ok (.aload_n 0, 1) := by decide +kernel
theorem dX8_street_65 : decode cX8_street 65 = .ok (.getfield 113, 3) := by decide +kernel
theorem dX8_street_68 : decode cX8_street 68 = .ok (.invokevirtual 159, 3) := by decide +kernel
theorem dX8_street_71 : decode cX8_street 71 = .ok (.goto 4, 3) := by decide +kernel
theorem dX8_street_74 : decode cX8_street 74 = .ok (.iload_n 2, 1) := by decide +kernel
theorem dX8_street_75 : decode cX8_street 75 = .ok (.istore_n 2, 1) := by decide +kernel
theorem dX8_street_76 : decode cX8_street 76 = .ok (.aload_n 0, 1) := by decide +kernel
theorem dX8_street_77 : decode cX8_street 77 = .ok (.iconst 0, 1) := by decide +kernel
theorem dX8_street_78 : decode cX8_street 78 = .ok (.putfield 113, 3) := by decide +kernel
theorem dX8_street_81 : decode cX8_street 81 = .ok (.iload_n 2, 1) := by decide +kernel
theorem dX8_street_82 : decode cX8_street 82 = .ok (.ifCond .le 8, 3) := by decide +kernel
theorem dX8_street_85 : decode cX8_street 85 = .ok (.bipush (-10), 2) := by decide +kernel
theorem dX8_street_87 : decode cX8_street 87 = .ok (.iload_n 2, 1) := by decide +kernel
theorem dX8_street_88 : decode cX8_street 88 = .ok (.isub, 1) := by decide +kernel
theorem dX8_street_89 : decode cX8_street 89 = .ok (.ireturn, 1) := by decide +kernel
theorem dX8_street_90 : decode cX8_street 90 = .ok (.aload_n 0, 1) := by decide +kernel
theorem dX8_street_91 : decode cX8_street 91 = .ok (.getfield 7, 3) := by decide +kernel
theorem dX8_street_94 : decode cX8_street 94 = .ok (.iload_n 1, 1) := by decide +kernel
theorem dX8_street_95 : decode cX8_street 95 = .ok (.aload_n 0, 1) := by decide +kernel
theorem dX8_street_96 : decode cX8_street 96 = .ok (.getfield 177, 3) := by decide +kernel
theorem dX8_street_99 : decode cX8_street 99 = .ok (.iastore, 1) := by decide +kernel
theorem dX8_street_100 : decode cX8_street 100 = .ok (.iconst 0, 1) := by decide +kernel
theorem dX8_street_101 : decode cX8_street 101 = .ok (.istore_n 3, 1) := by decide +kernel
theorem dX8_street_102 : decode cX8_street 102 = .ok (.iload_n 3, 1) := by decide +kernel
theorem dX8_street_103 : decode cX8_street 103 = .ok (.aload_n 0, 1) := by decide +kernel
theorem dX8_street_104 : decode cX8_street 104 = .ok (.getfield 177, 3) := by decide +kernel
theorem dX8_street_107 : decode cX8_street 107 = .ok (.if_icmp .ge 43, 3) := by decide +kernel
theorem dX8_street_110 : decode cX8_street 110 = .ok (.aload_n 0, 1) := by decide +kernel
theorem dX8_street_111 : decode cX8_street 111 = .ok (.getfield 13, 3) := by decide +kernel
theorem dX8_street_114 : decode cX8_street 114 = .ok (.bipush 24, 2) := by decide +kernel
theorem dX8_street_116 : decode cX8_street 116 = .ok (.iload_n 1, 1) := by decide +kernel
theorem dX8_street_117 : decode cX8_street 117 = .ok (.imul, 1) := by decide +kernel
theorem dX8_street_118 : decode cX8_street 118 = .ok (.iload_n 3, 1) := by decide +kernel
theorem dX8_street_119 : decode cX8_street 119 = .ok (.iadd, 1) := by decide +kernel
theorem dX8_street_120 : decode cX8_street 120 = .ok (.aload_n 0, 1) := by decide +kernel
theorem dX8_street_121 : decode cX8_street 121 = .ok (.getfield 29, 3) := by decide +kernel
theorem dX8_street_124 : decode cX8_street 124 = .ok (.iload_n 3, 1) := by decide +kernel
theorem dX8_street_125 : decode cX8_street 125 = .ok (.iaload, 1) := by decide +kernel
theorem dX8_street_126 : decode cX8_street 126 = .ok (.iastore, 1) := by decide +kernel
theorem dX8_street_127 : decode cX8_street 127 = .ok (.aload_n 0, 1) := by decide +kernel
theorem dX8_street_128 : decode cX8_street 128 = .ok (.getfield 16, 3) := by decide +kernel
theorem dX8_street_131 : decode cX8_street 131 = .ok (.bipush 24, 2) := by decide +kernel
theorem dX8_street_133 : decode cX8_street 133 = .ok (.iload_n 1, 1) := by decide +kernel
theorem dX8_street_134 : decode cX8_street 134 = .ok (.imul, 1) := by decide +kernel
theorem dX8_street_135 : decode cX8_street 135 = .ok (.iload_n 3, 1) := by decide +kernel
theorem dX8_street_136 : decode cX8_street 136 = .ok (.iadd, 1) := by decide +kernel
theorem dX8_street_137 : decode cX8_street 137 = .ok (.aload_n 0, 1) := by decide +kernel
theorem dX8_street_138 : decode cX8_street 138 = .ok (.getfield 32, 3) := by decide +kernel
theorem dX8_street_141 : decode cX8_street 141 = .ok (.iload_n 3, 1) := by decide +kernel
theorem dX8_street_142 : decode cX8_street 142 = .ok (.iaload, 1) := by decide +kernel
theorem dX8_street_143 : decode cX8_street 143 = .ok (.iastore, 1) := by decide +kernel
theorem dX8_street_144 : decode cX8_street 144 = .ok (.iinc 3 1, 3) := by decide +kernel
theorem dX8_street_147 : decode cX8_street 147 = .ok (.goto (-45), 3) := by decide +kernel
theorem dX8_street_150 : decode cX8_street 150 = .ok (.iconst 0, 1) := by decide +kernel
theorem dX8_street_151 : decode cX8_street 151 = .ok (.istore_n 3, 1) := by decide +kernel
theorem dX8_street_152 : decode cX8_street 152 = .ok (.iload_n 3, 1) := by decide +kernel
theorem dX8_street_153 : decode cX8_street 153 = .ok (.bipush 9, 2) := by decide +kernel
theorem dX8_street_155 : decode cX8_street 155 = .ok (.if_icmp .ge 26, 3) := by decide +kernel
theorem dX8_street_158 : decode cX8_street 158 = .ok (.aload_n 0, 1) := by decide +kernel
theorem dX8_street_159 : decode cX8_street 159 = .ok (.getfield 19, 3) := by decide +kernel
theorem dX8_street_162 : decode cX8_street 162 = .ok (.bipush 9, 2) := by decide +kernel
theorem dX8_street_164 : decode cX8_street 164 = .ok (.iload_n 1, 1) := by decide +kernel
theorem dX8_street_165 : decode cX8_street 165 = .ok (.imul, 1) := by decide +kernel
theorem dX8_street_166 : decode cX8_street 166 = .ok (.iload_n 3, 1) := by decide +kernel
theorem dX8_street_167 : decode cX8_street 167 = .ok (.iadd, 1) := by decide +kernel
theorem dX8_street_168 : decode cX8_street 168 = .ok (.aload_n 0, 1) := by decide +kernel
theorem dX8_street_169 : decode cX8_street 169 = .ok (.getfield 35, 3) := by decide +kernel
theorem dX8_street_172 : decode cX8_street 172 = .ok (.iload_n 3, 1) := by decide +kernel
theorem dX8_street_173 : decode cX8_street 173 = .ok (.iaload, 1) := by decide +kernel
theorem dX8_street_174 : decode cX8_street 174 = .ok (.iastore, 1) := by decide +kernel
theorem dX8_street_175 : decode cX8_street 175 = .ok (.iinc 3 1, 3) := by decide +kernel
theorem dX8_street_178 : decode cX8_street 178 = .ok (.goto (-26), 3) := by decide +kernel
theorem dX8_street_181 : decode cX8_street 181 = .ok (.aload_n 0, 1) := by decide +kernel
theorem dX8_street_182 : decode cX8_street 182 = .ok (.getfield 177, 3) := by decide +kernel
theorem dX8_street_185 : decode cX8_street 185 = .ok (.ireturn, 1) := by decide +kernel
set_option maxHeartbeats 4000000 in
set_option maxRecDepth 100000 in
theorem m_street (l : Launch) (D : va_G) (k : Nat → ClassId) (st : Nat → Nat) (lo : Nat) (a : Nat → Nat) (tx : Nat) (t0 : Nat) (we : Nat) (rd : Nat) (ru : Nat) (rw : Nat) (ca : Nat) (fp : Int32) (wd : Int64) (nu : Int32) (na : Int32) (ts : Int32) (df : Int32) (db : Int32) (sd : Int32) (ftext : Nat → Int32) (freadFree : Nat → Int32) (freadPrice : Nat → Int32) (freadSingle : Nat → Int32) (dn : Nat → Nat) (ffrees : Nat → Int32) (fprices : Nat → Int32) (se : Nat → Nat) (tm : Nat → Nat) (gs : Nat → Int32) (pz : Int32) (htx : tx ≤ 240) (hdn : ∀ j, dn j ≤ 24) (hse : ∀ j, se j ≤ 2) (htm : ∀ j, tm j ≤ 3) : CWi l D k st lo yX8_street cX8_street 4 (some .int) ({ frames := 5, cells := 0, slots := 0, locals := 121 }) 0 0 [.ref (a 0), .int pz] [((a 0), .inr (8, (fX8 a (nI tx) fp (nI t0) wd (nI we) nu na (nI rd) ts (nI ru) (nI rw) (nI ca) df db sd))), (aI k (a 5) 240 ftext), (aI k (a 14) 24 freadFree), (aI k (a 15) 24 freadPrice), (aI k (a 16) 9 freadSingle), (aI k (a 1) 3 (nF dn)), (aI k (a 2) 72 ffrees), (aI k (a 3) 72 fprices), (aI k (a 4) 27 (sg se tm gs))] (fun (r : Int32) (u : Nat × Int64 × Nat × Int32 × Int32 × Int32 × Nat × Int32 × Nat × (Nat → Int32) × (Nat → Int32) × (Nat → Int32) × (Nat → Nat) × (Nat → Int32) × (Nat → Int32) × (Nat → Nat) × (Nat → Nat) × (Nat → Int32)) => match u with | (t0_, wd_, we_, fp_, nu_, na_, rd_, ts_, tx_, freadFree_, freadPrice_, freadSingle_, dn_, ffrees_, fprices_, se_, tm_, gs_) => tx_ ≤ tx ∧ (∀ j, dn_ j ≤ 24) ∧ (∀ j, se_ j ≤ 2) ∧ (∀ j, tm_ j ≤ 3)) (fun (u : Nat × Int64 × Nat × Int32 × Int32 × Int32 × Nat × Int32 × Nat × (Nat → Int32) × (Nat → Int32) × (Nat → Int32) × (Nat → Nat) × (Nat → Int32) × (Nat → Int32) × (Nat → Nat) × (Nat → Nat) × (Nat → Int32)) => match u with | (t0_, wd_, we_, fp_, nu_, na_, rd_, ts_, tx_, freadFree_, freadPrice_, freadSingle_, dn_, ffrees_, fprices_, se_, tm_, gs_) => [((a 0), .inr (8, (fX8 a (nI tx_) fp_ (nI t0_) wd_ (nI we_) nu_ na_ (nI rd_) ts_ (nI ru) (nI rw) (nI ca) df db sd))), (aI k (a 5) 240 ftext), (aI k (a 14) 24 freadFree_), (aI k (a 15) 24 freadPrice_), (aI k (a 16) 9 freadSingle_), (aI k (a 1) 3 (nF dn_)), (aI k (a 2) 72 ffrees_), (aI k (a 3) 72 fprices_), (aI k (a 4) 27 (sg se_ tm_ gs_))]) := by
  intro sz
  refine Met.ofW (cc := cX8_street) (maxL := 4) (ret := (some .int)) (by decide) rfl ?_
  intro p e s m args below meth c s₁ B hml hv
  obtain ⟨rfl, hsz, hlo, hP, hK, hDL, hZ⟩ := hv
  have hx := B.exec
  have hb := B.bytes
  have hr := B.returns
  have hts := WS_ts B.pre
  have hown : s.vm.findClass RX8 = some m.cls := findClass_of_methodNamed B.named
  have hlocks := B.notSynchronized
  subst hsz
  have hD := hDL.self (sz := s.heap.size)
  have hAlo := A_lo hDL hlo
  generalize hAe : va_A [((a 0), .inr (8, (fX8 a (nI tx) fp (nI t0) wd (nI we) nu na (nI rd) ts (nI ru) (nI rw) (nI ca) df db sd))), (aI k (a 5) 240 ftext), (aI k (a 14) 24 freadFree), (aI k (a 15) 24 freadPrice), (aI k (a 16) 9 freadSingle), (aI k (a 1) 3 (nF dn)), (aI k (a 2) 72 ffrees), (aI k (a 3) 72 fprices), (aI k (a 4) 27 (sg se tm gs))] s.heap.size = A at hD hAlo ⊢
  have hA : ∀ q : Nat, s.heap.size ≤ q → A q := fun q h => by rw [← hAe]; exact Or.inr h
  have hS : va_S A s.heap s.heap [] := va_S.rf
  have hl := lv_entry ([.ref (a 0), .int pz]) (n := 4) (Nat.le_of_ble_eq_true rfl)
  rw [lg_entry_eq]
  generalize (lg_sl ([.ref (a 0), .int pz]) ++ List.replicate (4 - (lg_sl ([.ref (a 0), .int pz])).length) Slot.unset).toArray = ls at hl ⊢
  have hl : lv_has ls 4 [(0, .ref (a 0)), (1, .int pz)] := hl
  refine lv_iload_n hx hb dX8_street_0 rfl (lv_at hl 1 rfl) ?_
  refine lv_i2l (v := pz.toInt64) hx hb dX8_street_1 rfl ?_
  refine lv_lconst (v := (0 : Int32).toInt64) hx hb dX8_street_2 (by decide) ?_
  refine lv_ldc2 hx hb hown (hts _ tw_1119) dX8_street_3 ?_
  refine lv_tl (y := ((2 : Int32).toInt64)) (by decide) ?_
  refine ro_i (D := D) (va_runS (As := [.long (pz.toInt64), .long ((0 : Int32).toInt64), .long ((2 : Int32).toInt64)]) (rest := []) ⟨hx, hb, hml, hown, hts⟩ ((k_in l D k st lo pz (0 : Int32) (2 : Int32)) s.heap.size) (va_cwS 3 hts (gS tw_1111 tw_1112 tw_87 tw_1113) rfl rfl rfl (by decide +kernel) ⟨Nat.le_of_ble_eq_true rfl, Nat.le_of_ble_eq_true rfl⟩) (pS hS hAlo hlo hP hK (va_Dlo hD hAlo) hZ [] (by decide) rfl) rfl rfl hl.1 rfl (lv_room (Nat.le_of_ble_eq_true rfl)) dX8_street_6 ⟨Nat.le_of_ble_eq_true rfl, Nat.le_of_ble_eq_true rfl⟩) hS hA hP (fun r_1 H locs hw_1 hP hS => ?_)
  try dsimp only at hw_1
  rcases hw_1 with ⟨rfl, hw_1⟩ | ⟨rfl, hw_1⟩
  · refine lv_if_ne (tgt := 16) hx hb dX8_street_9 (by decide) (fun _ => ?_) (fun h => absurd h (by decide))
    obtain ⟨sn, -, hsn, rfl⟩ := inB_ofc (a := 0) (b := 2) (by omega) (by omega) hw_1
    refine lv_aload_n hx hb dX8_street_16 rfl (lv_at hl 0 rfl) ?_
    refine lv_iconst (v := (-1)) hx hb dX8_street_17 (by decide) ?_
    refine va_put (D := D) (ci := 8) (v := .int (-1)) (ty := .int) (C := RX8) (T := TX8) (N := 44) hx hb hts inX8 tyX8 tyX8_ok nmX8 hown hK hP hD hS 0 rfl rfl 6 (by decide) (hts _ tw_979) (fun _ h9 => h9) rfl (by decide +kernel) rfl rfl (Nat.le_of_ble_eq_true rfl) dX8_street_18 (fun H locs hP hD hS => ?_)
    replace hP : va_P D classes [((a 0), .inr (8, (fX8 a (nI tx) (-1) (nI t0) wd (nI we) nu na (nI rd) ts (nI ru) (nI rw) (nI ca) df db sd))), (aI k (a 5) 240 ftext), (aI k (a 14) 24 freadFree), (aI k (a 15) 24 freadPrice), (aI k (a 16) 9 freadSingle), (aI k (a 1) 3 (nF dn)), (aI k (a 2) 72 ffrees), (aI k (a 3) 72 fprices), (aI k (a 4) 27 (sg se tm gs))] H := hP
    replace hD : va_D A [((a 0), .inr (8, (fX8 a (nI tx) (-1) (nI t0) wd (nI we) nu na (nI rd) ts (nI ru) (nI rw) (nI ca) df db sd))), (aI k (a 5) 240 ftext), (aI k (a 14) 24 freadFree), (aI k (a 15) 24 freadPrice), (aI k (a 16) 9 freadSingle), (aI k (a 1) 3 (nF dn)), (aI k (a 2) 72 ffrees), (aI k (a 3) 72 fprices), (aI k (a 4) 27 (sg se tm gs))] := hD
    refine lv_aload_n hx hb dX8_street_21 rfl (lv_at hl 0 rfl) ?_
    refine lv_iconst (v := 0) hx hb dX8_street_22 (by decide) ?_
    refine va_put (D := D) (ci := 8) (v := .int 0) (ty := .int) (C := RX8) (T := TX8) (N := 44) hx hb hts inX8 tyX8 tyX8_ok nmX8 hown hK hP hD hS 0 rfl rfl 7 (by decide) (hts _ tw_980) (fun _ h9 => h9) rfl (by decide +kernel) rfl rfl (Nat.le_of_ble_eq_true rfl) dX8_street_23 (fun H locs hP hD hS => ?_)
    replace hP : va_P D classes [((a 0), .inr (8, (fX8 a (nI tx) (-1) 0 wd (nI we) nu na (nI rd) ts (nI ru) (nI rw) (nI ca) df db sd))), (aI k (a 5) 240 ftext), (aI k (a 14) 24 freadFree), (aI k (a 15) 24 freadPrice), (aI k (a 16) 9 freadSingle), (aI k (a 1) 3 (nF dn)), (aI k (a 2) 72 ffrees), (aI k (a 3) 72 fprices), (aI k (a 4) 27 (sg se tm gs))] H := hP
    replace hD : va_D A [((a 0), .inr (8, (fX8 a (nI tx) (-1) 0 wd (nI we) nu na (nI rd) ts (nI ru) (nI rw) (nI ca) df db sd))), (aI k (a 5) 240 ftext), (aI k (a 14) 24 freadFree), (aI k (a 15) 24 freadPrice), (aI k (a 16) 9 freadSingle), (aI k (a 1) 3 (nF dn)), (aI k (a 2) 72 ffrees), (aI k (a 3) 72 fprices), (aI k (a 4) 27 (sg se tm gs))] := hD
    refine lv_aload_n hx hb dX8_street_26 rfl (lv_at hl 0 rfl) ?_
    refine rw_v (D := D) (wr := [(aI k (a 5) 240 ftext), (aI k (a 14) 24 freadFree), (aI k (a 15) 24 freadPrice), (aI k (a 1) 3 (nF dn)), (aI k (a 2) 72 ffrees), (aI k (a 3) 72 fprices), (aI k (a 4) 27 (sg se tm gs))]) (va_runV (As := []) (rest := []) ⟨hx, hb, hml, hown, hts⟩ ((m_bare l D k st lo a tx 0 we rd ru rw ca (-1) wd nu na ts df db sd freadSingle) H.size) (cwV 0 hts (gV tw_969 tw_971 tw_26 tw_87 tw_972) rfl rfl rfl (by decide +kernel) ⟨Nat.le_of_ble_eq_true rfl, Nat.le_of_ble_eq_true rfl⟩) (pV hS hAlo hlo hP hK (va_Dlo hD hAlo) hZ [0, 4] (by decide) rfl (ci := 8) (q := (RX8, TX8, 44)) (q0 := 0) rfl rfl) rfl rfl hl.1 rfl (lv_room (Nat.le_of_ble_eq_true rfl)) dX8_street_27 ⟨Nat.le_of_ble_eq_true rfl, Nat.le_of_ble_eq_true rfl⟩) hS hA hP hD [0, 4] [1, 2, 3, 5, 6, 7, 8] rfl rfl (by decide) (by decide) (fun u H locs hw_2 hP hD hS => ?_)
    obtain ⟨rd__2, ts__2, freadSingle__2⟩ := u
    replace hP : va_P D classes [(aI k (a 5) 240 ftext), (aI k (a 14) 24 freadFree), (aI k (a 15) 24 freadPrice), (aI k (a 1) 3 (nF dn)), (aI k (a 2) 72 ffrees), (aI k (a 3) 72 fprices), (aI k (a 4) 27 (sg se tm gs)), ((a 0), .inr (8, (fX8 a (nI tx) (-1) 0 wd (nI we) nu na (nI rd__2) ts__2 (nI ru) (nI rw) (nI ca) df db sd))), (aI k (a 16) 9 freadSingle__2)] H := hP
    replace hD : va_D A [(aI k (a 5) 240 ftext), (aI k (a 14) 24 freadFree), (aI k (a 15) 24 freadPrice), (aI k (a 1) 3 (nF dn)), (aI k (a 2) 72 ffrees), (aI k (a 3) 72 fprices), (aI k (a 4) 27 (sg se tm gs)), ((a 0), .inr (8, (fX8 a (nI tx) (-1) 0 wd (nI we) nu na (nI rd__2) ts__2 (nI ru) (nI rw) (nI ca) df db sd))), (aI k (a 16) 9 freadSingle__2)] := hD
    try dsimp only at hw_2
    refine lv_iconst (v := 0) hx hb dX8_street_30 (by decide) ?_
    refine lv_istore_n (lv' := [(2, .int 0), (0, .ref (a 0)), (1, .int (nI sn))]) hx hb dX8_street_31 rfl hl (by decide) rfl (fun ls hl => ?_)
    refine W_loop (σ := Nat × Nat × Int64 × Nat × Int32 × Int32 × Int32 × Nat × Int32 × (Nat → Int32) × (Nat → Int32) × (Nat → Int32)) (fun (n_ : Nat) (x_ : Nat × Nat × Int64 × Nat × Int32 × Int32 × Int32 × Nat × Int32 × (Nat → Int32) × (Nat → Int32) × (Nat → Int32)) (H : Heap) (locs : List Loc) (ls : Array Slot) => match x_ with | (fl_3, t_3, wd2_3, we2_3, fp2_3, nu2_3, na2_3, rd2_3, ts2_3, ra_3, rb_3, rs_3) => n_ = 2 * (tx - t_3) + (if fl_3 = 0 then 1 else 0) ∧ (t_3 ≤ tx ∧ fl_3 ≤ 4 ∧ rd2_3 ≤ 24 ∧ (fl_3 = 0 → rsOK rs_3)) ∧ va_P D classes [(aI k (a 5) 240 ftext), (aI k (a 14) 24 ra_3), (aI k (a 15) 24 rb_3), (aI k (a 1) 3 (nF dn)), (aI k (a 2) 72 ffrees), (aI k (a 3) 72 fprices), (aI k (a 4) 27 (sg se tm gs)), ((a 0), .inr (8, (fX8 a (nI tx) fp2_3 (nI t_3) wd2_3 (nI we2_3) nu2_3 na2_3 (nI rd2_3) ts2_3 (nI ru) (nI rw) (nI ca) df db sd))), (aI k (a 16) 9 rs_3)] H ∧ va_D A [(aI k (a 5) 240 ftext), (aI k (a 14) 24 ra_3), (aI k (a 15) 24 rb_3), (aI k (a 1) 3 (nF dn)), (aI k (a 2) 72 ffrees), (aI k (a 3) 72 fprices), (aI k (a 4) 27 (sg se tm gs)), ((a 0), .inr (8, (fX8 a (nI tx) fp2_3 (nI t_3) wd2_3 (nI we2_3) nu2_3 na2_3 (nI rd2_3) ts2_3 (nI ru) (nI rw) (nI ca) df db sd))), (aI k (a 16) 9 rs_3)] ∧ va_S A s.heap H locs ∧ lv_has ls 4 [(2, .int (nI fl_3)), (0, .ref (a 0)), (1, .int (nI sn))]) (fun n_3 x_3 H locs ls hI ih_3 => ?_) _ (0, 0, wd, we, (-1), nu, na, rd__2, ts__2, freadFree, freadPrice, freadSingle__2) ⟨rfl, ⟨by omega, by omega, by omega, fun _ => hw_2.2⟩, hP, hD, hS, (lv_sub hl [0, 1, 2] rfl)⟩
    obtain ⟨fl_3, t_3, wd2_3, we2_3, fp2_3, nu2_3, na2_3, rd2_3, ts2_3, ra_3, rb_3, rs_3⟩ := x_3
    obtain ⟨hm_3, hv_3, hP, hD, hS, hl⟩ := hI
    subst hm_3
    refine lv_iload_n hx hb dX8_street_32 rfl (lv_at hl 0 rfl) ?_
    refine lv_if_ne (tgt := 51) hx hb dX8_street_33 (by decide) (fun c_4 => ?_) (fun c_4 => ?_)
    · have c_4 : ¬ (fl_3 = 0) := fun h => c_4 ((nI_eq (a := fl_3) (b := 0) (by omega) (by omega)).mpr h)
      refine lv_iload_n hx hb dX8_street_51 rfl (lv_at hl 0 rfl) ?_
      refine lv_if_ne (tgt := 74) hx hb dX8_street_52 (by decide) (fun _ => ?_) (fun h => absurd ((nI_eq (a := fl_3) (b := 0) (by omega) (by omega)).mp h) (by omega))
      refine lv_iload_n hx hb dX8_street_74 rfl (lv_at hl 0 rfl) ?_
      refine lv_istore_n (lv' := [(2, .int (nI fl_3)), (0, .ref (a 0)), (1, .int (nI sn))]) hx hb dX8_street_75 rfl hl (by decide) rfl (fun ls hl => ?_)
      refine lv_aload_n hx hb dX8_street_76 rfl (lv_at hl 1 rfl) ?_
      refine lv_iconst (v := 0) hx hb dX8_street_77 (by decide) ?_
      refine va_put (D := D) (ci := 8) (v := .int 0) (ty := .int) (C := RX8) (T := TX8) (N := 44) hx hb hts inX8 tyX8 tyX8_ok nmX8 hown hK hP hD hS 7 rfl rfl 5 (by decide) (hts _ tw_978) (fun _ h9 => h9) rfl (by decide +kernel) rfl rfl (Nat.le_of_ble_eq_true rfl) dX8_street_78 (fun H locs hP hD hS => ?_)
      replace hP : va_P D classes [(aI k (a 5) 240 ftext), (aI k (a 14) 24 ra_3), (aI k (a 15) 24 rb_3), (aI k (a 1) 3 (nF dn)), (aI k (a 2) 72 ffrees), (aI k (a 3) 72 fprices), (aI k (a 4) 27 (sg se tm gs)), ((a 0), .inr (8, (fX8 a 0 fp2_3 (nI t_3) wd2_3 (nI we2_3) nu2_3 na2_3 (nI rd2_3) ts2_3 (nI ru) (nI rw) (nI ca) df db sd))), (aI k (a 16) 9 rs_3)] H := hP
      replace hD : va_D A [(aI k (a 5) 240 ftext), (aI k (a 14) 24 ra_3), (aI k (a 15) 24 rb_3), (aI k (a 1) 3 (nF dn)), (aI k (a 2) 72 ffrees), (aI k (a 3) 72 fprices), (aI k (a 4) 27 (sg se tm gs)), ((a 0), .inr (8, (fX8 a 0 fp2_3 (nI t_3) wd2_3 (nI we2_3) nu2_3 na2_3 (nI rd2_3) ts2_3 (nI ru) (nI rw) (nI ca) df db sd))), (aI k (a 16) 9 rs_3)] := hD
      refine lv_iload_n hx hb dX8_street_81 rfl (lv_at hl 0 rfl) ?_
      refine lv_if_le (tgt := 90) hx hb dX8_street_82 (by decide) (fun h => absurd ((nI_leI (a := fl_3) (b := 0) (by omega) (by omega)).mp h) (by omega)) (fun _ => ?_)
      refine lv_bipush (v := (-10)) hx hb dX8_street_85 (by decide) ?_
      refine lv_iload_n hx hb dX8_street_87 rfl (lv_at hl 0 rfl) ?_
      refine lv_isub hx hb dX8_street_88 ?_
      refine lv_topi (fun x_7 ex_7 => ?_)
      have hP9 := hP.sub (ws' := [((a 0), .inr (8, (fX8 a 0 fp2_3 (nI t_3) wd2_3 (nI we2_3) nu2_3 na2_3 (nI rd2_3) ts2_3 (nI ru) (nI rw) (nI ca) df db sd))), (aI k (a 5) 240 ftext), (aI k (a 14) 24 ra_3), (aI k (a 15) 24 rb_3), (aI k (a 16) 9 rs_3), (aI k (a 1) 3 (nF dn)), (aI k (a 2) 72 ffrees), (aI k (a 3) 72 fprices), (aI k (a 4) 27 (sg se tm gs))]) [7, 0, 1, 2, 8, 3, 4, 5, 6] rfl
      have hD9 := hD.sub (ws' := [((a 0), .inr (8, (fX8 a 0 fp2_3 (nI t_3) wd2_3 (nI we2_3) nu2_3 na2_3 (nI rd2_3) ts2_3 (nI ru) (nI rw) (nI ca) df db sd))), (aI k (a 5) 240 ftext), (aI k (a 14) 24 ra_3), (aI k (a 15) 24 rb_3), (aI k (a 16) 9 rs_3), (aI k (a 1) 3 (nF dn)), (aI k (a 2) 72 ffrees), (aI k (a 3) 72 fprices), (aI k (a 4) 27 (sg se tm gs))]) [7, 0, 1, 2, 8, 3, 4, 5, 6] (by decide) rfl
      exact W.iret (v := x_7) hx hb hr (fun t ht hW => ⟨⟨x_7, (t_3, wd2_3, we2_3, fp2_3, nu2_3, na2_3, rd2_3, ts2_3, 0, ra_3, rb_3, rs_3, dn, ffrees, fprices, se, tm, gs), rfl, ⟨by omega, hdn, hse, htm⟩, by rw [ht]; exact hP9, hD9⟩, hS.F ht⟩) hS.2.2 dX8_street_89
    · have c_4 := (nI_eq (a := fl_3) (b := 0) (by omega) (by omega)).mp c_4
      refine lv_aload_n hx hb dX8_street_36 rfl (lv_at hl 1 rfl) ?_
      refine rw_i (D := D) (wr := [(aI k (a 14) 24 ra_3), (aI k (a 15) 24 rb_3), (aI k (a 1) 3 (nF dn)), (aI k (a 2) 72 ffrees), (aI k (a 3) 72 fprices), (aI k (a 4) 27 (sg se tm gs)), (aI k (a 16) 9 rs_3)]) (va_runV (As := []) (rest := []) ⟨hx, hb, hml, hown, hts⟩ ((m_here l D k st lo a tx t_3 we2_3 rd2_3 ru rw ca fp2_3 wd2_3 nu2_3 na2_3 ts2_3 df db sd ftext (by omega) (by omega)) H.size) (cwV 0 hts (gV tw_1120 tw_1122 tw_27 tw_87 tw_1123) rfl rfl rfl (by decide +kernel) ⟨Nat.le_of_ble_eq_true rfl, Nat.le_of_ble_eq_true rfl⟩) (pV hS hAlo hlo hP hK (va_Dlo hD hAlo) hZ [7, 0] (by decide) rfl (ci := 8) (q := (RX8, TX8, 44)) (q0 := 0) rfl rfl) rfl rfl hl.1 rfl (lv_room (Nat.le_of_ble_eq_true rfl)) dX8_street_37 ⟨Nat.le_of_ble_eq_true rfl, Nat.le_of_ble_eq_true rfl⟩) hS hA hP hD [7, 0] [1, 2, 3, 4, 5, 6, 8] rfl rfl (by decide) (by decide) (fun r_8 u H locs hw_8 hP hD hS => ?_)
      obtain ⟨t0__8, rfl⟩ : ∃ z, z = u := ⟨_, rfl⟩
      replace hP : va_P D classes [(aI k (a 14) 24 ra_3), (aI k (a 15) 24 rb_3), (aI k (a 1) 3 (nF dn)), (aI k (a 2) 72 ffrees), (aI k (a 3) 72 fprices), (aI k (a 4) 27 (sg se tm gs)), (aI k (a 16) 9 rs_3), ((a 0), .inr (8, (fX8 a (nI tx) fp2_3 (nI t0__8) wd2_3 (nI we2_3) nu2_3 na2_3 (nI rd2_3) ts2_3 (nI ru) (nI rw) (nI ca) df db sd))), (aI k (a 5) 240 ftext)] H := hP
      replace hD : va_D A [(aI k (a 14) 24 ra_3), (aI k (a 15) 24 rb_3), (aI k (a 1) 3 (nF dn)), (aI k (a 2) 72 ffrees), (aI k (a 3) 72 fprices), (aI k (a 4) 27 (sg se tm gs)), (aI k (a 16) 9 rs_3), ((a 0), .inr (8, (fX8 a (nI tx) fp2_3 (nI t0__8) wd2_3 (nI we2_3) nu2_3 na2_3 (nI rd2_3) ts2_3 (nI ru) (nI rw) (nI ca) df db sd))), (aI k (a 5) 240 ftext)] := hD
      try dsimp only at hw_8
      refine lv_if_lt (tgt := 51) hx hb dX8_street_40 (by decide) (fun c_9 => ?_) (fun c_9 => ?_)
      · refine lv_iload_n hx hb dX8_street_51 rfl (lv_at hl 0 rfl) ?_
        refine lv_if_ne (tgt := 74) hx hb dX8_street_52 (by decide) (fun h => absurd ((nI_eq (a := fl_3) (b := 0) (by omega) (by omega)).mpr (by omega)) h) (fun _ => ?_)
        refine lv_aload_n hx hb dX8_street_55 rfl (lv_at hl 1 rfl) ?_
        refine va_get (D := D) (ci := 8) (v := .int (nI rd2_3)) (C := RX8) (T := TX8) (N := 44) hx hb hts inX8 hown hK hP 7 rfl rfl 12 (by decide) (hts _ tw_985) (fun _ h9 => h9) rfl dX8_street_56 ?_
        refine lv_if_ne (tgt := 74) hx hb dX8_street_59 (by decide) (fun c_11 => ?_) (fun c_11 => ?_)
        · have c_11 : ¬ (rd2_3 = 0) := fun h => c_11 ((nI_eq (a := rd2_3) (b := 0) (by omega) (by omega)).mpr h)
          refine lv_iload_n hx hb dX8_street_74 rfl (lv_at hl 0 rfl) ?_
          refine lv_istore_n (lv' := [(2, .int (nI fl_3)), (0, .ref (a 0)), (1, .int (nI sn))]) hx hb dX8_street_75 rfl hl (by decide) rfl (fun ls hl => ?_)
          refine lv_aload_n hx hb dX8_street_76 rfl (lv_at hl 1 rfl) ?_
          refine lv_iconst (v := 0) hx hb dX8_street_77 (by decide) ?_
          refine va_put (D := D) (ci := 8) (v := .int 0) (ty := .int) (C := RX8) (T := TX8) (N := 44) hx hb hts inX8 tyX8 tyX8_ok nmX8 hown hK hP hD hS 7 rfl rfl 5 (by decide) (hts _ tw_978) (fun _ h9 => h9) rfl (by decide +kernel) rfl rfl (Nat.le_of_ble_eq_true rfl) dX8_street_78 (fun H locs hP hD hS => ?_)
          replace hP : va_P D classes [(aI k (a 14) 24 ra_3), (aI k (a 15) 24 rb_3), (aI k (a 1) 3 (nF dn)), (aI k (a 2) 72 ffrees), (aI k (a 3) 72 fprices), (aI k (a 4) 27 (sg se tm gs)), (aI k (a 16) 9 rs_3), ((a 0), .inr (8, (fX8 a 0 fp2_3 (nI t0__8) wd2_3 (nI we2_3) nu2_3 na2_3 (nI rd2_3) ts2_3 (nI ru) (nI rw) (nI ca) df db sd))), (aI k (a 5) 240 ftext)] H := hP
          replace hD : va_D A [(aI k (a 14) 24 ra_3), (aI k (a 15) 24 rb_3), (aI k (a 1) 3 (nF dn)), (aI k (a 2) 72 ffrees), (aI k (a 3) 72 fprices), (aI k (a 4) 27 (sg se tm gs)), (aI k (a 16) 9 rs_3), ((a 0), .inr (8, (fX8 a 0 fp2_3 (nI t0__8) wd2_3 (nI we2_3) nu2_3 na2_3 (nI rd2_3) ts2_3 (nI ru) (nI rw) (nI ca) df db sd))), (aI k (a 5) 240 ftext)] := hD
          refine lv_iload_n hx hb dX8_street_81 rfl (lv_at hl 0 rfl) ?_
          refine lv_if_le (tgt := 90) hx hb dX8_street_82 (by decide) (fun _ => ?_) (fun h => absurd ((nI_leI (a := fl_3) (b := 0) (by omega) (by omega)).mpr (by omega)) h)
          obtain ⟨⟨ra_9, hra_9, era_9⟩, rb_9, hrb_9, erb_9⟩ := hv_3.2.2.2 (by omega)
          refine lv_aload_n hx hb dX8_street_90 rfl (lv_at hl 1 rfl) ?_
          refine va_get (D := D) (ci := 8) (v := .ref (a 1)) (C := RX8) (T := TX8) (N := 44) hx hb hts inX8 hown hK hP 7 rfl rfl 0 (by decide) (hts _ tw_973) (fun _ h9 => h9) rfl dX8_street_91 ?_
          refine lv_iload_n hx hb dX8_street_94 rfl (lv_at hl 2 rfl) ?_
          refine lv_aload_n hx hb dX8_street_95 rfl (lv_at hl 1 rfl) ?_
          refine va_get (D := D) (ci := 8) (v := .int (nI rd2_3)) (C := RX8) (T := TX8) (N := 44) hx hb hts inX8 hown hK hP 7 rfl rfl 12 (by decide) (hts _ tw_985) (fun _ h9 => h9) rfl dX8_street_96 ?_
          refine va_iast hx hb hK hP hD hS 2 1 rfl rfl (vp_in_nI (by omega) (by decide)) dX8_street_99 (fun H locs hP hD hS => ?_)
          replace hP : va_P D classes [(aI k (a 14) 24 ra_3), (aI k (a 15) 24 rb_3), (aI k (a 1) 3 (upd (nF dn) (Int32.toNatClampNeg (nI sn)) (nI rd2_3))), (aI k (a 2) 72 ffrees), (aI k (a 3) 72 fprices), (aI k (a 4) 27 (sg se tm gs)), (aI k (a 16) 9 rs_3), ((a 0), .inr (8, (fX8 a 0 fp2_3 (nI t0__8) wd2_3 (nI we2_3) nu2_3 na2_3 (nI rd2_3) ts2_3 (nI ru) (nI rw) (nI ca) df db sd))), (aI k (a 5) 240 ftext)] H := hP
          replace hD : va_D A [(aI k (a 14) 24 ra_3), (aI k (a 15) 24 rb_3), (aI k (a 1) 3 (upd (nF dn) (Int32.toNatClampNeg (nI sn)) (nI rd2_3))), (aI k (a 2) 72 ffrees), (aI k (a 3) 72 fprices), (aI k (a 4) 27 (sg se tm gs)), (aI k (a 16) 9 rs_3), ((a 0), .inr (8, (fX8 a 0 fp2_3 (nI t0__8) wd2_3 (nI we2_3) nu2_3 na2_3 (nI rd2_3) ts2_3 (nI ru) (nI rw) (nI ca) df db sd))), (aI k (a 5) 240 ftext)] := hD
          rw [nI_clamp (n := sn) (by omega)] at hP hD
          rw [show upd (nF dn) sn (nI rd2_3) = nF (fun j => if j = sn then rd2_3 else dn j) from nF_upd _ _ _] at hP hD
          obtain ⟨d_13, hd_13⟩ : ∃ z : Nat → Nat, z = (fun j => if j = sn then rd2_3 else dn j) := ⟨_, rfl⟩
          rw [← hd_13] at hP hD
          refine lv_iconst (v := 0) hx hb dX8_street_100 (by decide) ?_
          refine lv_istore_n (lv' := [(3, .int 0), (2, .int (nI fl_3)), (0, .ref (a 0)), (1, .int (nI sn))]) hx hb dX8_street_101 rfl hl (by decide) rfl (fun ls hl => ?_)
          refine W_loop (σ := Nat × (Nat → Int32) × (Nat → Int32)) (fun (n_ : Nat) (x_ : Nat × (Nat → Int32) × (Nat → Int32)) (H : Heap) (locs : List Loc) (ls : Array Slot) => match x_ with | (ic_14, fr2_14, pr2_14) => n_ = rd2_3 - ic_14 ∧ (ic_14 ≤ rd2_3) ∧ va_P D classes [(aI k (a 14) 24 ra_3), (aI k (a 15) 24 rb_3), (aI k (a 1) 3 (nF d_13)), (aI k (a 2) 72 fr2_14), (aI k (a 3) 72 pr2_14), (aI k (a 4) 27 (sg se tm gs)), (aI k (a 16) 9 rs_3), ((a 0), .inr (8, (fX8 a 0 fp2_3 (nI t0__8) wd2_3 (nI we2_3) nu2_3 na2_3 (nI rd2_3) ts2_3 (nI ru) (nI rw) (nI ca) df db sd))), (aI k (a 5) 240 ftext)] H ∧ va_D A [(aI k (a 14) 24 ra_3), (aI k (a 15) 24 rb_3), (aI k (a 1) 3 (nF d_13)), (aI k (a 2) 72 fr2_14), (aI k (a 3) 72 pr2_14), (aI k (a 4) 27 (sg se tm gs)), (aI k (a 16) 9 rs_3), ((a 0), .inr (8, (fX8 a 0 fp2_3 (nI t0__8) wd2_3 (nI we2_3) nu2_3 na2_3 (nI rd2_3) ts2_3 (nI ru) (nI rw) (nI ca) df db sd))), (aI k (a 5) 240 ftext)] ∧ va_S A s.heap H locs ∧ lv_has ls 4 [(3, .int (nI ic_14)), (2, .int (nI fl_3)), (0, .ref (a 0)), (1, .int (nI sn))]) (fun n_14 x_14 H locs ls hI ih_14 => ?_) _ (0, ffrees, fprices) ⟨rfl, (by omega), hP, hD, hS, (lv_sub hl [0, 1, 2, 3] rfl)⟩
          obtain ⟨ic_14, fr2_14, pr2_14⟩ := x_14
          obtain ⟨hm_14, hv_14, hP, hD, hS, hl⟩ := hI
          subst hm_14
          refine lv_iload_n hx hb dX8_street_102 rfl (lv_at hl 0 rfl) ?_
          refine lv_aload_n hx hb dX8_street_103 rfl (lv_at hl 2 rfl) ?_
          refine va_get (D := D) (ci := 8) (v := .int (nI rd2_3)) (C := RX8) (T := TX8) (N := 44) hx hb hts inX8 hown hK hP 7 rfl rfl 12 (by decide) (hts _ tw_985) (fun _ h9 => h9) rfl dX8_street_104 ?_
          refine lv_icmp_ge (tgt := 150) hx hb dX8_street_107 (by decide) (fun c_15 => ?_) (fun c_15 => ?_)
          · have c_15 := (nI_leI (a := rd2_3) (b := ic_14) (by omega) (by omega)).mp c_15
            refine lv_iconst (v := 0) hx hb dX8_street_150 (by decide) ?_
            refine lv_istore_n (lv' := [(3, .int 0), (2, .int (nI fl_3)), (0, .ref (a 0)), (1, .int (nI sn))]) hx hb dX8_street_151 rfl hl (by decide) rfl (fun ls hl => ?_)
            refine lv_iload_n hx hb dX8_street_152 rfl (lv_at hl 0 rfl) ?_
            refine lv_bipush (v := 9) hx hb dX8_street_153 (by decide) ?_
            refine lv_icmp_ge (tgt := 181) hx hb dX8_street_155 (by decide) (fun h => absurd h (by decide)) (fun _ => ?_)
            refine lv_aload_n hx hb dX8_street_158 rfl (lv_at hl 2 rfl) ?_
            refine va_get (D := D) (ci := 8) (v := .ref (a 4)) (C := RX8) (T := TX8) (N := 44) hx hb hts inX8 hown hK hP 7 rfl rfl 3 (by decide) (hts _ tw_976) (fun _ h9 => h9) rfl dX8_street_159 ?_
            refine lv_bipush (v := 9) hx hb dX8_street_162 (by decide) ?_
            refine lv_iload_n hx hb dX8_street_164 rfl (lv_at hl 3 rfl) ?_
            refine lv_imul hx hb dX8_street_165 ?_
            refine lv_ti (y := (nI (9 * sn))) (pk_mul 9 sn) ?_
            refine lv_iload_n hx hb dX8_street_166 rfl (lv_at hl 0 rfl) ?_
            refine lv_iadd hx hb dX8_street_167 ?_
            refine lv_ti (y := (nI (9 * sn + 0))) (nI_add (9 * sn) 0) ?_
            refine lv_aload_n hx hb dX8_street_168 rfl (lv_at hl 2 rfl) ?_
            refine va_get (D := D) (ci := 8) (v := .ref (a 16)) (C := RX8) (T := TX8) (N := 44) hx hb hts inX8 hown hK hP 7 rfl rfl 15 (by decide) (hts _ tw_988) (fun _ h9 => h9) rfl dX8_street_169 ?_
            refine lv_iload_n hx hb dX8_street_172 rfl (lv_at hl 0 rfl) ?_
            refine va_iald hx hb hK hP 6 1 rfl rfl (by unfold vp_in; decide) dX8_street_173 ?_
            refine lv_ti (y := (rs_3 0)) (by rfl) ?_
            refine va_iast hx hb hK hP hD hS 5 1 rfl rfl (vp_in_nI (by omega) (by decide)) dX8_street_174 (fun H locs hP hD hS => ?_)
            replace hP : va_P D classes [(aI k (a 14) 24 ra_3), (aI k (a 15) 24 rb_3), (aI k (a 1) 3 (nF d_13)), (aI k (a 2) 72 fr2_14), (aI k (a 3) 72 pr2_14), (aI k (a 4) 27 (upd (sg se tm gs) (Int32.toNatClampNeg (nI (9 * sn + 0))) (rs_3 0))), (aI k (a 16) 9 rs_3), ((a 0), .inr (8, (fX8 a 0 fp2_3 (nI t0__8) wd2_3 (nI we2_3) nu2_3 na2_3 (nI rd2_3) ts2_3 (nI ru) (nI rw) (nI ca) df db sd))), (aI k (a 5) 240 ftext)] H := hP
            replace hD : va_D A [(aI k (a 14) 24 ra_3), (aI k (a 15) 24 rb_3), (aI k (a 1) 3 (nF d_13)), (aI k (a 2) 72 fr2_14), (aI k (a 3) 72 pr2_14), (aI k (a 4) 27 (upd (sg se tm gs) (Int32.toNatClampNeg (nI (9 * sn + 0))) (rs_3 0))), (aI k (a 16) 9 rs_3), ((a 0), .inr (8, (fX8 a 0 fp2_3 (nI t0__8) wd2_3 (nI we2_3) nu2_3 na2_3 (nI rd2_3) ts2_3 (nI ru) (nI rw) (nI ca) df db sd))), (aI k (a 5) 240 ftext)] := hD
            rw [nI_clamp (n := (9 * sn + 0)) (by omega)] at hP hD
            rw [sg_upd se tm gs (9 * sn + 0) _ (by omega) (by omega)] at hP hD
            generalize upd gs (9 * sn + 0) (rs_3 0) = gs_17 at hP hD
            replace hP : va_P D classes [(aI k (a 14) 24 ra_3), (aI k (a 15) 24 rb_3), (aI k (a 1) 3 (nF d_13)), (aI k (a 2) 72 fr2_14), (aI k (a 3) 72 pr2_14), (aI k (a 4) 27 (sg se tm gs_17)), (aI k (a 16) 9 rs_3), ((a 0), .inr (8, (fX8 a 0 fp2_3 (nI t0__8) wd2_3 (nI we2_3) nu2_3 na2_3 (nI rd2_3) ts2_3 (nI ru) (nI rw) (nI ca) df db sd))), (aI k (a 5) 240 ftext)] H := hP
            replace hD : va_D A [(aI k (a 14) 24 ra_3), (aI k (a 15) 24 rb_3), (aI k (a 1) 3 (nF d_13)), (aI k (a 2) 72 fr2_14), (aI k (a 3) 72 pr2_14), (aI k (a 4) 27 (sg se tm gs_17)), (aI k (a 16) 9 rs_3), ((a 0), .inr (8, (fX8 a 0 fp2_3 (nI t0__8) wd2_3 (nI we2_3) nu2_3 na2_3 (nI rd2_3) ts2_3 (nI ru) (nI rw) (nI ca) df db sd))), (aI k (a 5) 240 ftext)] := hD
            refine lv_iinc (v := 1) (lv' := [(3, .int 1), (2, .int (nI fl_3)), (0, .ref (a 0)), (1, .int (nI sn))]) hx hb dX8_street_175 hl (k := 0) rfl (by decide) (by decide) rfl (fun ls hl => ?_)
            refine lv_goto (tgt := 152) hx hb dX8_street_178 (by decide) ?_
            refine lv_iload_n hx hb dX8_street_152 rfl (lv_at hl 0 rfl) ?_
            refine lv_bipush (v := 9) hx hb dX8_street_153 (by decide) ?_
            refine lv_icmp_ge (tgt := 181) hx hb dX8_street_155 (by decide) (fun h => absurd h (by decide)) (fun _ => ?_)
            refine lv_aload_n hx hb dX8_street_158 rfl (lv_at hl 2 rfl) ?_
            refine va_get (D := D) (ci := 8) (v := .ref (a 4)) (C := RX8) (T := TX8) (N := 44) hx hb hts inX8 hown hK hP 7 rfl rfl 3 (by decide) (hts _ tw_976) (fun _ h9 => h9) rfl dX8_street_159 ?_
            refine lv_bipush (v := 9) hx hb dX8_street_162 (by decide) ?_
            refine lv_iload_n hx hb dX8_street_164 rfl (lv_at hl 3 rfl) ?_
            refine lv_imul hx hb dX8_street_165 ?_
            refine lv_ti (y := (nI (9 * sn))) (pk_mul 9 sn) ?_
            refine lv_iload_n hx hb dX8_street_166 rfl (lv_at hl 0 rfl) ?_
            refine lv_iadd hx hb dX8_street_167 ?_
            refine lv_ti (y := (nI (9 * sn + 1))) (nI_add (9 * sn) 1) ?_
            refine lv_aload_n hx hb dX8_street_168 rfl (lv_at hl 2 rfl) ?_
            refine va_get (D := D) (ci := 8) (v := .ref (a 16)) (C := RX8) (T := TX8) (N := 44) hx hb hts inX8 hown hK hP 7 rfl rfl 15 (by decide) (hts _ tw_988) (fun _ h9 => h9) rfl dX8_street_169 ?_
            refine lv_iload_n hx hb dX8_street_172 rfl (lv_at hl 0 rfl) ?_
            refine va_iald hx hb hK hP 6 1 rfl rfl (by unfold vp_in; decide) dX8_street_173 ?_
            refine lv_ti (y := (rs_3 1)) (by rfl) ?_
            refine va_iast hx hb hK hP hD hS 5 1 rfl rfl (vp_in_nI (by omega) (by decide)) dX8_street_174 (fun H locs hP hD hS => ?_)
            replace hP : va_P D classes [(aI k (a 14) 24 ra_3), (aI k (a 15) 24 rb_3), (aI k (a 1) 3 (nF d_13)), (aI k (a 2) 72 fr2_14), (aI k (a 3) 72 pr2_14), (aI k (a 4) 27 (upd (sg se tm gs_17) (Int32.toNatClampNeg (nI (9 * sn + 1))) (rs_3 1))), (aI k (a 16) 9 rs_3), ((a 0), .inr (8, (fX8 a 0 fp2_3 (nI t0__8) wd2_3 (nI we2_3) nu2_3 na2_3 (nI rd2_3) ts2_3 (nI ru) (nI rw) (nI ca) df db sd))), (aI k (a 5) 240 ftext)] H := hP
            replace hD : va_D A [(aI k (a 14) 24 ra_3), (aI k (a 15) 24 rb_3), (aI k (a 1) 3 (nF d_13)), (aI k (a 2) 72 fr2_14), (aI k (a 3) 72 pr2_14), (aI k (a 4) 27 (upd (sg se tm gs_17) (Int32.toNatClampNeg (nI (9 * sn + 1))) (rs_3 1))), (aI k (a 16) 9 rs_3), ((a 0), .inr (8, (fX8 a 0 fp2_3 (nI t0__8) wd2_3 (nI we2_3) nu2_3 na2_3 (nI rd2_3) ts2_3 (nI ru) (nI rw) (nI ca) df db sd))), (aI k (a 5) 240 ftext)] := hD
            rw [nI_clamp (n := (9 * sn + 1)) (by omega)] at hP hD
            rw [sg_upd se tm gs_17 (9 * sn + 1) _ (by omega) (by omega)] at hP hD
            generalize upd gs_17 (9 * sn + 1) (rs_3 1) = gs_19 at hP hD
            replace hP : va_P D classes [(aI k (a 14) 24 ra_3), (aI k (a 15) 24 rb_3), (aI k (a 1) 3 (nF d_13)), (aI k (a 2) 72 fr2_14), (aI k (a 3) 72 pr2_14), (aI k (a 4) 27 (sg se tm gs_19)), (aI k (a 16) 9 rs_3), ((a 0), .inr (8, (fX8 a 0 fp2_3 (nI t0__8) wd2_3 (nI we2_3) nu2_3 na2_3 (nI rd2_3) ts2_3 (nI ru) (nI rw) (nI ca) df db sd))), (aI k (a 5) 240 ftext)] H := hP
            replace hD : va_D A [(aI k (a 14) 24 ra_3), (aI k (a 15) 24 rb_3), (aI k (a 1) 3 (nF d_13)), (aI k (a 2) 72 fr2_14), (aI k (a 3) 72 pr2_14), (aI k (a 4) 27 (sg se tm gs_19)), (aI k (a 16) 9 rs_3), ((a 0), .inr (8, (fX8 a 0 fp2_3 (nI t0__8) wd2_3 (nI we2_3) nu2_3 na2_3 (nI rd2_3) ts2_3 (nI ru) (nI rw) (nI ca) df db sd))), (aI k (a 5) 240 ftext)] := hD
            refine lv_iinc (v := 2) (lv' := [(3, .int 2), (2, .int (nI fl_3)), (0, .ref (a 0)), (1, .int (nI sn))]) hx hb dX8_street_175 hl (k := 0) rfl (by decide) (by decide) rfl (fun ls hl => ?_)
            refine lv_goto (tgt := 152) hx hb dX8_street_178 (by decide) ?_
            refine lv_iload_n hx hb dX8_street_152 rfl (lv_at hl 0 rfl) ?_
            refine lv_bipush (v := 9) hx hb dX8_street_153 (by decide) ?_
            refine lv_icmp_ge (tgt := 181) hx hb dX8_street_155 (by decide) (fun h => absurd h (by decide)) (fun _ => ?_)
            refine lv_aload_n hx hb dX8_street_158 rfl (lv_at hl 2 rfl) ?_
            refine va_get (D := D) (ci := 8) (v := .ref (a 4)) (C := RX8) (T := TX8) (N := 44) hx hb hts inX8 hown hK hP 7 rfl rfl 3 (by decide) (hts _ tw_976) (fun _ h9 => h9) rfl dX8_street_159 ?_
            refine lv_bipush (v := 9) hx hb dX8_street_162 (by decide) ?_
            refine lv_iload_n hx hb dX8_street_164 rfl (lv_at hl 3 rfl) ?_
            refine lv_imul hx hb dX8_street_165 ?_
            refine lv_ti (y := (nI (9 * sn))) (pk_mul 9 sn) ?_
            refine lv_iload_n hx hb dX8_street_166 rfl (lv_at hl 0 rfl) ?_
            refine lv_iadd hx hb dX8_street_167 ?_
            refine lv_ti (y := (nI (9 * sn + 2))) (nI_add (9 * sn) 2) ?_
            refine lv_aload_n hx hb dX8_street_168 rfl (lv_at hl 2 rfl) ?_
            refine va_get (D := D) (ci := 8) (v := .ref (a 16)) (C := RX8) (T := TX8) (N := 44) hx hb hts inX8 hown hK hP 7 rfl rfl 15 (by decide) (hts _ tw_988) (fun _ h9 => h9) rfl dX8_street_169 ?_
            refine lv_iload_n hx hb dX8_street_172 rfl (lv_at hl 0 rfl) ?_
            refine va_iald hx hb hK hP 6 1 rfl rfl (by unfold vp_in; decide) dX8_street_173 ?_
            refine lv_ti (y := (rs_3 2)) (by rfl) ?_
            refine va_iast hx hb hK hP hD hS 5 1 rfl rfl (vp_in_nI (by omega) (by decide)) dX8_street_174 (fun H locs hP hD hS => ?_)
            replace hP : va_P D classes [(aI k (a 14) 24 ra_3), (aI k (a 15) 24 rb_3), (aI k (a 1) 3 (nF d_13)), (aI k (a 2) 72 fr2_14), (aI k (a 3) 72 pr2_14), (aI k (a 4) 27 (upd (sg se tm gs_19) (Int32.toNatClampNeg (nI (9 * sn + 2))) (rs_3 2))), (aI k (a 16) 9 rs_3), ((a 0), .inr (8, (fX8 a 0 fp2_3 (nI t0__8) wd2_3 (nI we2_3) nu2_3 na2_3 (nI rd2_3) ts2_3 (nI ru) (nI rw) (nI ca) df db sd))), (aI k (a 5) 240 ftext)] H := hP
            replace hD : va_D A [(aI k (a 14) 24 ra_3), (aI k (a 15) 24 rb_3), (aI k (a 1) 3 (nF d_13)), (aI k (a 2) 72 fr2_14), (aI k (a 3) 72 pr2_14), (aI k (a 4) 27 (upd (sg se tm gs_19) (Int32.toNatClampNeg (nI (9 * sn + 2))) (rs_3 2))), (aI k (a 16) 9 rs_3), ((a 0), .inr (8, (fX8 a 0 fp2_3 (nI t0__8) wd2_3 (nI we2_3) nu2_3 na2_3 (nI rd2_3) ts2_3 (nI ru) (nI rw) (nI ca) df db sd))), (aI k (a 5) 240 ftext)] := hD
            rw [nI_clamp (n := (9 * sn + 2)) (by omega)] at hP hD
            rw [sg_upd se tm gs_19 (9 * sn + 2) _ (by omega) (by omega)] at hP hD
            generalize upd gs_19 (9 * sn + 2) (rs_3 2) = gs_21 at hP hD
            replace hP : va_P D classes [(aI k (a 14) 24 ra_3), (aI k (a 15) 24 rb_3), (aI k (a 1) 3 (nF d_13)), (aI k (a 2) 72 fr2_14), (aI k (a 3) 72 pr2_14), (aI k (a 4) 27 (sg se tm gs_21)), (aI k (a 16) 9 rs_3), ((a 0), .inr (8, (fX8 a 0 fp2_3 (nI t0__8) wd2_3 (nI we2_3) nu2_3 na2_3 (nI rd2_3) ts2_3 (nI ru) (nI rw) (nI ca) df db sd))), (aI k (a 5) 240 ftext)] H := hP
            replace hD : va_D A [(aI k (a 14) 24 ra_3), (aI k (a 15) 24 rb_3), (aI k (a 1) 3 (nF d_13)), (aI k (a 2) 72 fr2_14), (aI k (a 3) 72 pr2_14), (aI k (a 4) 27 (sg se tm gs_21)), (aI k (a 16) 9 rs_3), ((a 0), .inr (8, (fX8 a 0 fp2_3 (nI t0__8) wd2_3 (nI we2_3) nu2_3 na2_3 (nI rd2_3) ts2_3 (nI ru) (nI rw) (nI ca) df db sd))), (aI k (a 5) 240 ftext)] := hD
            refine lv_iinc (v := 3) (lv' := [(3, .int 3), (2, .int (nI fl_3)), (0, .ref (a 0)), (1, .int (nI sn))]) hx hb dX8_street_175 hl (k := 0) rfl (by decide) (by decide) rfl (fun ls hl => ?_)
            refine lv_goto (tgt := 152) hx hb dX8_street_178 (by decide) ?_
            refine lv_iload_n hx hb dX8_street_152 rfl (lv_at hl 0 rfl) ?_
            refine lv_bipush (v := 9) hx hb dX8_street_153 (by decide) ?_
            refine lv_icmp_ge (tgt := 181) hx hb dX8_street_155 (by decide) (fun h => absurd h (by decide)) (fun _ => ?_)
            refine lv_aload_n hx hb dX8_street_158 rfl (lv_at hl 2 rfl) ?_
            refine va_get (D := D) (ci := 8) (v := .ref (a 4)) (C := RX8) (T := TX8) (N := 44) hx hb hts inX8 hown hK hP 7 rfl rfl 3 (by decide) (hts _ tw_976) (fun _ h9 => h9) rfl dX8_street_159 ?_
            refine lv_bipush (v := 9) hx hb dX8_street_162 (by decide) ?_
            refine lv_iload_n hx hb dX8_street_164 rfl (lv_at hl 3 rfl) ?_
            refine lv_imul hx hb dX8_street_165 ?_
            refine lv_ti (y := (nI (9 * sn))) (pk_mul 9 sn) ?_
            refine lv_iload_n hx hb dX8_street_166 rfl (lv_at hl 0 rfl) ?_
            refine lv_iadd hx hb dX8_street_167 ?_
            refine lv_ti (y := (nI (9 * sn + 3))) (nI_add (9 * sn) 3) ?_
            refine lv_aload_n hx hb dX8_street_168 rfl (lv_at hl 2 rfl) ?_
            refine va_get (D := D) (ci := 8) (v := .ref (a 16)) (C := RX8) (T := TX8) (N := 44) hx hb hts inX8 hown hK hP 7 rfl rfl 15 (by decide) (hts _ tw_988) (fun _ h9 => h9) rfl dX8_street_169 ?_
            refine lv_iload_n hx hb dX8_street_172 rfl (lv_at hl 0 rfl) ?_
            refine va_iald hx hb hK hP 6 1 rfl rfl (by unfold vp_in; decide) dX8_street_173 ?_
            refine lv_ti (y := (rs_3 3)) (by rfl) ?_
            refine va_iast hx hb hK hP hD hS 5 1 rfl rfl (vp_in_nI (by omega) (by decide)) dX8_street_174 (fun H locs hP hD hS => ?_)
            replace hP : va_P D classes [(aI k (a 14) 24 ra_3), (aI k (a 15) 24 rb_3), (aI k (a 1) 3 (nF d_13)), (aI k (a 2) 72 fr2_14), (aI k (a 3) 72 pr2_14), (aI k (a 4) 27 (upd (sg se tm gs_21) (Int32.toNatClampNeg (nI (9 * sn + 3))) (rs_3 3))), (aI k (a 16) 9 rs_3), ((a 0), .inr (8, (fX8 a 0 fp2_3 (nI t0__8) wd2_3 (nI we2_3) nu2_3 na2_3 (nI rd2_3) ts2_3 (nI ru) (nI rw) (nI ca) df db sd))), (aI k (a 5) 240 ftext)] H := hP
            replace hD : va_D A [(aI k (a 14) 24 ra_3), (aI k (a 15) 24 rb_3), (aI k (a 1) 3 (nF d_13)), (aI k (a 2) 72 fr2_14), (aI k (a 3) 72 pr2_14), (aI k (a 4) 27 (upd (sg se tm gs_21) (Int32.toNatClampNeg (nI (9 * sn + 3))) (rs_3 3))), (aI k (a 16) 9 rs_3), ((a 0), .inr (8, (fX8 a 0 fp2_3 (nI t0__8) wd2_3 (nI we2_3) nu2_3 na2_3 (nI rd2_3) ts2_3 (nI ru) (nI rw) (nI ca) df db sd))), (aI k (a 5) 240 ftext)] := hD
            rw [nI_clamp (n := (9 * sn + 3)) (by omega)] at hP hD
            rw [sg_upd se tm gs_21 (9 * sn + 3) _ (by omega) (by omega)] at hP hD
            generalize upd gs_21 (9 * sn + 3) (rs_3 3) = gs_23 at hP hD
            replace hP : va_P D classes [(aI k (a 14) 24 ra_3), (aI k (a 15) 24 rb_3), (aI k (a 1) 3 (nF d_13)), (aI k (a 2) 72 fr2_14), (aI k (a 3) 72 pr2_14), (aI k (a 4) 27 (sg se tm gs_23)), (aI k (a 16) 9 rs_3), ((a 0), .inr (8, (fX8 a 0 fp2_3 (nI t0__8) wd2_3 (nI we2_3) nu2_3 na2_3 (nI rd2_3) ts2_3 (nI ru) (nI rw) (nI ca) df db sd))), (aI k (a 5) 240 ftext)] H := hP
            replace hD : va_D A [(aI k (a 14) 24 ra_3), (aI k (a 15) 24 rb_3), (aI k (a 1) 3 (nF d_13)), (aI k (a 2) 72 fr2_14), (aI k (a 3) 72 pr2_14), (aI k (a 4) 27 (sg se tm gs_23)), (aI k (a 16) 9 rs_3), ((a 0), .inr (8, (fX8 a 0 fp2_3 (nI t0__8) wd2_3 (nI we2_3) nu2_3 na2_3 (nI rd2_3) ts2_3 (nI ru) (nI rw) (nI ca) df db sd))), (aI k (a 5) 240 ftext)] := hD
            refine lv_iinc (v := 4) (lv' := [(3, .int 4), (2, .int (nI fl_3)), (0, .ref (a 0)), (1, .int (nI sn))]) hx hb dX8_street_175 hl (k := 0) rfl (by decide) (by decide) rfl (fun ls hl => ?_)
            refine lv_goto (tgt := 152) hx hb dX8_street_178 (by decide) ?_
            refine lv_iload_n hx hb dX8_street_152 rfl (lv_at hl 0 rfl) ?_
            refine lv_bipush (v := 9) hx hb dX8_street_153 (by decide) ?_
            refine lv_icmp_ge (tgt := 181) hx hb dX8_street_155 (by decide) (fun h => absurd h (by decide)) (fun _ => ?_)
            refine lv_aload_n hx hb dX8_street_158 rfl (lv_at hl 2 rfl) ?_
            refine va_get (D := D) (ci := 8) (v := .ref (a 4)) (C := RX8) (T := TX8) (N := 44) hx hb hts inX8 hown hK hP 7 rfl rfl 3 (by decide) (hts _ tw_976) (fun _ h9 => h9) rfl dX8_street_159 ?_
            refine lv_bipush (v := 9) hx hb dX8_street_162 (by decide) ?_
            refine lv_iload_n hx hb dX8_street_164 rfl (lv_at hl 3 rfl) ?_
            refine lv_imul hx hb dX8_street_165 ?_
            refine lv_ti (y := (nI (9 * sn))) (pk_mul 9 sn) ?_
            refine lv_iload_n hx hb dX8_street_166 rfl (lv_at hl 0 rfl) ?_
            refine lv_iadd hx hb dX8_street_167 ?_
            refine lv_ti (y := (nI (9 * sn + 4))) (nI_add (9 * sn) 4) ?_
            refine lv_aload_n hx hb dX8_street_168 rfl (lv_at hl 2 rfl) ?_
            refine va_get (D := D) (ci := 8) (v := .ref (a 16)) (C := RX8) (T := TX8) (N := 44) hx hb hts inX8 hown hK hP 7 rfl rfl 15 (by decide) (hts _ tw_988) (fun _ h9 => h9) rfl dX8_street_169 ?_
            refine lv_iload_n hx hb dX8_street_172 rfl (lv_at hl 0 rfl) ?_
            refine va_iald hx hb hK hP 6 1 rfl rfl (by unfold vp_in; decide) dX8_street_173 ?_
            refine lv_ti (y := (rs_3 4)) (by rfl) ?_
            refine va_iast hx hb hK hP hD hS 5 1 rfl rfl (vp_in_nI (by omega) (by decide)) dX8_street_174 (fun H locs hP hD hS => ?_)
            replace hP : va_P D classes [(aI k (a 14) 24 ra_3), (aI k (a 15) 24 rb_3), (aI k (a 1) 3 (nF d_13)), (aI k (a 2) 72 fr2_14), (aI k (a 3) 72 pr2_14), (aI k (a 4) 27 (upd (sg se tm gs_23) (Int32.toNatClampNeg (nI (9 * sn + 4))) (rs_3 4))), (aI k (a 16) 9 rs_3), ((a 0), .inr (8, (fX8 a 0 fp2_3 (nI t0__8) wd2_3 (nI we2_3) nu2_3 na2_3 (nI rd2_3) ts2_3 (nI ru) (nI rw) (nI ca) df db sd))), (aI k (a 5) 240 ftext)] H := hP
            replace hD : va_D A [(aI k (a 14) 24 ra_3), (aI k (a 15) 24 rb_3), (aI k (a 1) 3 (nF d_13)), (aI k (a 2) 72 fr2_14), (aI k (a 3) 72 pr2_14), (aI k (a 4) 27 (upd (sg se tm gs_23) (Int32.toNatClampNeg (nI (9 * sn + 4))) (rs_3 4))), (aI k (a 16) 9 rs_3), ((a 0), .inr (8, (fX8 a 0 fp2_3 (nI t0__8) wd2_3 (nI we2_3) nu2_3 na2_3 (nI rd2_3) ts2_3 (nI ru) (nI rw) (nI ca) df db sd))), (aI k (a 5) 240 ftext)] := hD
            rw [nI_clamp (n := (9 * sn + 4)) (by omega)] at hP hD
            rw [sg_upd se tm gs_23 (9 * sn + 4) _ (by omega) (by omega)] at hP hD
            generalize upd gs_23 (9 * sn + 4) (rs_3 4) = gs_25 at hP hD
            replace hP : va_P D classes [(aI k (a 14) 24 ra_3), (aI k (a 15) 24 rb_3), (aI k (a 1) 3 (nF d_13)), (aI k (a 2) 72 fr2_14), (aI k (a 3) 72 pr2_14), (aI k (a 4) 27 (sg se tm gs_25)), (aI k (a 16) 9 rs_3), ((a 0), .inr (8, (fX8 a 0 fp2_3 (nI t0__8) wd2_3 (nI we2_3) nu2_3 na2_3 (nI rd2_3) ts2_3 (nI ru) (nI rw) (nI ca) df db sd))), (aI k (a 5) 240 ftext)] H := hP
            replace hD : va_D A [(aI k (a 14) 24 ra_3), (aI k (a 15) 24 rb_3), (aI k (a 1) 3 (nF d_13)), (aI k (a 2) 72 fr2_14), (aI k (a 3) 72 pr2_14), (aI k (a 4) 27 (sg se tm gs_25)), (aI k (a 16) 9 rs_3), ((a 0), .inr (8, (fX8 a 0 fp2_3 (nI t0__8) wd2_3 (nI we2_3) nu2_3 na2_3 (nI rd2_3) ts2_3 (nI ru) (nI rw) (nI ca) df db sd))), (aI k (a 5) 240 ftext)] := hD
            refine lv_iinc (v := 5) (lv' := [(3, .int 5), (2, .int (nI fl_3)), (0, .ref (a 0)), (1, .int (nI sn))]) hx hb dX8_street_175 hl (k := 0) rfl (by decide) (by decide) rfl (fun ls hl => ?_)
            refine lv_goto (tgt := 152) hx hb dX8_street_178 (by decide) ?_
            refine lv_iload_n hx hb dX8_street_152 rfl (lv_at hl 0 rfl) ?_
            refine lv_bipush (v := 9) hx hb dX8_street_153 (by decide) ?_
            refine lv_icmp_ge (tgt := 181) hx hb dX8_street_155 (by decide) (fun h => absurd h (by decide)) (fun _ => ?_)
            refine lv_aload_n hx hb dX8_street_158 rfl (lv_at hl 2 rfl) ?_
            refine va_get (D := D) (ci := 8) (v := .ref (a 4)) (C := RX8) (T := TX8) (N := 44) hx hb hts inX8 hown hK hP 7 rfl rfl 3 (by decide) (hts _ tw_976) (fun _ h9 => h9) rfl dX8_street_159 ?_
            refine lv_bipush (v := 9) hx hb dX8_street_162 (by decide) ?_
            refine lv_iload_n hx hb dX8_street_164 rfl (lv_at hl 3 rfl) ?_
            refine lv_imul hx hb dX8_street_165 ?_
            refine lv_ti (y := (nI (9 * sn))) (pk_mul 9 sn) ?_
            refine lv_iload_n hx hb dX8_street_166 rfl (lv_at hl 0 rfl) ?_
            refine lv_iadd hx hb dX8_street_167 ?_
            refine lv_ti (y := (nI (9 * sn + 5))) (nI_add (9 * sn) 5) ?_
            refine lv_aload_n hx hb dX8_street_168 rfl (lv_at hl 2 rfl) ?_
            refine va_get (D := D) (ci := 8) (v := .ref (a 16)) (C := RX8) (T := TX8) (N := 44) hx hb hts inX8 hown hK hP 7 rfl rfl 15 (by decide) (hts _ tw_988) (fun _ h9 => h9) rfl dX8_street_169 ?_
            refine lv_iload_n hx hb dX8_street_172 rfl (lv_at hl 0 rfl) ?_
            refine va_iald hx hb hK hP 6 1 rfl rfl (by unfold vp_in; decide) dX8_street_173 ?_
            refine lv_ti (y := (nI ra_9)) era_9 ?_
            refine va_iast hx hb hK hP hD hS 5 1 rfl rfl (vp_in_nI (by omega) (by decide)) dX8_street_174 (fun H locs hP hD hS => ?_)
            replace hP : va_P D classes [(aI k (a 14) 24 ra_3), (aI k (a 15) 24 rb_3), (aI k (a 1) 3 (nF d_13)), (aI k (a 2) 72 fr2_14), (aI k (a 3) 72 pr2_14), (aI k (a 4) 27 (upd (sg se tm gs_25) (Int32.toNatClampNeg (nI (9 * sn + 5))) (nI ra_9))), (aI k (a 16) 9 rs_3), ((a 0), .inr (8, (fX8 a 0 fp2_3 (nI t0__8) wd2_3 (nI we2_3) nu2_3 na2_3 (nI rd2_3) ts2_3 (nI ru) (nI rw) (nI ca) df db sd))), (aI k (a 5) 240 ftext)] H := hP
            replace hD : va_D A [(aI k (a 14) 24 ra_3), (aI k (a 15) 24 rb_3), (aI k (a 1) 3 (nF d_13)), (aI k (a 2) 72 fr2_14), (aI k (a 3) 72 pr2_14), (aI k (a 4) 27 (upd (sg se tm gs_25) (Int32.toNatClampNeg (nI (9 * sn + 5))) (nI ra_9))), (aI k (a 16) 9 rs_3), ((a 0), .inr (8, (fX8 a 0 fp2_3 (nI t0__8) wd2_3 (nI we2_3) nu2_3 na2_3 (nI rd2_3) ts2_3 (nI ru) (nI rw) (nI ca) df db sd))), (aI k (a 5) 240 ftext)] := hD
            rw [nI_clamp (n := (9 * sn + 5)) (by omega)] at hP hD
            rw [sg_upd5 se tm gs_25 sn ra_9] at hP hD
            generalize hse_27 : (fun j => if j = sn then ra_9 else se j) = se_27 at hP hD
            replace hP : va_P D classes [(aI k (a 14) 24 ra_3), (aI k (a 15) 24 rb_3), (aI k (a 1) 3 (nF d_13)), (aI k (a 2) 72 fr2_14), (aI k (a 3) 72 pr2_14), (aI k (a 4) 27 (sg se_27 tm gs_25)), (aI k (a 16) 9 rs_3), ((a 0), .inr (8, (fX8 a 0 fp2_3 (nI t0__8) wd2_3 (nI we2_3) nu2_3 na2_3 (nI rd2_3) ts2_3 (nI ru) (nI rw) (nI ca) df db sd))), (aI k (a 5) 240 ftext)] H := hP
            replace hD : va_D A [(aI k (a 14) 24 ra_3), (aI k (a 15) 24 rb_3), (aI k (a 1) 3 (nF d_13)), (aI k (a 2) 72 fr2_14), (aI k (a 3) 72 pr2_14), (aI k (a 4) 27 (sg se_27 tm gs_25)), (aI k (a 16) 9 rs_3), ((a 0), .inr (8, (fX8 a 0 fp2_3 (nI t0__8) wd2_3 (nI we2_3) nu2_3 na2_3 (nI rd2_3) ts2_3 (nI ru) (nI rw) (nI ca) df db sd))), (aI k (a 5) 240 ftext)] := hD
            refine lv_iinc (v := 6) (lv' := [(3, .int 6), (2, .int (nI fl_3)), (0, .ref (a 0)), (1, .int (nI sn))]) hx hb dX8_street_175 hl (k := 0) rfl (by decide) (by decide) rfl (fun ls hl => ?_)
            refine lv_goto (tgt := 152) hx hb dX8_street_178 (by decide) ?_
            refine lv_iload_n hx hb dX8_street_152 rfl (lv_at hl 0 rfl) ?_
            refine lv_bipush (v := 9) hx hb dX8_street_153 (by decide) ?_
            refine lv_icmp_ge (tgt := 181) hx hb dX8_street_155 (by decide) (fun h => absurd h (by decide)) (fun _ => ?_)
            refine lv_aload_n hx hb dX8_street_158 rfl (lv_at hl 2 rfl) ?_
            refine va_get (D := D) (ci := 8) (v := .ref (a 4)) (C := RX8) (T := TX8) (N := 44) hx hb hts inX8 hown hK hP 7 rfl rfl 3 (by decide) (hts _ tw_976) (fun _ h9 => h9) rfl dX8_street_159 ?_
            refine lv_bipush (v := 9) hx hb dX8_street_162 (by decide) ?_
            refine lv_iload_n hx hb dX8_street_164 rfl (lv_at hl 3 rfl) ?_
            refine lv_imul hx hb dX8_street_165 ?_
            refine lv_ti (y := (nI (9 * sn))) (pk_mul 9 sn) ?_
            refine lv_iload_n hx hb dX8_street_166 rfl (lv_at hl 0 rfl) ?_
            refine lv_iadd hx hb dX8_street_167 ?_
            refine lv_ti (y := (nI (9 * sn + 6))) (nI_add (9 * sn) 6) ?_
            refine lv_aload_n hx hb dX8_street_168 rfl (lv_at hl 2 rfl) ?_
            refine va_get (D := D) (ci := 8) (v := .ref (a 16)) (C := RX8) (T := TX8) (N := 44) hx hb hts inX8 hown hK hP 7 rfl rfl 15 (by decide) (hts _ tw_988) (fun _ h9 => h9) rfl dX8_street_169 ?_
            refine lv_iload_n hx hb dX8_street_172 rfl (lv_at hl 0 rfl) ?_
            refine va_iald hx hb hK hP 6 1 rfl rfl (by unfold vp_in; decide) dX8_street_173 ?_
            refine lv_ti (y := (rs_3 6)) (by rfl) ?_
            refine va_iast hx hb hK hP hD hS 5 1 rfl rfl (vp_in_nI (by omega) (by decide)) dX8_street_174 (fun H locs hP hD hS => ?_)
            replace hP : va_P D classes [(aI k (a 14) 24 ra_3), (aI k (a 15) 24 rb_3), (aI k (a 1) 3 (nF d_13)), (aI k (a 2) 72 fr2_14), (aI k (a 3) 72 pr2_14), (aI k (a 4) 27 (upd (sg se_27 tm gs_25) (Int32.toNatClampNeg (nI (9 * sn + 6))) (rs_3 6))), (aI k (a 16) 9 rs_3), ((a 0), .inr (8, (fX8 a 0 fp2_3 (nI t0__8) wd2_3 (nI we2_3) nu2_3 na2_3 (nI rd2_3) ts2_3 (nI ru) (nI rw) (nI ca) df db sd))), (aI k (a 5) 240 ftext)] H := hP
            replace hD : va_D A [(aI k (a 14) 24 ra_3), (aI k (a 15) 24 rb_3), (aI k (a 1) 3 (nF d_13)), (aI k (a 2) 72 fr2_14), (aI k (a 3) 72 pr2_14), (aI k (a 4) 27 (upd (sg se_27 tm gs_25) (Int32.toNatClampNeg (nI (9 * sn + 6))) (rs_3 6))), (aI k (a 16) 9 rs_3), ((a 0), .inr (8, (fX8 a 0 fp2_3 (nI t0__8) wd2_3 (nI we2_3) nu2_3 na2_3 (nI rd2_3) ts2_3 (nI ru) (nI rw) (nI ca) df db sd))), (aI k (a 5) 240 ftext)] := hD
            rw [nI_clamp (n := (9 * sn + 6)) (by omega)] at hP hD
            rw [sg_upd se_27 tm gs_25 (9 * sn + 6) _ (by omega) (by omega)] at hP hD
            generalize upd gs_25 (9 * sn + 6) (rs_3 6) = gs_29 at hP hD
            replace hP : va_P D classes [(aI k (a 14) 24 ra_3), (aI k (a 15) 24 rb_3), (aI k (a 1) 3 (nF d_13)), (aI k (a 2) 72 fr2_14), (aI k (a 3) 72 pr2_14), (aI k (a 4) 27 (sg se_27 tm gs_29)), (aI k (a 16) 9 rs_3), ((a 0), .inr (8, (fX8 a 0 fp2_3 (nI t0__8) wd2_3 (nI we2_3) nu2_3 na2_3 (nI rd2_3) ts2_3 (nI ru) (nI rw) (nI ca) df db sd))), (aI k (a 5) 240 ftext)] H := hP
            replace hD : va_D A [(aI k (a 14) 24 ra_3), (aI k (a 15) 24 rb_3), (aI k (a 1) 3 (nF d_13)), (aI k (a 2) 72 fr2_14), (aI k (a 3) 72 pr2_14), (aI k (a 4) 27 (sg se_27 tm gs_29)), (aI k (a 16) 9 rs_3), ((a 0), .inr (8, (fX8 a 0 fp2_3 (nI t0__8) wd2_3 (nI we2_3) nu2_3 na2_3 (nI rd2_3) ts2_3 (nI ru) (nI rw) (nI ca) df db sd))), (aI k (a 5) 240 ftext)] := hD
            refine lv_iinc (v := 7) (lv' := [(3, .int 7), (2, .int (nI fl_3)), (0, .ref (a 0)), (1, .int (nI sn))]) hx hb dX8_street_175 hl (k := 0) rfl (by decide) (by decide) rfl (fun ls hl => ?_)
            refine lv_goto (tgt := 152) hx hb dX8_street_178 (by decide) ?_
            refine lv_iload_n hx hb dX8_street_152 rfl (lv_at hl 0 rfl) ?_
            refine lv_bipush (v := 9) hx hb dX8_street_153 (by decide) ?_
            refine lv_icmp_ge (tgt := 181) hx hb dX8_street_155 (by decide) (fun h => absurd h (by decide)) (fun _ => ?_)
            refine lv_aload_n hx hb dX8_street_158 rfl (lv_at hl 2 rfl) ?_
            refine va_get (D := D) (ci := 8) (v := .ref (a 4)) (C := RX8) (T := TX8) (N := 44) hx hb hts inX8 hown hK hP 7 rfl rfl 3 (by decide) (hts _ tw_976) (fun _ h9 => h9) rfl dX8_street_159 ?_
            refine lv_bipush (v := 9) hx hb dX8_street_162 (by decide) ?_
            refine lv_iload_n hx hb dX8_street_164 rfl (lv_at hl 3 rfl) ?_
            refine lv_imul hx hb dX8_street_165 ?_
            refine lv_ti (y := (nI (9 * sn))) (pk_mul 9 sn) ?_
            refine lv_iload_n hx hb dX8_street_166 rfl (lv_at hl 0 rfl) ?_
            refine lv_iadd hx hb dX8_street_167 ?_
            refine lv_ti (y := (nI (9 * sn + 7))) (nI_add (9 * sn) 7) ?_
            refine lv_aload_n hx hb dX8_street_168 rfl (lv_at hl 2 rfl) ?_
            refine va_get (D := D) (ci := 8) (v := .ref (a 16)) (C := RX8) (T := TX8) (N := 44) hx hb hts inX8 hown hK hP 7 rfl rfl 15 (by decide) (hts _ tw_988) (fun _ h9 => h9) rfl dX8_street_169 ?_
            refine lv_iload_n hx hb dX8_street_172 rfl (lv_at hl 0 rfl) ?_
            refine va_iald hx hb hK hP 6 1 rfl rfl (by unfold vp_in; decide) dX8_street_173 ?_
            refine lv_ti (y := (nI rb_9)) erb_9 ?_
            refine va_iast hx hb hK hP hD hS 5 1 rfl rfl (vp_in_nI (by omega) (by decide)) dX8_street_174 (fun H locs hP hD hS => ?_)
            replace hP : va_P D classes [(aI k (a 14) 24 ra_3), (aI k (a 15) 24 rb_3), (aI k (a 1) 3 (nF d_13)), (aI k (a 2) 72 fr2_14), (aI k (a 3) 72 pr2_14), (aI k (a 4) 27 (upd (sg se_27 tm gs_29) (Int32.toNatClampNeg (nI (9 * sn + 7))) (nI rb_9))), (aI k (a 16) 9 rs_3), ((a 0), .inr (8, (fX8 a 0 fp2_3 (nI t0__8) wd2_3 (nI we2_3) nu2_3 na2_3 (nI rd2_3) ts2_3 (nI ru) (nI rw) (nI ca) df db sd))), (aI k (a 5) 240 ftext)] H := hP
            replace hD : va_D A [(aI k (a 14) 24 ra_3), (aI k (a 15) 24 rb_3), (aI k (a 1) 3 (nF d_13)), (aI k (a 2) 72 fr2_14), (aI k (a 3) 72 pr2_14), (aI k (a 4) 27 (upd (sg se_27 tm gs_29) (Int32.toNatClampNeg (nI (9 * sn + 7))) (nI rb_9))), (aI k (a 16) 9 rs_3), ((a 0), .inr (8, (fX8 a 0 fp2_3 (nI t0__8) wd2_3 (nI we2_3) nu2_3 na2_3 (nI rd2_3) ts2_3 (nI ru) (nI rw) (nI ca) df db sd))), (aI k (a 5) 240 ftext)] := hD
            rw [nI_clamp (n := (9 * sn + 7)) (by omega)] at hP hD
            rw [sg_upd7 se_27 tm gs_29 sn rb_9] at hP hD
            generalize htm_31 : (fun j => if j = sn then rb_9 else tm j) = tm_31 at hP hD
            replace hP : va_P D classes [(aI k (a 14) 24 ra_3), (aI k (a 15) 24 rb_3), (aI k (a 1) 3 (nF d_13)), (aI k (a 2) 72 fr2_14), (aI k (a 3) 72 pr2_14), (aI k (a 4) 27 (sg se_27 tm_31 gs_29)), (aI k (a 16) 9 rs_3), ((a 0), .inr (8, (fX8 a 0 fp2_3 (nI t0__8) wd2_3 (nI we2_3) nu2_3 na2_3 (nI rd2_3) ts2_3 (nI ru) (nI rw) (nI ca) df db sd))), (aI k (a 5) 240 ftext)] H := hP
            replace hD : va_D A [(aI k (a 14) 24 ra_3), (aI k (a 15) 24 rb_3), (aI k (a 1) 3 (nF d_13)), (aI k (a 2) 72 fr2_14), (aI k (a 3) 72 pr2_14), (aI k (a 4) 27 (sg se_27 tm_31 gs_29)), (aI k (a 16) 9 rs_3), ((a 0), .inr (8, (fX8 a 0 fp2_3 (nI t0__8) wd2_3 (nI we2_3) nu2_3 na2_3 (nI rd2_3) ts2_3 (nI ru) (nI rw) (nI ca) df db sd))), (aI k (a 5) 240 ftext)] := hD
            refine lv_iinc (v := 8) (lv' := [(3, .int 8), (2, .int (nI fl_3)), (0, .ref (a 0)), (1, .int (nI sn))]) hx hb dX8_street_175 hl (k := 0) rfl (by decide) (by decide) rfl (fun ls hl => ?_)
            refine lv_goto (tgt := 152) hx hb dX8_street_178 (by decide) ?_
            refine lv_iload_n hx hb dX8_street_152 rfl (lv_at hl 0 rfl) ?_
            refine lv_bipush (v := 9) hx hb dX8_street_153 (by decide) ?_
            refine lv_icmp_ge (tgt := 181) hx hb dX8_street_155 (by decide) (fun h => absurd h (by decide)) (fun _ => ?_)
            refine lv_aload_n hx hb dX8_street_158 rfl (lv_at hl 2 rfl) ?_
            refine va_get (D := D) (ci := 8) (v := .ref (a 4)) (C := RX8) (T := TX8) (N := 44) hx hb hts inX8 hown hK hP 7 rfl rfl 3 (by decide) (hts _ tw_976) (fun _ h9 => h9) rfl dX8_street_159 ?_
            refine lv_bipush (v := 9) hx hb dX8_street_162 (by decide) ?_
            refine lv_iload_n hx hb dX8_street_164 rfl (lv_at hl 3 rfl) ?_
            refine lv_imul hx hb dX8_street_165 ?_
            refine lv_ti (y := (nI (9 * sn))) (pk_mul 9 sn) ?_
            refine lv_iload_n hx hb dX8_street_166 rfl (lv_at hl 0 rfl) ?_
            refine lv_iadd hx hb dX8_street_167 ?_
            refine lv_ti (y := (nI (9 * sn + 8))) (nI_add (9 * sn) 8) ?_
            refine lv_aload_n hx hb dX8_street_168 rfl (lv_at hl 2 rfl) ?_
            refine va_get (D := D) (ci := 8) (v := .ref (a 16)) (C := RX8) (T := TX8) (N := 44) hx hb hts inX8 hown hK hP 7 rfl rfl 15 (by decide) (hts _ tw_988) (fun _ h9 => h9) rfl dX8_street_169 ?_
            refine lv_iload_n hx hb dX8_street_172 rfl (lv_at hl 0 rfl) ?_
            refine va_iald hx hb hK hP 6 1 rfl rfl (by unfold vp_in; decide) dX8_street_173 ?_
            refine lv_ti (y := (rs_3 8)) (by rfl) ?_
            refine va_iast hx hb hK hP hD hS 5 1 rfl rfl (vp_in_nI (by omega) (by decide)) dX8_street_174 (fun H locs hP hD hS => ?_)
            replace hP : va_P D classes [(aI k (a 14) 24 ra_3), (aI k (a 15) 24 rb_3), (aI k (a 1) 3 (nF d_13)), (aI k (a 2) 72 fr2_14), (aI k (a 3) 72 pr2_14), (aI k (a 4) 27 (upd (sg se_27 tm_31 gs_29) (Int32.toNatClampNeg (nI (9 * sn + 8))) (rs_3 8))), (aI k (a 16) 9 rs_3), ((a 0), .inr (8, (fX8 a 0 fp2_3 (nI t0__8) wd2_3 (nI we2_3) nu2_3 na2_3 (nI rd2_3) ts2_3 (nI ru) (nI rw) (nI ca) df db sd))), (aI k (a 5) 240 ftext)] H := hP
            replace hD : va_D A [(aI k (a 14) 24 ra_3), (aI k (a 15) 24 rb_3), (aI k (a 1) 3 (nF d_13)), (aI k (a 2) 72 fr2_14), (aI k (a 3) 72 pr2_14), (aI k (a 4) 27 (upd (sg se_27 tm_31 gs_29) (Int32.toNatClampNeg (nI (9 * sn + 8))) (rs_3 8))), (aI k (a 16) 9 rs_3), ((a 0), .inr (8, (fX8 a 0 fp2_3 (nI t0__8) wd2_3 (nI we2_3) nu2_3 na2_3 (nI rd2_3) ts2_3 (nI ru) (nI rw) (nI ca) df db sd))), (aI k (a 5) 240 ftext)] := hD
            rw [nI_clamp (n := (9 * sn + 8)) (by omega)] at hP hD
            rw [sg_upd se_27 tm_31 gs_29 (9 * sn + 8) _ (by omega) (by omega)] at hP hD
            generalize upd gs_29 (9 * sn + 8) (rs_3 8) = gs_33 at hP hD
            replace hP : va_P D classes [(aI k (a 14) 24 ra_3), (aI k (a 15) 24 rb_3), (aI k (a 1) 3 (nF d_13)), (aI k (a 2) 72 fr2_14), (aI k (a 3) 72 pr2_14), (aI k (a 4) 27 (sg se_27 tm_31 gs_33)), (aI k (a 16) 9 rs_3), ((a 0), .inr (8, (fX8 a 0 fp2_3 (nI t0__8) wd2_3 (nI we2_3) nu2_3 na2_3 (nI rd2_3) ts2_3 (nI ru) (nI rw) (nI ca) df db sd))), (aI k (a 5) 240 ftext)] H := hP
            replace hD : va_D A [(aI k (a 14) 24 ra_3), (aI k (a 15) 24 rb_3), (aI k (a 1) 3 (nF d_13)), (aI k (a 2) 72 fr2_14), (aI k (a 3) 72 pr2_14), (aI k (a 4) 27 (sg se_27 tm_31 gs_33)), (aI k (a 16) 9 rs_3), ((a 0), .inr (8, (fX8 a 0 fp2_3 (nI t0__8) wd2_3 (nI we2_3) nu2_3 na2_3 (nI rd2_3) ts2_3 (nI ru) (nI rw) (nI ca) df db sd))), (aI k (a 5) 240 ftext)] := hD
            refine lv_iinc (v := 9) (lv' := [(3, .int 9), (2, .int (nI fl_3)), (0, .ref (a 0)), (1, .int (nI sn))]) hx hb dX8_street_175 hl (k := 0) rfl (by decide) (by decide) rfl (fun ls hl => ?_)
            refine lv_goto (tgt := 152) hx hb dX8_street_178 (by decide) ?_
            refine lv_iload_n hx hb dX8_street_152 rfl (lv_at hl 0 rfl) ?_
            refine lv_bipush (v := 9) hx hb dX8_street_153 (by decide) ?_
            refine lv_icmp_ge (tgt := 181) hx hb dX8_street_155 (by decide) (fun _ => ?_) (fun h => absurd (by decide) h)
            refine lv_aload_n hx hb dX8_street_181 rfl (lv_at hl 2 rfl) ?_
            refine va_get (D := D) (ci := 8) (v := .int (nI rd2_3)) (C := RX8) (T := TX8) (N := 44) hx hb hts inX8 hown hK hP 7 rfl rfl 12 (by decide) (hts _ tw_985) (fun _ h9 => h9) rfl dX8_street_182 ?_
            have hP9 := hP.sub (ws' := [((a 0), .inr (8, (fX8 a 0 fp2_3 (nI t0__8) wd2_3 (nI we2_3) nu2_3 na2_3 (nI rd2_3) ts2_3 (nI ru) (nI rw) (nI ca) df db sd))), (aI k (a 5) 240 ftext), (aI k (a 14) 24 ra_3), (aI k (a 15) 24 rb_3), (aI k (a 16) 9 rs_3), (aI k (a 1) 3 (nF d_13)), (aI k (a 2) 72 fr2_14), (aI k (a 3) 72 pr2_14), (aI k (a 4) 27 (sg se_27 tm_31 gs_33))]) [7, 8, 0, 1, 6, 2, 3, 4, 5] rfl
            have hD9 := hD.sub (ws' := [((a 0), .inr (8, (fX8 a 0 fp2_3 (nI t0__8) wd2_3 (nI we2_3) nu2_3 na2_3 (nI rd2_3) ts2_3 (nI ru) (nI rw) (nI ca) df db sd))), (aI k (a 5) 240 ftext), (aI k (a 14) 24 ra_3), (aI k (a 15) 24 rb_3), (aI k (a 16) 9 rs_3), (aI k (a 1) 3 (nF d_13)), (aI k (a 2) 72 fr2_14), (aI k (a 3) 72 pr2_14), (aI k (a 4) 27 (sg se_27 tm_31 gs_33))]) [7, 8, 0, 1, 6, 2, 3, 4, 5] (by decide) rfl
            exact W.iret (v := (nI rd2_3)) hx hb hr (fun t ht hW => ⟨⟨(nI rd2_3), (t0__8, wd2_3, we2_3, fp2_3, nu2_3, na2_3, rd2_3, ts2_3, 0, ra_3, rb_3, rs_3, d_13, fr2_14, pr2_14, se_27, tm_31, gs_33), rfl, ⟨by omega, by rw [hd_13]; exact up_le hdn (by omega), by rw [← hse_27]; exact up_le hse (by omega), by rw [← htm_31]; exact up_le htm (by omega)⟩, by rw [ht]; exact hP9, hD9⟩, hS.F ht⟩) hS.2.2 dX8_street_185
          · have c_15 : ¬ (rd2_3 ≤ ic_14) := fun h => c_15 ((nI_leI (a := rd2_3) (b := ic_14) (by omega) (by omega)).mpr h)
            refine lv_aload_n hx hb dX8_street_110 rfl (lv_at hl 2 rfl) ?_
            refine va_get (D := D) (ci := 8) (v := .ref (a 2)) (C := RX8) (T := TX8) (N := 44) hx hb hts inX8 hown hK hP 7 rfl rfl 1 (by decide) (hts _ tw_974) (fun _ h9 => h9) rfl dX8_street_111 ?_
            refine lv_bipush (v := 24) hx hb dX8_street_114 (by decide) ?_
            refine lv_iload_n hx hb dX8_street_116 rfl (lv_at hl 3 rfl) ?_
            refine lv_imul hx hb dX8_street_117 ?_
            refine lv_ti (y := (nI (24 * sn))) (pk_mul 24 sn) ?_
            refine lv_iload_n hx hb dX8_street_118 rfl (lv_at hl 0 rfl) ?_
            refine lv_iadd hx hb dX8_street_119 ?_
            refine lv_ti (y := (nI (24 * sn + ic_14))) (nI_add (24 * sn) ic_14) ?_
            refine lv_aload_n hx hb dX8_street_120 rfl (lv_at hl 2 rfl) ?_
            refine va_get (D := D) (ci := 8) (v := .ref (a 14)) (C := RX8) (T := TX8) (N := 44) hx hb hts inX8 hown hK hP 7 rfl rfl 13 (by decide) (hts _ tw_986) (fun _ h9 => h9) rfl dX8_street_121 ?_
            refine lv_iload_n hx hb dX8_street_124 rfl (lv_at hl 0 rfl) ?_
            refine va_iald hx hb hK hP 0 1 rfl rfl (vp_in_nI (by omega) (by decide)) dX8_street_125 ?_
            refine lv_ti (y := (ra_3 ic_14)) (by rw [nI_clamp (by omega)]) ?_
            refine va_iast hx hb hK hP hD hS 3 1 rfl rfl (vp_in_nI (by omega) (by decide)) dX8_street_126 (fun H locs hP hD hS => ?_)
            replace hP : va_P D classes [(aI k (a 14) 24 ra_3), (aI k (a 15) 24 rb_3), (aI k (a 1) 3 (nF d_13)), (aI k (a 2) 72 (upd fr2_14 (Int32.toNatClampNeg (nI (24 * sn + ic_14))) (ra_3 ic_14))), (aI k (a 3) 72 pr2_14), (aI k (a 4) 27 (sg se tm gs)), (aI k (a 16) 9 rs_3), ((a 0), .inr (8, (fX8 a 0 fp2_3 (nI t0__8) wd2_3 (nI we2_3) nu2_3 na2_3 (nI rd2_3) ts2_3 (nI ru) (nI rw) (nI ca) df db sd))), (aI k (a 5) 240 ftext)] H := hP
            replace hD : va_D A [(aI k (a 14) 24 ra_3), (aI k (a 15) 24 rb_3), (aI k (a 1) 3 (nF d_13)), (aI k (a 2) 72 (upd fr2_14 (Int32.toNatClampNeg (nI (24 * sn + ic_14))) (ra_3 ic_14))), (aI k (a 3) 72 pr2_14), (aI k (a 4) 27 (sg se tm gs)), (aI k (a 16) 9 rs_3), ((a 0), .inr (8, (fX8 a 0 fp2_3 (nI t0__8) wd2_3 (nI we2_3) nu2_3 na2_3 (nI rd2_3) ts2_3 (nI ru) (nI rw) (nI ca) df db sd))), (aI k (a 5) 240 ftext)] := hD
            generalize (upd fr2_14 (Int32.toNatClampNeg (nI (24 * sn + ic_14))) (ra_3 ic_14)) = f_34 at hP hD
            refine lv_aload_n hx hb dX8_street_127 rfl (lv_at hl 2 rfl) ?_
            refine va_get (D := D) (ci := 8) (v := .ref (a 3)) (C := RX8) (T := TX8) (N := 44) hx hb hts inX8 hown hK hP 7 rfl rfl 2 (by decide) (hts _ tw_975) (fun _ h9 => h9) rfl dX8_street_128 ?_
            refine lv_bipush (v := 24) hx hb dX8_street_131 (by decide) ?_
            refine lv_iload_n hx hb dX8_street_133 rfl (lv_at hl 3 rfl) ?_
            refine lv_imul hx hb dX8_street_134 ?_
            refine lv_ti (y := (nI (24 * sn))) (pk_mul 24 sn) ?_
            refine lv_iload_n hx hb dX8_street_135 rfl (lv_at hl 0 rfl) ?_
            refine lv_iadd hx hb dX8_street_136 ?_
            refine lv_ti (y := (nI (24 * sn + ic_14))) (nI_add (24 * sn) ic_14) ?_
            refine lv_aload_n hx hb dX8_street_137 rfl (lv_at hl 2 rfl) ?_
            refine va_get (D := D) (ci := 8) (v := .ref (a 15)) (C := RX8) (T := TX8) (N := 44) hx hb hts inX8 hown hK hP 7 rfl rfl 14 (by decide) (hts _ tw_987) (fun _ h9 => h9) rfl dX8_street_138 ?_
            refine lv_iload_n hx hb dX8_street_141 rfl (lv_at hl 0 rfl) ?_
            refine va_iald hx hb hK hP 1 1 rfl rfl (vp_in_nI (by omega) (by decide)) dX8_street_142 ?_
            refine lv_ti (y := (rb_3 ic_14)) (by rw [nI_clamp (by omega)]) ?_
            refine va_iast hx hb hK hP hD hS 4 1 rfl rfl (vp_in_nI (by omega) (by decide)) dX8_street_143 (fun H locs hP hD hS => ?_)
            replace hP : va_P D classes [(aI k (a 14) 24 ra_3), (aI k (a 15) 24 rb_3), (aI k (a 1) 3 (nF d_13)), (aI k (a 2) 72 f_34), (aI k (a 3) 72 (upd pr2_14 (Int32.toNatClampNeg (nI (24 * sn + ic_14))) (rb_3 ic_14))), (aI k (a 4) 27 (sg se tm gs)), (aI k (a 16) 9 rs_3), ((a 0), .inr (8, (fX8 a 0 fp2_3 (nI t0__8) wd2_3 (nI we2_3) nu2_3 na2_3 (nI rd2_3) ts2_3 (nI ru) (nI rw) (nI ca) df db sd))), (aI k (a 5) 240 ftext)] H := hP
            replace hD : va_D A [(aI k (a 14) 24 ra_3), (aI k (a 15) 24 rb_3), (aI k (a 1) 3 (nF d_13)), (aI k (a 2) 72 f_34), (aI k (a 3) 72 (upd pr2_14 (Int32.toNatClampNeg (nI (24 * sn + ic_14))) (rb_3 ic_14))), (aI k (a 4) 27 (sg se tm gs)), (aI k (a 16) 9 rs_3), ((a 0), .inr (8, (fX8 a 0 fp2_3 (nI t0__8) wd2_3 (nI we2_3) nu2_3 na2_3 (nI rd2_3) ts2_3 (nI ru) (nI rw) (nI ca) df db sd))), (aI k (a 5) 240 ftext)] := hD
            generalize (upd pr2_14 (Int32.toNatClampNeg (nI (24 * sn + ic_14))) (rb_3 ic_14)) = f_35 at hP hD
            refine lv_iinc (v := (nI (ic_14 + 1))) (lv' := [(3, .int (nI (ic_14 + 1))), (2, .int (nI fl_3)), (0, .ref (a 0)), (1, .int (nI sn))]) hx hb dX8_street_144 hl (k := 0) rfl (nI_add ic_14 1) (by decide) rfl (fun ls hl => ?_)
            refine lv_goto (tgt := 102) hx hb dX8_street_147 (by decide) ?_
            exact ih_14 _ (ic_14 + 1, f_34, f_35) _ _ _ (by omega) ⟨rfl, (by omega), hP, hD, hS, (lv_sub hl [0, 1, 2, 3] rfl)⟩
        · have c_11 := (nI_eq (a := rd2_3) (b := 0) (by omega) (by omega)).mp c_11
          refine lv_aload_n hx hb dX8_street_62 rfl (lv_at hl 1 rfl) ?_
          refine lv_iconst (v := 1) hx hb dX8_street_63 (by decide) ?_
          refine lv_aload_n hx hb dX8_street_64 rfl (lv_at hl 1 rfl) ?_
          refine va_get (D := D) (ci := 8) (v := .int (nI tx)) (C := RX8) (T := TX8) (N := 44) hx hb hts inX8 hown hK hP 7 rfl rfl 5 (by decide) (hts _ tw_978) (fun _ h9 => h9) rfl dX8_street_65 ?_
          refine rw_i (D := D) (wr := [(aI k (a 14) 24 ra_3), (aI k (a 15) 24 rb_3), (aI k (a 1) 3 (nF dn)), (aI k (a 2) 72 ffrees), (aI k (a 3) 72 fprices), (aI k (a 4) 27 (sg se tm gs)), (aI k (a 16) 9 rs_3), (aI k (a 5) 240 ftext)]) (va_runV (As := [.int 1, .int (nI tx)]) (rest := []) ⟨hx, hb, hml, hown, hts⟩ ((m_fails l D k st lo a tx t0__8 we2_3 rd2_3 ru rw ca fp2_3 wd2_3 nu2_3 na2_3 ts2_3 df db sd 1 (nI tx)) H.size) (cwV 2 hts (gV tw_1151 tw_1153 tw_31 tw_87 tw_1154) rfl rfl rfl (by decide +kernel) ⟨Nat.le_of_ble_eq_true rfl, Nat.le_of_ble_eq_true rfl⟩) (pV hS hAlo hlo hP hK (va_Dlo hD hAlo) hZ [7] (by decide) rfl (ci := 8) (q := (RX8, TX8, 44)) (q0 := 0) rfl rfl) rfl rfl hl.1 rfl (lv_room (Nat.le_of_ble_eq_true rfl)) dX8_street_68 ⟨Nat.le_of_ble_eq_true rfl, Nat.le_of_ble_eq_true rfl⟩) hS hA hP hD [7] [0, 1, 2, 3, 4, 5, 6, 8] rfl rfl (by decide) (by decide) (fun r_36 u H locs hw_36 hP hD hS => ?_)
          obtain ⟨fp__36, rfl⟩ : ∃ z, z = u := ⟨_, rfl⟩
          replace hP : va_P D classes [(aI k (a 14) 24 ra_3), (aI k (a 15) 24 rb_3), (aI k (a 1) 3 (nF dn)), (aI k (a 2) 72 ffrees), (aI k (a 3) 72 fprices), (aI k (a 4) 27 (sg se tm gs)), (aI k (a 16) 9 rs_3), (aI k (a 5) 240 ftext), ((a 0), .inr (8, (fX8 a (nI tx) fp__36 (nI t0__8) wd2_3 (nI we2_3) nu2_3 na2_3 (nI rd2_3) ts2_3 (nI ru) (nI rw) (nI ca) df db sd)))] H := hP
          replace hD : va_D A [(aI k (a 14) 24 ra_3), (aI k (a 15) 24 rb_3), (aI k (a 1) 3 (nF dn)), (aI k (a 2) 72 ffrees), (aI k (a 3) 72 fprices), (aI k (a 4) 27 (sg se tm gs)), (aI k (a 16) 9 rs_3), (aI k (a 5) 240 ftext), ((a 0), .inr (8, (fX8 a (nI tx) fp__36 (nI t0__8) wd2_3 (nI we2_3) nu2_3 na2_3 (nI rd2_3) ts2_3 (nI ru) (nI rw) (nI ca) df db sd)))] := hD
          try dsimp only at hw_36
          subst hw_36
          refine lv_goto (tgt := 75) hx hb dX8_street_71 (by decide) ?_
          refine lv_istore_n (lv' := [(2, .int 1), (0, .ref (a 0)), (1, .int (nI sn))]) hx hb dX8_street_75 rfl hl (by decide) rfl (fun ls hl => ?_)
          refine lv_aload_n hx hb dX8_street_76 rfl (lv_at hl 1 rfl) ?_
          refine lv_iconst (v := 0) hx hb dX8_street_77 (by decide) ?_
          refine va_put (D := D) (ci := 8) (v := .int 0) (ty := .int) (C := RX8) (T := TX8) (N := 44) hx hb hts inX8 tyX8 tyX8_ok nmX8 hown hK hP hD hS 8 rfl rfl 5 (by decide) (hts _ tw_978) (fun _ h9 => h9) rfl (by decide +kernel) rfl rfl (Nat.le_of_ble_eq_true rfl) dX8_street_78 (fun H locs hP hD hS => ?_)
          replace hP : va_P D classes [(aI k (a 14) 24 ra_3), (aI k (a 15) 24 rb_3), (aI k (a 1) 3 (nF dn)), (aI k (a 2) 72 ffrees), (aI k (a 3) 72 fprices), (aI k (a 4) 27 (sg se tm gs)), (aI k (a 16) 9 rs_3), (aI k (a 5) 240 ftext), ((a 0), .inr (8, (fX8 a 0 fp__36 (nI t0__8) wd2_3 (nI we2_3) nu2_3 na2_3 (nI rd2_3) ts2_3 (nI ru) (nI rw) (nI ca) df db sd)))] H := hP
          replace hD : va_D A [(aI k (a 14) 24 ra_3), (aI k (a 15) 24 rb_3), (aI k (a 1) 3 (nF dn)), (aI k (a 2) 72 ffrees), (aI k (a 3) 72 fprices), (aI k (a 4) 27 (sg se tm gs)), (aI k (a 16) 9 rs_3), (aI k (a 5) 240 ftext), ((a 0), .inr (8, (fX8 a 0 fp__36 (nI t0__8) wd2_3 (nI we2_3) nu2_3 na2_3 (nI rd2_3) ts2_3 (nI ru) (nI rw) (nI ca) df db sd)))] := hD
          refine lv_iload_n hx hb dX8_street_81 rfl (lv_at hl 0 rfl) ?_
          refine lv_if_le (tgt := 90) hx hb dX8_street_82 (by decide) (fun h => absurd h (by decide)) (fun _ => ?_)
          refine lv_bipush (v := (-10)) hx hb dX8_street_85 (by decide) ?_
          refine lv_iload_n hx hb dX8_street_87 rfl (lv_at hl 0 rfl) ?_
          refine lv_isub hx hb dX8_street_88 ?_
          refine lv_ti (y := (-11)) (by decide) ?_
          have hP9 := hP.sub (ws' := [((a 0), .inr (8, (fX8 a 0 fp__36 (nI t0__8) wd2_3 (nI we2_3) nu2_3 na2_3 (nI rd2_3) ts2_3 (nI ru) (nI rw) (nI ca) df db sd))), (aI k (a 5) 240 ftext), (aI k (a 14) 24 ra_3), (aI k (a 15) 24 rb_3), (aI k (a 16) 9 rs_3), (aI k (a 1) 3 (nF dn)), (aI k (a 2) 72 ffrees), (aI k (a 3) 72 fprices), (aI k (a 4) 27 (sg se tm gs))]) [8, 7, 0, 1, 6, 2, 3, 4, 5] rfl
          have hD9 := hD.sub (ws' := [((a 0), .inr (8, (fX8 a 0 fp__36 (nI t0__8) wd2_3 (nI we2_3) nu2_3 na2_3 (nI rd2_3) ts2_3 (nI ru) (nI rw) (nI ca) df db sd))), (aI k (a 5) 240 ftext), (aI k (a 14) 24 ra_3), (aI k (a 15) 24 rb_3), (aI k (a 16) 9 rs_3), (aI k (a 1) 3 (nF dn)), (aI k (a 2) 72 ffrees), (aI k (a 3) 72 fprices), (aI k (a 4) 27 (sg se tm gs))]) [8, 7, 0, 1, 6, 2, 3, 4, 5] (by decide) rfl
          exact W.iret (v := (-11)) hx hb hr (fun t ht hW => ⟨⟨(-11), (t0__8, wd2_3, we2_3, fp__36, nu2_3, na2_3, rd2_3, ts2_3, 0, ra_3, rb_3, rs_3, dn, ffrees, fprices, se, tm, gs), rfl, ⟨by omega, hdn, hse, htm⟩, by rw [ht]; exact hP9, hD9⟩, hS.F ht⟩) hS.2.2 dX8_street_89
      · refine lv_aload_n hx hb dX8_street_43 rfl (lv_at hl 1 rfl) ?_
        refine rw_i (D := D) (wr := [(aI k (a 1) 3 (nF dn)), (aI k (a 2) 72 ffrees), (aI k (a 3) 72 fprices), (aI k (a 4) 27 (sg se tm gs))]) (va_runV (As := []) (rest := []) ⟨hx, hb, hml, hown, hts⟩ ((m_takeClause l D k st lo a tx t0__8 we2_3 rd2_3 ru rw ca fp2_3 wd2_3 nu2_3 na2_3 ts2_3 df db sd ftext ra_3 rb_3 rs_3 (by omega) (by omega) (by omega) (hv_3.2.2.2 (by omega))) H.size) (cwV 0 hts (gV tw_1124 tw_1126 tw_28 tw_87 tw_1127) rfl rfl rfl (by decide +kernel) ⟨Nat.le_of_ble_eq_true rfl, Nat.le_of_ble_eq_true rfl⟩) (pV hS hAlo hlo hP hK (va_Dlo hD hAlo) hZ [7, 8, 0, 1, 6] (by decide) rfl (ci := 8) (q := (RX8, TX8, 44)) (q0 := 0) rfl rfl) rfl rfl hl.1 rfl (lv_room (Nat.le_of_ble_eq_true rfl)) dX8_street_44 ⟨Nat.le_of_ble_eq_true rfl, Nat.le_of_ble_eq_true rfl⟩) hS hA hP hD [7, 8, 0, 1, 6] [2, 3, 4, 5] rfl rfl (by decide) (by decide) (fun r_37 u H locs hw_37 hP hD hS => ?_)
        obtain ⟨t0__37, wd__37, we__37, fp__37, nu__37, na__37, rd__37, ts__37, freadFree__37, freadPrice__37, freadSingle__37, er_37⟩ := u
        replace hP : va_P D classes [(aI k (a 1) 3 (nF dn)), (aI k (a 2) 72 ffrees), (aI k (a 3) 72 fprices), (aI k (a 4) 27 (sg se tm gs)), ((a 0), .inr (8, (fX8 a (nI tx) fp__37 (nI t0__37) wd__37 (nI we__37) nu__37 na__37 (nI rd__37) ts__37 (nI ru) (nI rw) (nI ca) df db sd))), (aI k (a 5) 240 ftext), (aI k (a 14) 24 freadFree__37), (aI k (a 15) 24 freadPrice__37), (aI k (a 16) 9 freadSingle__37)] H := hP
        replace hD : va_D A [(aI k (a 1) 3 (nF dn)), (aI k (a 2) 72 ffrees), (aI k (a 3) 72 fprices), (aI k (a 4) 27 (sg se tm gs)), ((a 0), .inr (8, (fX8 a (nI tx) fp__37 (nI t0__37) wd__37 (nI we__37) nu__37 na__37 (nI rd__37) ts__37 (nI ru) (nI rw) (nI ca) df db sd))), (aI k (a 5) 240 ftext), (aI k (a 14) 24 freadFree__37), (aI k (a 15) 24 freadPrice__37), (aI k (a 16) 9 freadSingle__37)] := hD
        try dsimp only at hw_37
        obtain ⟨rfl, hw_37⟩ := hw_37
        refine lv_istore_n (lv' := [(2, .int (nI er_37)), (0, .ref (a 0)), (1, .int (nI sn))]) hx hb dX8_street_47 rfl hl (by decide) rfl (fun ls hl => ?_)
        refine lv_goto (tgt := 32) hx hb dX8_street_48 (by decide) ?_
        exact ih_3 _ (er_37, t0__37, wd__37, we__37, fp__37, nu__37, na__37, rd__37, ts__37, freadFree__37, freadPrice__37, freadSingle__37) _ _ _ (by rw [if_pos (show fl_3 = 0 by omega)]; split <;> omega) ⟨rfl, ⟨by omega, by omega, by omega, hw_37.2.2.2.2.2⟩, (hP.sub [5, 6, 7, 0, 1, 2, 3, 4, 8] rfl), (hD.sub [5, 6, 7, 0, 1, 2, 3, 4, 8] (by decide) rfl), hS, (lv_sub hl [0, 1, 2] rfl)⟩
  · refine lv_if_ne (tgt := 16) hx hb dX8_street_9 (by decide) (fun h => absurd (by decide) h) (fun _ => ?_)
    refine lv_sipush (v := (-1001)) hx hb dX8_street_12 (by decide) ?_
    have hP9 := hP.sub (ws' := [((a 0), .inr (8, (fX8 a (nI tx) fp (nI t0) wd (nI we) nu na (nI rd) ts (nI ru) (nI rw) (nI ca) df db sd))), (aI k (a 5) 240 ftext), (aI k (a 14) 24 freadFree), (aI k (a 15) 24 freadPrice), (aI k (a 16) 9 freadSingle), (aI k (a 1) 3 (nF dn)), (aI k (a 2) 72 ffrees), (aI k (a 3) 72 fprices), (aI k (a 4) 27 (sg se tm gs))]) [0, 1, 2, 3, 4, 5, 6, 7, 8] rfl
    have hD9 := hD.sub (ws' := [((a 0), .inr (8, (fX8 a (nI tx) fp (nI t0) wd (nI we) nu na (nI rd) ts (nI ru) (nI rw) (nI ca) df db sd))), (aI k (a 5) 240 ftext), (aI k (a 14) 24 freadFree), (aI k (a 15) 24 freadPrice), (aI k (a 16) 9 freadSingle), (aI k (a 1) 3 (nF dn)), (aI k (a 2) 72 ffrees), (aI k (a 3) 72 fprices), (aI k (a 4) 27 (sg se tm gs))]) [0, 1, 2, 3, 4, 5, 6, 7, 8] (by decide) rfl
    exact W.iret (v := (-1001)) hx hb hr (fun t ht hW => ⟨⟨(-1001), (t0, wd, we, fp, nu, na, rd, ts, tx, freadFree, freadPrice, freadSingle, dn, ffrees, fprices, se, tm, gs), rfl, ⟨by omega, hdn, hse, htm⟩, by rw [ht]; exact hP9, hD9⟩, hS.F ht⟩) hS.2.2 dX8_street_15


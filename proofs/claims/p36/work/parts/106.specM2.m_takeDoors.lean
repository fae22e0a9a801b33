theorem dX8_takeDoors_0 : decode cX8_takeDoors 0 = .ok (.aload_n 0, 1) := by decide +kernel
theorem dX8_takeDoors_1 : decode cX8_takeDoors 1 = .ok (.iconst 1, 1) := by decide +kernel
theorem dX8_takeDoors_2 : decode cX8_takeDoors 2 = .ok (.bipush 24, 2) := by decide +kernel
theorem dX8_takeDoors_4 : decode cX8_takeDoors 4 = .ok (.invokevirtual 183, 3) := by decide +kernel
theorem dX8_takeDoors_7 : decode cX8_takeDoors 7 = .ok (.istore_n 1, 1) := by decide +kernel
theorem dX8_takeDoors_8 : decode cX8_takeDoors 8 = .ok (.aload_n 0, 1) := by decide +kernel
theorem dX8_takeDoors_9 : decode cX8_takeDoors 9 = .ok (.getfield 163, 3) := by decide +kernel
theorem dX8_takeDoors_12 : decode cX8_takeDoors 12 = .ok (.istore_n 2, 1) := by decide +kernel
theorem dX8_takeDoors_13 : decode cX8_takeDoors 13 = .ok (.iload_n 1, 1) := by decide +kernel
theorem dX8_takeDoors_14 : decode cX8_takeDoors 14 = .ok (.ifCond .ne 24, 3) := by decide +kernel
theorem dX8_takeDoors_17 : decode cX8_takeDoors 17 = .ok (.aload_n 0, 1) := by decide +kernel
theorem dX8_takeDoors_18 : decode cX8_takeDoors 18 = .ok (.getfield 177, 3) := by decide +kernel
theorem dX8_takeDoors_21 : decode cX8_takeDoors 21 = .ok (.iload_n 2, 1) := by decide +kernel
theorem dX8_takeDoors_22 : decode cX8_takeDoors 22 = .ok (.iadd, 1) := by decide +kernel
theorem dX8_takeDoors_23 : decode cX8_takeDoors 23 = .ok (.bipush 24, 2) := by decide +kernel
theorem dX8_takeDoors_25 : decode cX8_takeDoors 25 = .ok (.if_icmp .le 13, 3) := by decide +kernel
theorem dX8_takeDoors_28 : decode cX8_takeDoors 28 = .ok (.aload_n 0, 1) := by decide +kernel
theorem dX8_takeDoors_29 : decode cX8_takeDoors 29 = .ok (.iconst 4, 1) := by decide +kernel
theorem dX8_takeDoors_30 : decode cX8_takeDoors 30 = .ok (.aload_n 0, 1) := by decide +kernel
theorem dX8_takeDoors_31 : decode cX8_takeDoors 31 = .ok (.getfield 170, 3) := by decide +kernel
theorem dX8_takeDoors_34 : decode cX8_takeDoors 34 = .ok (.invokevirtual 159, 3) := by decide +kernel
theorem dX8_takeDoors_37 : decode cX8_takeDoors 37 = .ok (.istore_n 1, 1) := by decide +kernel
theorem dX8_takeDoors_38 : decode cX8_takeDoors 38 = .ok (.iload_n 1, 1) := by decide +kernel
theorem dX8_takeDoors_39 : decode cX8_takeDoors 39 = .ok (.ifCond .le 7, 3) := by decide +kernel
theorem dX8_takeDoors_42 : decode cX8_takeDoors 42 = .ok (.iload_n 1, 1) := by decide +kernel
theorem dX8_takeDoors_43 : decode cX8_takeDoors 43 = .ok (.goto 21, 3) := by decide +kernel
theorem dX8_takeDoors_46 : decode cX8_takeDoors 46 = .ok (.aload_n 0, 1) := by decide +kernel
theorem dX8_takeDoors_47 : decode cX8_takeDoors 47 = .ok (.bipush 102, 2) := by decide +kernel
theorem dX8_takeDoors_49 : decode cX8_takeDoors 49 = .ok (.bipush 114, 2) := by decide +kernel
theorem dX8_takeDoors_51 : decode cX8_takeDoors 51 = .ok (.bipush 101, 2) := by decide +kernel
theorem dX8_takeDoors_53 : decode cX8_takeDoors 53 = .ok (.invokestatic 148, 3) := by decide +kernel
theorem dX8_takeDoors_56 : decode cX8_takeDoors 56 = .ok (.bipush 101, 2) := by decide +kernel
theorem dX8_takeDoors_58 : decode cX8_takeDoors 58 = .ok (.invokestatic 144, 3) := by decide +kernel
theorem dX8_takeDoors_61 : decode cX8_takeDoors 61 = .ok (.invokevirtual 186, 3) := by decide +kernel
theorem dX8_takeDoors_64 : decode cX8_takeDoors 64 = .ok (.istore_n 1, 1) := by decide +kernel
theorem dX8_takeDoors_65 : decode cX8_takeDoors 65 = .ok (.iload_n 1, 1) := by decide +kernel
theorem dX8_takeDoors_66 : decode cX8_takeDoors 66 = .ok (.ifCond .le 7, 3) := by decide +kernel
theorem dX8_takeDoors_69 : decode cX8_takeDoors 69 = .ok (.iload_n 1, 1) := by decide +kernel
theorem dX8_takeDoors_70 : decode cX8_takeDoors 70 = .ok (.goto 10, 3) := by decide +kernel
theorem dX8_takeDoors_73 : decode cX8_takeDoors 73 = .ok (.aload_n 0, 1) := by decide +kernel
theorem dX8_takeDoors_74 : decode cX8_takeDoors 74 = .ok (.iconst 0, 1) := by decide +kernel
theorem dX8_takeDoors_75 : decode cX8_takeDoors 75 = .ok (.bipush 100, 2) := by decide +kernel
theorem dX8_takeDoors_77 : decode cX8_takeDoors 77 = .ok (.invokevirtual 183, 3) := by decide +kernel
theorem dX8_takeDoors_80 : decode cX8_takeDoors 80 = .ok (.istore_n 1, 1) := by decide +kernel
theorem dX8_takeDoors_81 : decode cX8_takeDoors 81 = .ok (.aload_n 0, 1) := by decide +kernel
theorem dX8_takeDoors_82 : decode cX8_takeDoors 82 = .ok (.getfield 163, 3) := by decide +kernel
theorem dX8_takeDoors_85 : decode cX8_takeDoors 85 = .ok (.istore_n 3, 1) := by decide +kernel
theorem dX8_takeDoors_86 : decode cX8_takeDoors 86 = .ok (.iload_n 1, 1) := by decide +kernel
theorem dX8_takeDoors_87 : decode cX8_takeDoors 87 = .ok (.ifCond .le 7, 3) := by decide +kernel
theorem dX8_takeDoors_90 : decode cX8_takeDoors 90 = .ok (.iload_n 1, 1) := by decide +kernel
theorem dX8_takeDoors_91 : decode cX8_takeDoors 91 = .ok (.goto 23, 3) := by decide +kernel
theorem dX8_takeDoors_94 : decode cX8_takeDoors 94 = .ok (.aload_n 0, 1) := by decide +kernel
theorem dX8_takeDoors_95 : decode cX8_takeDoors 95 = .ok (.bipush 112, 2) := by decide +kernel
theorem dX8_takeDoors_97 : decode cX8_takeDoors 97 = .ok (.bipush 114, 2) := by decide +kernel
theorem dX8_takeDoors_99 : decode cX8_takeDoors 99 = .ok (.bipush 105, 2) := by decide +kernel
theorem dX8_takeDoors_101 : decode cX8_takeDoors 101 = .ok (.invokestatic 148, 3) := by decide +kernel
theorem dX8_takeDoors_104 : decode cX8_takeDoors 104 = .ok (.bipush 99, 2) := by decide +kernel
theorem dX8_takeDoors_106 : decode cX8_takeDoors 106 = .ok (.bipush 101, 2) := by decide +kernel
theorem dX8_takeDoors_108 : decode cX8_takeDoors 108 = .ok (.invokestatic 152, 3) := by decide +kernel
theorem dX8_takeDoors_111 : decode cX8_takeDoors 111 = .ok (.invokevirtual 186, 3) := by decide +kernel
theorem dX8_takeDoors_114 : decode cX8_takeDoors 114 = .ok (.istore_n 1, 1) := by decide +kernel
theorem dX8_takeDoors_115 : decode cX8_takeDoors 115 = .ok (.iload_n 1, 1) := by decide +kernel
theorem dX8_takeDoors_116 : decode cX8_takeDoors 116 = .ok (.ifCond .le 7, 3) := by decide +kernel
theorem dX8_takeDoors_119 : decode cX8_takeDoors 119 = .ok (.iload_n 1, 1) := by decide +kernel
theorem dX8_takeDoors_120 : decode cX8_takeDoors 120 = .ok (.goto 11, 3) := by decide +kernel
theorem dX8_takeDoors_123 : decode cX8_takeDoors 123 = .ok (.aload_n 0, 1) := by decide +kernel
theorem dX8_takeDoors_124 : decode cX8_takeDoors 124 = .ok (.iconst 0, 1) := by decide +kernel
theorem dX8_takeDoors_125 : decode cX8_takeDoors 125 = .ok (.sipush 999, 3) := by decide +kernel
theorem dX8_takeDoors_128 : decode cX8_takeDoors 128 = .ok (.invokevirtual 183, 3) := by decide +kernel
theorem dX8_takeDoors_131 : decode cX8_takeDoors 131 = .ok (.istore_n 1, 1) := by decide +kernel
theorem dX8_takeDoors_132 : decode cX8_takeDoors 132 = .ok (.iconst 0, 1) := by decide +kernel
theorem dX8_takeDoors_133 : decode cX8_takeDoors 133 = .ok (.istore 4, 2) := by decide +kernel
theorem dX8_takeDoors_135 : decode cX8_takeDoors 135 = .ok (.iload 4, 2) := by decide +kernel
theorem dX8_takeDoors_137 : decode cX8_takeDoors 137 = .ok (.iload_n 2, 1) := by decide +kernel
theorem dX8_takeDoors_138 : decode cX8_takeDoors 138 = .ok (.if_icmp .ge 46, 3) := by decide +kernel
theorem dX8_takeDoors_141 : decode cX8_takeDoors 141 = .ok (.iload_n 1, 1) := by decide +kernel
theorem dX8_takeDoors_142 : decode cX8_takeDoors 142 = .ok (.ifCond .ne 42, 3) := by decide +kernel
theorem dX8_takeDoors_145 : decode cX8_takeDoors 145 = .ok (.aload_n 0, 1) := by decide +kernel
theorem dX8_takeDoors_146 : decode cX8_takeDoors 146 = .ok (.getfield 29, 3) := by decide +kernel
theorem dX8_takeDoors_149 : decode cX8_takeDoors 149 = .ok (.aload_n 0, 1) := by decide +kernel
theorem dX8_takeDoors_150 : decode cX8_takeDoors 150 = .ok (.getfield 177, 3) := by decide +kernel
theorem dX8_takeDoors_153 : decode cX8_takeDoors 153 = .ok (.iload_n 3, 1) := by decide +kernel
theorem dX8_takeDoors_154 : decode cX8_takeDoors 154 = .ok (.iastore, 1) := by decide +kernel
theorem dX8_takeDoors_155 : decode cX8_takeDoors 155 = .ok (.aload_n 0, 1) := by decide +kernel
theorem dX8_takeDoors_156 : decode cX8_takeDoors 156 = .ok (.getfield 32, 3) := by decide +kernel
theorem dX8_takeDoors_159 : decode cX8_takeDoors 159 = .ok (.aload_n 0, 1) := by decide +kernel
theorem dX8_takeDoors_160 : decode cX8_takeDoors 160 = .ok (.getfield 177, 3) := by decide +kernel
theorem dX8_takeDoors_163 : decode cX8_takeDoors 163 = .ok (.aload_n 0, 1) := by decide +kernel
theorem dX8_takeDoors_164 : decode cX8_takeDoors 164 = .ok (.getfield 163, 3) := by decide +kernel
theorem dX8_takeDoors_167 : decode cX8_takeDoors 167 = .ok (.iastore, 1) := by decide +kernel
theorem dX8_takeDoors_168 : decode cX8_takeDoors 168 = .ok (.aload_n 0, 1) := by decide +kernel
theorem dX8_takeDoors_169 : decode cX8_takeDoors 169 = .ok (.dup, 1) := by decide +kernel
theorem dX8_takeDoors_170 : decode cX8_takeDoors 170 = .ok (.getfield 177, 3) := by decide +kernel
theorem dX8_takeDoors_173 : decode cX8_takeDoors 173 = .ok (.iconst 1, 1) := by decide +kernel
theorem dX8_takeDoors_174 : decode cX8_takeDoors 174 = .ok (.iadd, 1) := by decide +kernel
theorem dX8_takeDoors_175 : decode cX8_takeDoors 175 = .ok (.putfield 177, 3) := by decide +kernel
theorem dX8_takeDoors_178 : decode cX8_takeDoors 178 = .ok (.iinc 4 1, 3) := by decide +kernel
theorem dX8_takeDoors_181 : decode cX8_takeDoors 181 = .ok (.goto (-46), 3) := by decide +kernel
theorem dX8_takeDoors_184 : decode cX8_takeDoors 184 = .ok (.iload_n 1, 1) := by decide +kernel
theorem dX8_takeDoors_185 : decode cX8_takeDoors 185 = .ok (.ireturn, 1) := by decide +kernel
set_option maxHeartbeats 4000000 in
set_option maxRecDepth 100000 in
theorem m_takeDoors (l : Launch) (D : va_G) (k : Nat → ClassId) (st : Nat → Nat) (lo : Nat) (a : Nat → Nat) (tx : Nat) (t0 : Nat) (we : Nat) (rd : Nat) (ru : Nat) (rw : Nat) (ca : Nat) (fp : Int32) (wd : Int64) (nu : Int32) (na : Int32) (ts : Int32) (df : Int32) (db : Int32) (sd : Int32) (ftext : Nat → Int32) (freadFree : Nat → Int32) (freadPrice : Nat → Int32) (ht : t0 ≤ tx) (htx : tx ≤ 240) (hrd : rd ≤ 24) : CWi l D k st lo yX8_takeDoors cX8_takeDoors 5 (some .int) ({ frames := 3, cells := 0, slots := 0, locals := 74 }) 0 0 [.ref (a 0)] [((a 0), .inr (8, (fX8 a (nI tx) fp (nI t0) wd (nI we) nu na (nI rd) ts (nI ru) (nI rw) (nI ca) df db sd))), (aI k (a 5) 240 ftext), (aI k (a 14) 24 freadFree), (aI k (a 15) 24 freadPrice)] (fun (r : Int32) (u : Nat × Int64 × Nat × Int32 × Int32 × Int32 × Nat × (Nat → Int32) × (Nat → Int32) × Nat) => match u with | (t0_, wd_, we_, fp_, nu_, na_, rd_, freadFree_, freadPrice_, er) => r = nI er ∧ er ≤ 4 ∧ t0 ≤ t0_ ∧ t0_ ≤ tx ∧ rd_ ≤ 24) (fun (u : Nat × Int64 × Nat × Int32 × Int32 × Int32 × Nat × (Nat → Int32) × (Nat → Int32) × Nat) => match u with | (t0_, wd_, we_, fp_, nu_, na_, rd_, freadFree_, freadPrice_, er) => [((a 0), .inr (8, (fX8 a (nI tx) fp_ (nI t0_) wd_ (nI we_) nu_ na_ (nI rd_) ts (nI ru) (nI rw) (nI ca) df db sd))), (aI k (a 5) 240 ftext), (aI k (a 14) 24 freadFree_), (aI k (a 15) 24 freadPrice_)]) := by
  intro sz
  refine Met.ofW (cc := cX8_takeDoors) (maxL := 5) (ret := (some .int)) (by decide) rfl ?_
  intro p e s m args below meth c s₁ B hml hv
  obtain ⟨rfl, hsz, hlo, hP, hK, hDL, hZ⟩ := hv
  have hx := B.exec
  have hb := B.bytes
  have hr := B.returns
  have hts := WS_ts B.pre
  have hown : s.vm.findClass RX8 = some m.cls := findClass_of_methodNamed B.named
  have hlocks := B.notSynchronized
  subst hsz
  have hD := hDL.self (sz := s.heap.size)
  have hAlo := A_lo hDL hlo
  generalize hAe : va_A [((a 0), .inr (8, (fX8 a (nI tx) fp (nI t0) wd (nI we) nu na (nI rd) ts (nI ru) (nI rw) (nI ca) df db sd))), (aI k (a 5) 240 ftext), (aI k (a 14) 24 freadFree), (aI k (a 15) 24 freadPrice)] s.heap.size = A at hD hAlo ⊢
  have hA : ∀ q : Nat, s.heap.size ≤ q → A q := fun q h => by rw [← hAe]; exact Or.inr h
  have hS : va_S A s.heap s.heap [] := va_S.rf
  have hl := lv_entry ([.ref (a 0)]) (n := 5) (Nat.le_of_ble_eq_true rfl)
  rw [lg_entry_eq]
  generalize (lg_sl ([.ref (a 0)]) ++ List.replicate (5 - (lg_sl ([.ref (a 0)])).length) Slot.unset).toArray = ls at hl ⊢
  have hl : lv_has ls 5 [(0, .ref (a 0))] := hl
  refine lv_aload_n hx hb dX8_takeDoors_0 rfl (lv_at hl 0 rfl) ?_
  refine lv_iconst (v := 1) hx hb dX8_takeDoors_1 (by decide) ?_
  refine lv_bipush (v := 24) hx hb dX8_takeDoors_2 (by decide) ?_
  refine rw_i (D := D) (wr := [(aI k (a 14) 24 freadFree), (aI k (a 15) 24 freadPrice)]) (va_runV (As := [.int 1, .int 24]) (rest := []) ⟨hx, hb, hml, hown, hts⟩ ((m_takeNumber l D k st lo a tx t0 we rd ru rw ca fp wd nu na ts df db sd ftext 1 24 (by omega) (by omega)) s.heap.size) (cwV 2 hts (gV tw_1159 tw_1161 tw_33 tw_87 tw_1162) rfl rfl rfl (by decide +kernel) ⟨Nat.le_of_ble_eq_true rfl, Nat.le_of_ble_eq_true rfl⟩) (pV hS hAlo hlo hP hK (va_Dlo hD hAlo) hZ [0, 1] (by decide) rfl (ci := 8) (q := (RX8, TX8, 44)) (q0 := 0) rfl rfl) rfl rfl hl.1 rfl (lv_room (Nat.le_of_ble_eq_true rfl)) dX8_takeDoors_4 ⟨Nat.le_of_ble_eq_true rfl, Nat.le_of_ble_eq_true rfl⟩) hS hA hP hD [0, 1] [2, 3] rfl rfl (by decide) (by decide) (fun r_1 u H locs hw_1 hP hD hS => ?_)
  obtain ⟨t0__1, nu__1, na__1, fp__1, er_1⟩ := u
  replace hP : va_P D classes [(aI k (a 14) 24 freadFree), (aI k (a 15) 24 freadPrice), ((a 0), .inr (8, (fX8 a (nI tx) fp__1 (nI t0__1) wd (nI we) nu__1 na__1 (nI rd) ts (nI ru) (nI rw) (nI ca) df db sd))), (aI k (a 5) 240 ftext)] H := hP
  replace hD : va_D A [(aI k (a 14) 24 freadFree), (aI k (a 15) 24 freadPrice), ((a 0), .inr (8, (fX8 a (nI tx) fp__1 (nI t0__1) wd (nI we) nu__1 na__1 (nI rd) ts (nI ru) (nI rw) (nI ca) df db sd))), (aI k (a 5) 240 ftext)] := hD
  try dsimp only at hw_1
  obtain ⟨rfl, hw_1⟩ := hw_1
  refine lv_istore_n (lv' := [(1, .int (nI er_1)), (0, .ref (a 0))]) hx hb dX8_takeDoors_7 rfl hl (by decide) rfl (fun ls hl => ?_)
  refine lv_aload_n hx hb dX8_takeDoors_8 rfl (lv_at hl 1 rfl) ?_
  refine va_get (D := D) (ci := 8) (v := .int nu__1) (C := RX8) (T := TX8) (N := 44) hx hb hts inX8 hown hK hP 2 rfl rfl 10 (by decide) (hts _ tw_983) (fun _ h9 => h9) rfl dX8_takeDoors_9 ?_
  refine lv_istore_n (lv' := [(2, .int nu__1), (1, .int (nI er_1)), (0, .ref (a 0))]) hx hb dX8_takeDoors_12 rfl hl (by decide) rfl (fun ls hl => ?_)
  refine lv_iload_n hx hb dX8_takeDoors_13 rfl (lv_at hl 1 rfl) ?_
  refine lv_if_ne (tgt := 38) hx hb dX8_takeDoors_14 (by decide) (fun c_2 => ?_) (fun c_2 => ?_)
  · have c_2 : ¬ (er_1 = 0) := fun h => c_2 ((nI_eq (a := er_1) (b := 0) (by omega) (by omega)).mpr h)
    refine lv_iload_n hx hb dX8_takeDoors_38 rfl (lv_at hl 1 rfl) ?_
    refine lv_if_le (tgt := 46) hx hb dX8_takeDoors_39 (by decide) (fun h => absurd ((nI_leI (a := er_1) (b := 0) (by omega) (by omega)).mp h) (by omega)) (fun _ => ?_)
    refine lv_iload_n hx hb dX8_takeDoors_42 rfl (lv_at hl 1 rfl) ?_
    refine lv_goto (tgt := 64) hx hb dX8_takeDoors_43 (by decide) ?_
    refine lv_istore_n (lv' := [(1, .int (nI er_1)), (2, .int nu__1), (0, .ref (a 0))]) hx hb dX8_takeDoors_64 rfl hl (by decide) rfl (fun ls hl => ?_)
    refine lv_iload_n hx hb dX8_takeDoors_65 rfl (lv_at hl 0 rfl) ?_
    refine lv_if_le (tgt := 73) hx hb dX8_takeDoors_66 (by decide) (fun h => absurd ((nI_leI (a := er_1) (b := 0) (by omega) (by omega)).mp h) (by omega)) (fun _ => ?_)
    refine lv_iload_n hx hb dX8_takeDoors_69 rfl (lv_at hl 0 rfl) ?_
    refine lv_goto (tgt := 80) hx hb dX8_takeDoors_70 (by decide) ?_
    refine lv_istore_n (lv' := [(1, .int (nI er_1)), (2, .int nu__1), (0, .ref (a 0))]) hx hb dX8_takeDoors_80 rfl hl (by decide) rfl (fun ls hl => ?_)
    refine lv_aload_n hx hb dX8_takeDoors_81 rfl (lv_at hl 2 rfl) ?_
    refine va_get (D := D) (ci := 8) (v := .int nu__1) (C := RX8) (T := TX8) (N := 44) hx hb hts inX8 hown hK hP 2 rfl rfl 10 (by decide) (hts _ tw_983) (fun _ h9 => h9) rfl dX8_takeDoors_82 ?_
    refine lv_istore_n (lv' := [(3, .int nu__1), (1, .int (nI er_1)), (2, .int nu__1), (0, .ref (a 0))]) hx hb dX8_takeDoors_85 rfl hl (by decide) rfl (fun ls hl => ?_)
    refine lv_iload_n hx hb dX8_takeDoors_86 rfl (lv_at hl 1 rfl) ?_
    refine lv_if_le (tgt := 94) hx hb dX8_takeDoors_87 (by decide) (fun h => absurd ((nI_leI (a := er_1) (b := 0) (by omega) (by omega)).mp h) (by omega)) (fun _ => ?_)
    refine lv_iload_n hx hb dX8_takeDoors_90 rfl (lv_at hl 1 rfl) ?_
    refine lv_goto (tgt := 114) hx hb dX8_takeDoors_91 (by decide) ?_
    refine lv_istore_n (lv' := [(1, .int (nI er_1)), (3, .int nu__1), (2, .int nu__1), (0, .ref (a 0))]) hx hb dX8_takeDoors_114 rfl hl (by decide) rfl (fun ls hl => ?_)
    refine lv_iload_n hx hb dX8_takeDoors_115 rfl (lv_at hl 0 rfl) ?_
    refine lv_if_le (tgt := 123) hx hb dX8_takeDoors_116 (by decide) (fun h => absurd ((nI_leI (a := er_1) (b := 0) (by omega) (by omega)).mp h) (by omega)) (fun _ => ?_)
    refine lv_iload_n hx hb dX8_takeDoors_119 rfl (lv_at hl 0 rfl) ?_
    refine lv_goto (tgt := 131) hx hb dX8_takeDoors_120 (by decide) ?_
    refine lv_istore_n (lv' := [(1, .int (nI er_1)), (3, .int nu__1), (2, .int nu__1), (0, .ref (a 0))]) hx hb dX8_takeDoors_131 rfl hl (by decide) rfl (fun ls hl => ?_)
    refine lv_iconst (v := 0) hx hb dX8_takeDoors_132 (by decide) ?_
    refine lv_istore (lv' := [(4, .int 0), (1, .int (nI er_1)), (3, .int nu__1), (2, .int nu__1), (0, .ref (a 0))]) hx hb dX8_takeDoors_133 hl (by decide) rfl (fun ls hl => ?_)
    refine lv_iload hx hb dX8_takeDoors_135 (lv_at hl 0 rfl) ?_
    refine lv_iload_n hx hb dX8_takeDoors_137 rfl (lv_at hl 3 rfl) ?_
    refine lv_icmp_ge (tgt := 184) hx hb dX8_takeDoors_138 (by decide) (fun c_7 => ?_) (fun c_7 => ?_)
    · refine lv_iload_n hx hb dX8_takeDoors_184 rfl (lv_at hl 1 rfl) ?_
      have hP9 := hP.sub (ws' := [((a 0), .inr (8, (fX8 a (nI tx) fp__1 (nI t0__1) wd (nI we) nu__1 na__1 (nI rd) ts (nI ru) (nI rw) (nI ca) df db sd))), (aI k (a 5) 240 ftext), (aI k (a 14) 24 freadFree), (aI k (a 15) 24 freadPrice)]) [2, 3, 0, 1] rfl
      have hD9 := hD.sub (ws' := [((a 0), .inr (8, (fX8 a (nI tx) fp__1 (nI t0__1) wd (nI we) nu__1 na__1 (nI rd) ts (nI ru) (nI rw) (nI ca) df db sd))), (aI k (a 5) 240 ftext), (aI k (a 14) 24 freadFree), (aI k (a 15) 24 freadPrice)]) [2, 3, 0, 1] (by decide) rfl
      exact W.iret (v := (nI er_1)) hx hb hr (fun t ht hW => ⟨⟨(nI er_1), (t0__1, wd, we, fp__1, nu__1, na__1, rd, freadFree, freadPrice, er_1), rfl, ⟨rfl, by omega, by omega, by omega, by omega⟩, by rw [ht]; exact hP9, hD9⟩, hS.F ht⟩) hS.2.2 dX8_takeDoors_185
    · refine lv_iload_n hx hb dX8_takeDoors_141 rfl (lv_at hl 1 rfl) ?_
      refine lv_if_ne (tgt := 184) hx hb dX8_takeDoors_142 (by decide) (fun _ => ?_) (fun h => absurd ((nI_eq (a := er_1) (b := 0) (by omega) (by omega)).mp h) (by omega))
      refine lv_iload_n hx hb dX8_takeDoors_184 rfl (lv_at hl 1 rfl) ?_
      have hP9 := hP.sub (ws' := [((a 0), .inr (8, (fX8 a (nI tx) fp__1 (nI t0__1) wd (nI we) nu__1 na__1 (nI rd) ts (nI ru) (nI rw) (nI ca) df db sd))), (aI k (a 5) 240 ftext), (aI k (a 14) 24 freadFree), (aI k (a 15) 24 freadPrice)]) [2, 3, 0, 1] rfl
      have hD9 := hD.sub (ws' := [((a 0), .inr (8, (fX8 a (nI tx) fp__1 (nI t0__1) wd (nI we) nu__1 na__1 (nI rd) ts (nI ru) (nI rw) (nI ca) df db sd))), (aI k (a 5) 240 ftext), (aI k (a 14) 24 freadFree), (aI k (a 15) 24 freadPrice)]) [2, 3, 0, 1] (by decide) rfl
      exact W.iret (v := (nI er_1)) hx hb hr (fun t ht hW => ⟨⟨(nI er_1), (t0__1, wd, we, fp__1, nu__1, na__1, rd, freadFree, freadPrice, er_1), rfl, ⟨rfl, by omega, by omega, by omega, by omega⟩, by rw [ht]; exact hP9, hD9⟩, hS.F ht⟩) hS.2.2 dX8_takeDoors_185
  · have c_2 := (nI_eq (a := er_1) (b := 0) (by omega) (by omega)).mp c_2
    obtain ⟨mn_9, hmn_9, hmx_9, rfl⟩ := inB_ofc (a := 1) (b := 24) (by omega) (by omega) (hw_1.2.2.2.2 (by omega))
    refine lv_aload_n hx hb dX8_takeDoors_17 rfl (lv_at hl 2 rfl) ?_
    refine va_get (D := D) (ci := 8) (v := .int (nI rd)) (C := RX8) (T := TX8) (N := 44) hx hb hts inX8 hown hK hP 2 rfl rfl 12 (by decide) (hts _ tw_985) (fun _ h9 => h9) rfl dX8_takeDoors_18 ?_
    refine lv_iload_n hx hb dX8_takeDoors_21 rfl (lv_at hl 0 rfl) ?_
    refine lv_iadd hx hb dX8_takeDoors_22 ?_
    refine lv_ti (y := (nI (rd + mn_9))) (nI_add rd mn_9) ?_
    refine lv_bipush (v := 24) hx hb dX8_takeDoors_23 (by decide) ?_
    refine lv_icmp_le (tgt := 38) hx hb dX8_takeDoors_25 (by decide) (fun c_10 => ?_) (fun c_10 => ?_)
    · have c_10 := (nI_leI (a := (rd + mn_9)) (b := 24) (by omega) (by omega)).mp c_10
      refine lv_iload_n hx hb dX8_takeDoors_38 rfl (lv_at hl 1 rfl) ?_
      refine lv_if_le (tgt := 46) hx hb dX8_takeDoors_39 (by decide) (fun _ => ?_) (fun h => absurd ((nI_leI (a := er_1) (b := 0) (by omega) (by omega)).mpr (by omega)) h)
      refine lv_aload_n hx hb dX8_takeDoors_46 rfl (lv_at hl 2 rfl) ?_
      refine lv_bipush (v := 102) hx hb dX8_takeDoors_47 (by decide) ?_
      refine lv_bipush (v := 114) hx hb dX8_takeDoors_49 (by decide) ?_
      refine lv_bipush (v := 101) hx hb dX8_takeDoors_51 (by decide) ?_
      refine ro_l (D := D) (va_runS (As := [.int 102, .int 114, .int 101]) (rest := [.ref (a 0)]) ⟨hx, hb, hml, hown, hts⟩ ((m_code l D k st lo 102 114 101) H.size) (va_cwS 3 hts (gS tw_1142 tw_1143 tw_87 tw_1144) rfl rfl rfl (by decide +kernel) ⟨Nat.le_of_ble_eq_true rfl, Nat.le_of_ble_eq_true rfl⟩) (pS hS hAlo hlo hP hK (va_Dlo hD hAlo) hZ [] (by decide) rfl) rfl rfl hl.1 rfl (lv_room (Nat.le_of_ble_eq_true rfl)) dX8_takeDoors_53 ⟨Nat.le_of_ble_eq_true rfl, Nat.le_of_ble_eq_true rfl⟩) hS hA hP (fun r_12 H locs hw_12 hP hS => ?_)
      try dsimp only at hw_12
      refine lv_bipush (v := 101) hx hb dX8_takeDoors_56 (by decide) ?_
      refine ro_l (D := D) (va_runS (As := [.long r_12, .int 101]) (rest := [.ref (a 0)]) ⟨hx, hb, hml, hown, hts⟩ ((m_longer l D k st lo r_12 101) H.size) (va_cwS 2 hts (gS tw_1148 tw_1149 tw_87 tw_1150) rfl rfl rfl (by decide +kernel) ⟨Nat.le_of_ble_eq_true rfl, Nat.le_of_ble_eq_true rfl⟩) (pS hS hAlo hlo hP hK (va_Dlo hD hAlo) hZ [] (by decide) rfl) rfl rfl hl.1 rfl (lv_room (Nat.le_of_ble_eq_true rfl)) dX8_takeDoors_58 ⟨Nat.le_of_ble_eq_true rfl, Nat.le_of_ble_eq_true rfl⟩) hS hA hP (fun r_13 H locs hw_13 hP hS => ?_)
      try dsimp only at hw_13
      refine rw_i (D := D) (wr := [(aI k (a 14) 24 freadFree), (aI k (a 15) 24 freadPrice)]) (va_runV (As := [.long r_13]) (rest := []) ⟨hx, hb, hml, hown, hts⟩ ((m_needs l D k st lo a tx t0__1 we rd ru rw ca fp__1 wd (nI mn_9) na__1 ts df db sd ftext r_13 (by omega) (by omega)) H.size) (cwV 1 hts (gV tw_1169 tw_1171 tw_35 tw_87 tw_1172) rfl rfl rfl (by decide +kernel) ⟨Nat.le_of_ble_eq_true rfl, Nat.le_of_ble_eq_true rfl⟩) (pV hS hAlo hlo hP hK (va_Dlo hD hAlo) hZ [2, 3] (by decide) rfl (ci := 8) (q := (RX8, TX8, 44)) (q0 := 0) rfl rfl) rfl rfl hl.1 rfl (lv_room (Nat.le_of_ble_eq_true rfl)) dX8_takeDoors_61 ⟨Nat.le_of_ble_eq_true rfl, Nat.le_of_ble_eq_true rfl⟩) hS hA hP hD [2, 3] [0, 1] rfl rfl (by decide) (by decide) (fun r_14 u H locs hw_14 hP hD hS => ?_)
      obtain ⟨t0__14, wd__14, we__14, fp__14, er_14⟩ := u
      replace hP : va_P D classes [(aI k (a 14) 24 freadFree), (aI k (a 15) 24 freadPrice), ((a 0), .inr (8, (fX8 a (nI tx) fp__14 (nI t0__14) wd__14 (nI we__14) (nI mn_9) na__1 (nI rd) ts (nI ru) (nI rw) (nI ca) df db sd))), (aI k (a 5) 240 ftext)] H := hP
      replace hD : va_D A [(aI k (a 14) 24 freadFree), (aI k (a 15) 24 freadPrice), ((a 0), .inr (8, (fX8 a (nI tx) fp__14 (nI t0__14) wd__14 (nI we__14) (nI mn_9) na__1 (nI rd) ts (nI ru) (nI rw) (nI ca) df db sd))), (aI k (a 5) 240 ftext)] := hD
      try dsimp only at hw_14
      obtain ⟨rfl, hw_14⟩ := hw_14
      refine lv_istore_n (lv' := [(1, .int (nI er_14)), (2, .int (nI mn_9)), (0, .ref (a 0))]) hx hb dX8_takeDoors_64 rfl hl (by decide) rfl (fun ls hl => ?_)
      refine lv_iload_n hx hb dX8_takeDoors_65 rfl (lv_at hl 0 rfl) ?_
      refine lv_if_le (tgt := 73) hx hb dX8_takeDoors_66 (by decide) (fun c_15 => ?_) (fun c_15 => ?_)
      · have c_15 := (nI_leI (a := er_14) (b := 0) (by omega) (by omega)).mp c_15
        refine lv_aload_n hx hb dX8_takeDoors_73 rfl (lv_at hl 2 rfl) ?_
        refine lv_iconst (v := 0) hx hb dX8_takeDoors_74 (by decide) ?_
        refine lv_bipush (v := 100) hx hb dX8_takeDoors_75 (by decide) ?_
        refine rw_i (D := D) (wr := [(aI k (a 14) 24 freadFree), (aI k (a 15) 24 freadPrice)]) (va_runV (As := [.int 0, .int 100]) (rest := []) ⟨hx, hb, hml, hown, hts⟩ ((m_takeNumber l D k st lo a tx t0__14 we__14 rd ru rw ca fp__14 wd__14 (nI mn_9) na__1 ts df db sd ftext 0 100 (by omega) (by omega)) H.size) (cwV 2 hts (gV tw_1159 tw_1161 tw_33 tw_87 tw_1162) rfl rfl rfl (by decide +kernel) ⟨Nat.le_of_ble_eq_true rfl, Nat.le_of_ble_eq_true rfl⟩) (pV hS hAlo hlo hP hK (va_Dlo hD hAlo) hZ [2, 3] (by decide) rfl (ci := 8) (q := (RX8, TX8, 44)) (q0 := 0) rfl rfl) rfl rfl hl.1 rfl (lv_room (Nat.le_of_ble_eq_true rfl)) dX8_takeDoors_77 ⟨Nat.le_of_ble_eq_true rfl, Nat.le_of_ble_eq_true rfl⟩) hS hA hP hD [2, 3] [0, 1] rfl rfl (by decide) (by decide) (fun r_16 u H locs hw_16 hP hD hS => ?_)
        obtain ⟨t0__16, nu__16, na__16, fp__16, er_16⟩ := u
        replace hP : va_P D classes [(aI k (a 14) 24 freadFree), (aI k (a 15) 24 freadPrice), ((a 0), .inr (8, (fX8 a (nI tx) fp__16 (nI t0__16) wd__14 (nI we__14) nu__16 na__16 (nI rd) ts (nI ru) (nI rw) (nI ca) df db sd))), (aI k (a 5) 240 ftext)] H := hP
        replace hD : va_D A [(aI k (a 14) 24 freadFree), (aI k (a 15) 24 freadPrice), ((a 0), .inr (8, (fX8 a (nI tx) fp__16 (nI t0__16) wd__14 (nI we__14) nu__16 na__16 (nI rd) ts (nI ru) (nI rw) (nI ca) df db sd))), (aI k (a 5) 240 ftext)] := hD
        try dsimp only at hw_16
        obtain ⟨rfl, hw_16⟩ := hw_16
        refine lv_istore_n (lv' := [(1, .int (nI er_16)), (2, .int (nI mn_9)), (0, .ref (a 0))]) hx hb dX8_takeDoors_80 rfl hl (by decide) rfl (fun ls hl => ?_)
        refine lv_aload_n hx hb dX8_takeDoors_81 rfl (lv_at hl 2 rfl) ?_
        refine va_get (D := D) (ci := 8) (v := .int nu__16) (C := RX8) (T := TX8) (N := 44) hx hb hts inX8 hown hK hP 2 rfl rfl 10 (by decide) (hts _ tw_983) (fun _ h9 => h9) rfl dX8_takeDoors_82 ?_
        refine lv_istore_n (lv' := [(3, .int nu__16), (1, .int (nI er_16)), (2, .int (nI mn_9)), (0, .ref (a 0))]) hx hb dX8_takeDoors_85 rfl hl (by decide) rfl (fun ls hl => ?_)
        refine lv_iload_n hx hb dX8_takeDoors_86 rfl (lv_at hl 1 rfl) ?_
        refine lv_if_le (tgt := 94) hx hb dX8_takeDoors_87 (by decide) (fun c_17 => ?_) (fun c_17 => ?_)
        · have c_17 := (nI_leI (a := er_16) (b := 0) (by omega) (by omega)).mp c_17
          refine lv_aload_n hx hb dX8_takeDoors_94 rfl (lv_at hl 3 rfl) ?_
          refine lv_bipush (v := 112) hx hb dX8_takeDoors_95 (by decide) ?_
          refine lv_bipush (v := 114) hx hb dX8_takeDoors_97 (by decide) ?_
          refine lv_bipush (v := 105) hx hb dX8_takeDoors_99 (by decide) ?_
          refine ro_l (D := D) (va_runS (As := [.int 112, .int 114, .int 105]) (rest := [.ref (a 0)]) ⟨hx, hb, hml, hown, hts⟩ ((m_code l D k st lo 112 114 105) H.size) (va_cwS 3 hts (gS tw_1142 tw_1143 tw_87 tw_1144) rfl rfl rfl (by decide +kernel) ⟨Nat.le_of_ble_eq_true rfl, Nat.le_of_ble_eq_true rfl⟩) (pS hS hAlo hlo hP hK (va_Dlo hD hAlo) hZ [] (by decide) rfl) rfl rfl hl.1 rfl (lv_room (Nat.le_of_ble_eq_true rfl)) dX8_takeDoors_101 ⟨Nat.le_of_ble_eq_true rfl, Nat.le_of_ble_eq_true rfl⟩) hS hA hP (fun r_18 H locs hw_18 hP hS => ?_)
          try dsimp only at hw_18
          refine lv_bipush (v := 99) hx hb dX8_takeDoors_104 (by decide) ?_
          refine lv_bipush (v := 101) hx hb dX8_takeDoors_106 (by decide) ?_
          refine ro_l (D := D) (va_runS (As := [.long r_18, .int 99, .int 101]) (rest := [.ref (a 0)]) ⟨hx, hb, hml, hown, hts⟩ ((m_longest l D k st lo r_18 99 101) H.size) (va_cwS 3 hts (gS tw_1145 tw_1146 tw_87 tw_1147) rfl rfl rfl (by decide +kernel) ⟨Nat.le_of_ble_eq_true rfl, Nat.le_of_ble_eq_true rfl⟩) (pS hS hAlo hlo hP hK (va_Dlo hD hAlo) hZ [] (by decide) rfl) rfl rfl hl.1 rfl (lv_room (Nat.le_of_ble_eq_true rfl)) dX8_takeDoors_108 ⟨Nat.le_of_ble_eq_true rfl, Nat.le_of_ble_eq_true rfl⟩) hS hA hP (fun r_19 H locs hw_19 hP hS => ?_)
          try dsimp only at hw_19
          refine rw_i (D := D) (wr := [(aI k (a 14) 24 freadFree), (aI k (a 15) 24 freadPrice)]) (va_runV (As := [.long r_19]) (rest := []) ⟨hx, hb, hml, hown, hts⟩ ((m_needs l D k st lo a tx t0__16 we__14 rd ru rw ca fp__16 wd__14 nu__16 na__16 ts df db sd ftext r_19 (by omega) (by omega)) H.size) (cwV 1 hts (gV tw_1169 tw_1171 tw_35 tw_87 tw_1172) rfl rfl rfl (by decide +kernel) ⟨Nat.le_of_ble_eq_true rfl, Nat.le_of_ble_eq_true rfl⟩) (pV hS hAlo hlo hP hK (va_Dlo hD hAlo) hZ [2, 3] (by decide) rfl (ci := 8) (q := (RX8, TX8, 44)) (q0 := 0) rfl rfl) rfl rfl hl.1 rfl (lv_room (Nat.le_of_ble_eq_true rfl)) dX8_takeDoors_111 ⟨Nat.le_of_ble_eq_true rfl, Nat.le_of_ble_eq_true rfl⟩) hS hA hP hD [2, 3] [0, 1] rfl rfl (by decide) (by decide) (fun r_20 u H locs hw_20 hP hD hS => ?_)
          obtain ⟨t0__20, wd__20, we__20, fp__20, er_20⟩ := u
          replace hP : va_P D classes [(aI k (a 14) 24 freadFree), (aI k (a 15) 24 freadPrice), ((a 0), .inr (8, (fX8 a (nI tx) fp__20 (nI t0__20) wd__20 (nI we__20) nu__16 na__16 (nI rd) ts (nI ru) (nI rw) (nI ca) df db sd))), (aI k (a 5) 240 ftext)] H := hP
          replace hD : va_D A [(aI k (a 14) 24 freadFree), (aI k (a 15) 24 freadPrice), ((a 0), .inr (8, (fX8 a (nI tx) fp__20 (nI t0__20) wd__20 (nI we__20) nu__16 na__16 (nI rd) ts (nI ru) (nI rw) (nI ca) df db sd))), (aI k (a 5) 240 ftext)] := hD
          try dsimp only at hw_20
          obtain ⟨rfl, hw_20⟩ := hw_20
          refine lv_istore_n (lv' := [(1, .int (nI er_20)), (3, .int nu__16), (2, .int (nI mn_9)), (0, .ref (a 0))]) hx hb dX8_takeDoors_114 rfl hl (by decide) rfl (fun ls hl => ?_)
          refine lv_iload_n hx hb dX8_takeDoors_115 rfl (lv_at hl 0 rfl) ?_
          refine lv_if_le (tgt := 123) hx hb dX8_takeDoors_116 (by decide) (fun c_21 => ?_) (fun c_21 => ?_)
          · have c_21 := (nI_leI (a := er_20) (b := 0) (by omega) (by omega)).mp c_21
            refine lv_aload_n hx hb dX8_takeDoors_123 rfl (lv_at hl 3 rfl) ?_
            refine lv_iconst (v := 0) hx hb dX8_takeDoors_124 (by decide) ?_
            refine lv_sipush (v := 999) hx hb dX8_takeDoors_125 (by decide) ?_
            refine rw_i (D := D) (wr := [(aI k (a 14) 24 freadFree), (aI k (a 15) 24 freadPrice)]) (va_runV (As := [.int 0, .int 999]) (rest := []) ⟨hx, hb, hml, hown, hts⟩ ((m_takeNumber l D k st lo a tx t0__20 we__20 rd ru rw ca fp__20 wd__20 nu__16 na__16 ts df db sd ftext 0 999 (by omega) (by omega)) H.size) (cwV 2 hts (gV tw_1159 tw_1161 tw_33 tw_87 tw_1162) rfl rfl rfl (by decide +kernel) ⟨Nat.le_of_ble_eq_true rfl, Nat.le_of_ble_eq_true rfl⟩) (pV hS hAlo hlo hP hK (va_Dlo hD hAlo) hZ [2, 3] (by decide) rfl (ci := 8) (q := (RX8, TX8, 44)) (q0 := 0) rfl rfl) rfl rfl hl.1 rfl (lv_room (Nat.le_of_ble_eq_true rfl)) dX8_takeDoors_128 ⟨Nat.le_of_ble_eq_true rfl, Nat.le_of_ble_eq_true rfl⟩) hS hA hP hD [2, 3] [0, 1] rfl rfl (by decide) (by decide) (fun r_22 u H locs hw_22 hP hD hS => ?_)
            obtain ⟨t0__22, nu__22, na__22, fp__22, er_22⟩ := u
            replace hP : va_P D classes [(aI k (a 14) 24 freadFree), (aI k (a 15) 24 freadPrice), ((a 0), .inr (8, (fX8 a (nI tx) fp__22 (nI t0__22) wd__20 (nI we__20) nu__22 na__22 (nI rd) ts (nI ru) (nI rw) (nI ca) df db sd))), (aI k (a 5) 240 ftext)] H := hP
            replace hD : va_D A [(aI k (a 14) 24 freadFree), (aI k (a 15) 24 freadPrice), ((a 0), .inr (8, (fX8 a (nI tx) fp__22 (nI t0__22) wd__20 (nI we__20) nu__22 na__22 (nI rd) ts (nI ru) (nI rw) (nI ca) df db sd))), (aI k (a 5) 240 ftext)] := hD
            try dsimp only at hw_22
            obtain ⟨rfl, hw_22⟩ := hw_22
            refine lv_istore_n (lv' := [(1, .int (nI er_22)), (3, .int nu__16), (2, .int (nI mn_9)), (0, .ref (a 0))]) hx hb dX8_takeDoors_131 rfl hl (by decide) rfl (fun ls hl => ?_)
            refine lv_iconst (v := 0) hx hb dX8_takeDoors_132 (by decide) ?_
            refine lv_istore (lv' := [(4, .int 0), (1, .int (nI er_22)), (3, .int nu__16), (2, .int (nI mn_9)), (0, .ref (a 0))]) hx hb dX8_takeDoors_133 hl (by decide) rfl (fun ls hl => ?_)
            refine lv_iload hx hb dX8_takeDoors_135 (lv_at hl 0 rfl) ?_
            refine lv_iload_n hx hb dX8_takeDoors_137 rfl (lv_at hl 3 rfl) ?_
            refine lv_icmp_ge (tgt := 184) hx hb dX8_takeDoors_138 (by decide) (fun c_23 => ?_) (fun c_23 => ?_)
            · have c_23 := (nI_leI (a := mn_9) (b := 0) (by omega) (by omega)).mp c_23
              refine lv_iload_n hx hb dX8_takeDoors_184 rfl (lv_at hl 1 rfl) ?_
              have hP9 := hP.sub (ws' := [((a 0), .inr (8, (fX8 a (nI tx) fp__22 (nI t0__22) wd__20 (nI we__20) nu__22 na__22 (nI rd) ts (nI ru) (nI rw) (nI ca) df db sd))), (aI k (a 5) 240 ftext), (aI k (a 14) 24 freadFree), (aI k (a 15) 24 freadPrice)]) [2, 3, 0, 1] rfl
              have hD9 := hD.sub (ws' := [((a 0), .inr (8, (fX8 a (nI tx) fp__22 (nI t0__22) wd__20 (nI we__20) nu__22 na__22 (nI rd) ts (nI ru) (nI rw) (nI ca) df db sd))), (aI k (a 5) 240 ftext), (aI k (a 14) 24 freadFree), (aI k (a 15) 24 freadPrice)]) [2, 3, 0, 1] (by decide) rfl
              exact W.iret (v := (nI er_22)) hx hb hr (fun t ht hW => ⟨⟨(nI er_22), (t0__22, wd__20, we__20, fp__22, nu__22, na__22, rd, freadFree, freadPrice, er_22), rfl, ⟨rfl, by omega, by omega, by omega, by omega⟩, by rw [ht]; exact hP9, hD9⟩, hS.F ht⟩) hS.2.2 dX8_takeDoors_185
            · have c_23 : ¬ (mn_9 ≤ 0) := fun h => c_23 ((nI_leI (a := mn_9) (b := 0) (by omega) (by omega)).mpr h)
              refine lv_iload_n hx hb dX8_takeDoors_141 rfl (lv_at hl 1 rfl) ?_
              refine lv_if_ne (tgt := 184) hx hb dX8_takeDoors_142 (by decide) (fun c_24 => ?_) (fun c_24 => ?_)
              · have c_24 : ¬ (er_22 = 0) := fun h => c_24 ((nI_eq (a := er_22) (b := 0) (by omega) (by omega)).mpr h)
                refine lv_iload_n hx hb dX8_takeDoors_184 rfl (lv_at hl 1 rfl) ?_
                have hP9 := hP.sub (ws' := [((a 0), .inr (8, (fX8 a (nI tx) fp__22 (nI t0__22) wd__20 (nI we__20) nu__22 na__22 (nI rd) ts (nI ru) (nI rw) (nI ca) df db sd))), (aI k (a 5) 240 ftext), (aI k (a 14) 24 freadFree), (aI k (a 15) 24 freadPrice)]) [2, 3, 0, 1] rfl
                have hD9 := hD.sub (ws' := [((a 0), .inr (8, (fX8 a (nI tx) fp__22 (nI t0__22) wd__20 (nI we__20) nu__22 na__22 (nI rd) ts (nI ru) (nI rw) (nI ca) df db sd))), (aI k (a 5) 240 ftext), (aI k (a 14) 24 freadFree), (aI k (a 15) 24 freadPrice)]) [2, 3, 0, 1] (by decide) rfl
                exact W.iret (v := (nI er_22)) hx hb hr (fun t ht hW => ⟨⟨(nI er_22), (t0__22, wd__20, we__20, fp__22, nu__22, na__22, rd, freadFree, freadPrice, er_22), rfl, ⟨rfl, by omega, by omega, by omega, by omega⟩, by rw [ht]; exact hP9, hD9⟩, hS.F ht⟩) hS.2.2 dX8_takeDoors_185
              · have c_24 := (nI_eq (a := er_22) (b := 0) (by omega) (by omega)).mp c_24
                refine lv_aload_n hx hb dX8_takeDoors_145 rfl (lv_at hl 4 rfl) ?_
                refine va_get (D := D) (ci := 8) (v := .ref (a 14)) (C := RX8) (T := TX8) (N := 44) hx hb hts inX8 hown hK hP 2 rfl rfl 13 (by decide) (hts _ tw_986) (fun _ h9 => h9) rfl dX8_takeDoors_146 ?_
                refine lv_aload_n hx hb dX8_takeDoors_149 rfl (lv_at hl 4 rfl) ?_
                refine va_get (D := D) (ci := 8) (v := .int (nI rd)) (C := RX8) (T := TX8) (N := 44) hx hb hts inX8 hown hK hP 2 rfl rfl 12 (by decide) (hts _ tw_985) (fun _ h9 => h9) rfl dX8_takeDoors_150 ?_
                refine lv_iload_n hx hb dX8_takeDoors_153 rfl (lv_at hl 2 rfl) ?_
                refine va_iast hx hb hK hP hD hS 0 1 rfl rfl (vp_in_nI (by omega) (by decide)) dX8_takeDoors_154 (fun H locs hP hD hS => ?_)
                replace hP : va_P D classes [(aI k (a 14) 24 (upd freadFree (Int32.toNatClampNeg (nI rd)) nu__16)), (aI k (a 15) 24 freadPrice), ((a 0), .inr (8, (fX8 a (nI tx) fp__22 (nI t0__22) wd__20 (nI we__20) nu__22 na__22 (nI rd) ts (nI ru) (nI rw) (nI ca) df db sd))), (aI k (a 5) 240 ftext)] H := hP
                replace hD : va_D A [(aI k (a 14) 24 (upd freadFree (Int32.toNatClampNeg (nI rd)) nu__16)), (aI k (a 15) 24 freadPrice), ((a 0), .inr (8, (fX8 a (nI tx) fp__22 (nI t0__22) wd__20 (nI we__20) nu__22 na__22 (nI rd) ts (nI ru) (nI rw) (nI ca) df db sd))), (aI k (a 5) 240 ftext)] := hD
                generalize (upd freadFree (Int32.toNatClampNeg (nI rd)) nu__16) = f_25 at hP hD
                refine lv_aload_n hx hb dX8_takeDoors_155 rfl (lv_at hl 4 rfl) ?_
                refine va_get (D := D) (ci := 8) (v := .ref (a 15)) (C := RX8) (T := TX8) (N := 44) hx hb hts inX8 hown hK hP 2 rfl rfl 14 (by decide) (hts _ tw_987) (fun _ h9 => h9) rfl dX8_takeDoors_156 ?_
                refine lv_aload_n hx hb dX8_takeDoors_159 rfl (lv_at hl 4 rfl) ?_
                refine va_get (D := D) (ci := 8) (v := .int (nI rd)) (C := RX8) (T := TX8) (N := 44) hx hb hts inX8 hown hK hP 2 rfl rfl 12 (by decide) (hts _ tw_985) (fun _ h9 => h9) rfl dX8_takeDoors_160 ?_
                refine lv_aload_n hx hb dX8_takeDoors_163 rfl (lv_at hl 4 rfl) ?_
                refine va_get (D := D) (ci := 8) (v := .int nu__22) (C := RX8) (T := TX8) (N := 44) hx hb hts inX8 hown hK hP 2 rfl rfl 10 (by decide) (hts _ tw_983) (fun _ h9 => h9) rfl dX8_takeDoors_164 ?_
                refine va_iast hx hb hK hP hD hS 1 1 rfl rfl (vp_in_nI (by omega) (by decide)) dX8_takeDoors_167 (fun H locs hP hD hS => ?_)
                replace hP : va_P D classes [(aI k (a 14) 24 f_25), (aI k (a 15) 24 (upd freadPrice (Int32.toNatClampNeg (nI rd)) nu__22)), ((a 0), .inr (8, (fX8 a (nI tx) fp__22 (nI t0__22) wd__20 (nI we__20) nu__22 na__22 (nI rd) ts (nI ru) (nI rw) (nI ca) df db sd))), (aI k (a 5) 240 ftext)] H := hP
                replace hD : va_D A [(aI k (a 14) 24 f_25), (aI k (a 15) 24 (upd freadPrice (Int32.toNatClampNeg (nI rd)) nu__22)), ((a 0), .inr (8, (fX8 a (nI tx) fp__22 (nI t0__22) wd__20 (nI we__20) nu__22 na__22 (nI rd) ts (nI ru) (nI rw) (nI ca) df db sd))), (aI k (a 5) 240 ftext)] := hD
                generalize (upd freadPrice (Int32.toNatClampNeg (nI rd)) nu__22) = f_26 at hP hD
                refine lv_aload_n hx hb dX8_takeDoors_168 rfl (lv_at hl 4 rfl) ?_
                refine lv_dup hx hb dX8_takeDoors_169 rfl ?_
                refine va_get (D := D) (ci := 8) (v := .int (nI rd)) (C := RX8) (T := TX8) (N := 44) hx hb hts inX8 hown hK hP 2 rfl rfl 12 (by decide) (hts _ tw_985) (fun _ h9 => h9) rfl dX8_takeDoors_170 ?_
                refine lv_iconst (v := 1) hx hb dX8_takeDoors_173 (by decide) ?_
                refine lv_iadd hx hb dX8_takeDoors_174 ?_
                refine lv_ti (y := (nI (rd + 1))) (nI_add rd 1) ?_
                refine va_put (D := D) (ci := 8) (v := .int (nI (rd + 1))) (ty := .int) (C := RX8) (T := TX8) (N := 44) hx hb hts inX8 tyX8 tyX8_ok nmX8 hown hK hP hD hS 2 rfl rfl 12 (by decide) (hts _ tw_985) (fun _ h9 => h9) rfl (by decide +kernel) rfl rfl (Nat.le_of_ble_eq_true rfl) dX8_takeDoors_175 (fun H locs hP hD hS => ?_)
                replace hP : va_P D classes [(aI k (a 14) 24 f_25), (aI k (a 15) 24 f_26), ((a 0), .inr (8, (fX8 a (nI tx) fp__22 (nI t0__22) wd__20 (nI we__20) nu__22 na__22 (nI (rd + 1)) ts (nI ru) (nI rw) (nI ca) df db sd))), (aI k (a 5) 240 ftext)] H := hP
                replace hD : va_D A [(aI k (a 14) 24 f_25), (aI k (a 15) 24 f_26), ((a 0), .inr (8, (fX8 a (nI tx) fp__22 (nI t0__22) wd__20 (nI we__20) nu__22 na__22 (nI (rd + 1)) ts (nI ru) (nI rw) (nI ca) df db sd))), (aI k (a 5) 240 ftext)] := hD
                refine lv_iinc (v := 1) (lv' := [(4, .int 1), (1, .int (nI er_22)), (3, .int nu__16), (2, .int (nI mn_9)), (0, .ref (a 0))]) hx hb dX8_takeDoors_178 hl (k := 0) rfl (by decide) (by decide) rfl (fun ls hl => ?_)
                refine lv_goto (tgt := 135) hx hb dX8_takeDoors_181 (by decide) ?_
                refine W_loop (σ := Nat × Nat × (Nat → Int32) × (Nat → Int32)) (fun (n_ : Nat) (x_ : Nat × Nat × (Nat → Int32) × (Nat → Int32)) (H : Heap) (locs : List Loc) (ls : Array Slot) => match x_ with | (kk_27, rd2_27, fa_27, fb_27) => n_ = mn_9 - kk_27 ∧ (rd2_27 + (mn_9 - kk_27) ≤ 24 ∧ kk_27 ≤ mn_9) ∧ va_P D classes [(aI k (a 14) 24 fa_27), (aI k (a 15) 24 fb_27), ((a 0), .inr (8, (fX8 a (nI tx) fp__22 (nI t0__22) wd__20 (nI we__20) nu__22 na__22 (nI rd2_27) ts (nI ru) (nI rw) (nI ca) df db sd))), (aI k (a 5) 240 ftext)] H ∧ va_D A [(aI k (a 14) 24 fa_27), (aI k (a 15) 24 fb_27), ((a 0), .inr (8, (fX8 a (nI tx) fp__22 (nI t0__22) wd__20 (nI we__20) nu__22 na__22 (nI rd2_27) ts (nI ru) (nI rw) (nI ca) df db sd))), (aI k (a 5) 240 ftext)] ∧ va_S A s.heap H locs ∧ lv_has ls 5 [(4, .int (nI kk_27)), (1, .int (nI er_22)), (3, .int nu__16), (2, .int (nI mn_9)), (0, .ref (a 0))]) (fun n_27 x_27 H locs ls hI ih_27 => ?_) _ (1, rd + 1, f_25, f_26) ⟨rfl, ⟨by omega, by omega⟩, hP, hD, hS, (lv_sub hl [0, 1, 2, 3, 4] rfl)⟩
                obtain ⟨kk_27, rd2_27, fa_27, fb_27⟩ := x_27
                obtain ⟨hm_27, hv_27, hP, hD, hS, hl⟩ := hI
                subst hm_27
                refine lv_iload hx hb dX8_takeDoors_135 (lv_at hl 0 rfl) ?_
                refine lv_iload_n hx hb dX8_takeDoors_137 rfl (lv_at hl 3 rfl) ?_
                refine lv_icmp_ge (tgt := 184) hx hb dX8_takeDoors_138 (by decide) (fun c_28 => ?_) (fun c_28 => ?_)
                · have c_28 := (nI_leI (a := mn_9) (b := kk_27) (by omega) (by omega)).mp c_28
                  refine lv_iload_n hx hb dX8_takeDoors_184 rfl (lv_at hl 1 rfl) ?_
                  have hP9 := hP.sub (ws' := [((a 0), .inr (8, (fX8 a (nI tx) fp__22 (nI t0__22) wd__20 (nI we__20) nu__22 na__22 (nI rd2_27) ts (nI ru) (nI rw) (nI ca) df db sd))), (aI k (a 5) 240 ftext), (aI k (a 14) 24 fa_27), (aI k (a 15) 24 fb_27)]) [2, 3, 0, 1] rfl
                  have hD9 := hD.sub (ws' := [((a 0), .inr (8, (fX8 a (nI tx) fp__22 (nI t0__22) wd__20 (nI we__20) nu__22 na__22 (nI rd2_27) ts (nI ru) (nI rw) (nI ca) df db sd))), (aI k (a 5) 240 ftext), (aI k (a 14) 24 fa_27), (aI k (a 15) 24 fb_27)]) [2, 3, 0, 1] (by decide) rfl
                  exact W.iret (v := (nI er_22)) hx hb hr (fun t ht hW => ⟨⟨(nI er_22), (t0__22, wd__20, we__20, fp__22, nu__22, na__22, rd2_27, fa_27, fb_27, er_22), rfl, ⟨rfl, by omega, by omega, by omega, by omega⟩, by rw [ht]; exact hP9, hD9⟩, hS.F ht⟩) hS.2.2 dX8_takeDoors_185
                · have c_28 : ¬ (mn_9 ≤ kk_27) := fun h => c_28 ((nI_leI (a := mn_9) (b := kk_27) (by omega) (by omega)).mpr h)
                  refine lv_iload_n hx hb dX8_takeDoors_141 rfl (lv_at hl 1 rfl) ?_
                  refine lv_if_ne (tgt := 184) hx hb dX8_takeDoors_142 (by decide) (fun h => absurd ((nI_eq (a := er_22) (b := 0) (by omega) (by omega)).mpr (by omega)) h) (fun _ => ?_)
                  refine lv_aload_n hx hb dX8_takeDoors_145 rfl (lv_at hl 4 rfl) ?_
                  refine va_get (D := D) (ci := 8) (v := .ref (a 14)) (C := RX8) (T := TX8) (N := 44) hx hb hts inX8 hown hK hP 2 rfl rfl 13 (by decide) (hts _ tw_986) (fun _ h9 => h9) rfl dX8_takeDoors_146 ?_
                  refine lv_aload_n hx hb dX8_takeDoors_149 rfl (lv_at hl 4 rfl) ?_
                  refine va_get (D := D) (ci := 8) (v := .int (nI rd2_27)) (C := RX8) (T := TX8) (N := 44) hx hb hts inX8 hown hK hP 2 rfl rfl 12 (by decide) (hts _ tw_985) (fun _ h9 => h9) rfl dX8_takeDoors_150 ?_
                  refine lv_iload_n hx hb dX8_takeDoors_153 rfl (lv_at hl 2 rfl) ?_
                  refine va_iast hx hb hK hP hD hS 0 1 rfl rfl (vp_in_nI (by omega) (by decide)) dX8_takeDoors_154 (fun H locs hP hD hS => ?_)
                  replace hP : va_P D classes [(aI k (a 14) 24 (upd fa_27 (Int32.toNatClampNeg (nI rd2_27)) nu__16)), (aI k (a 15) 24 fb_27), ((a 0), .inr (8, (fX8 a (nI tx) fp__22 (nI t0__22) wd__20 (nI we__20) nu__22 na__22 (nI rd2_27) ts (nI ru) (nI rw) (nI ca) df db sd))), (aI k (a 5) 240 ftext)] H := hP
                  replace hD : va_D A [(aI k (a 14) 24 (upd fa_27 (Int32.toNatClampNeg (nI rd2_27)) nu__16)), (aI k (a 15) 24 fb_27), ((a 0), .inr (8, (fX8 a (nI tx) fp__22 (nI t0__22) wd__20 (nI we__20) nu__22 na__22 (nI rd2_27) ts (nI ru) (nI rw) (nI ca) df db sd))), (aI k (a 5) 240 ftext)] := hD
                  generalize (upd fa_27 (Int32.toNatClampNeg (nI rd2_27)) nu__16) = f_30 at hP hD
                  refine lv_aload_n hx hb dX8_takeDoors_155 rfl (lv_at hl 4 rfl) ?_
                  refine va_get (D := D) (ci := 8) (v := .ref (a 15)) (C := RX8) (T := TX8) (N := 44) hx hb hts inX8 hown hK hP 2 rfl rfl 14 (by decide) (hts _ tw_987) (fun _ h9 => h9) rfl dX8_takeDoors_156 ?_
                  refine lv_aload_n hx hb dX8_takeDoors_159 rfl (lv_at hl 4 rfl) ?_
                  refine va_get (D := D) (ci := 8) (v := .int (nI rd2_27)) (C := RX8) (T := TX8) (N := 44) hx hb hts inX8 hown hK hP 2 rfl rfl 12 (by decide) (hts _ tw_985) (fun _ h9 => h9) rfl dX8_takeDoors_160 ?_
                  refine lv_aload_n hx hb dX8_takeDoors_163 rfl (lv_at hl 4 rfl) ?_
                  refine va_get (D := D) (ci := 8) (v := .int nu__22) (C := RX8) (T := TX8) (N := 44) hx hb hts inX8 hown hK hP 2 rfl rfl 10 (by decide) (hts _ tw_983) (fun _ h9 => h9) rfl dX8_takeDoors_164 ?_
                  refine va_iast hx hb hK hP hD hS 1 1 rfl rfl (vp_in_nI (by omega) (by decide)) dX8_takeDoors_167 (fun H locs hP hD hS => ?_)
                  replace hP : va_P D classes [(aI k (a 14) 24 f_30), (aI k (a 15) 24 (upd fb_27 (Int32.toNatClampNeg (nI rd2_27)) nu__22)), ((a 0), .inr (8, (fX8 a (nI tx) fp__22 (nI t0__22) wd__20 (nI we__20) nu__22 na__22 (nI rd2_27) ts (nI ru) (nI rw) (nI ca) df db sd))), (aI k (a 5) 240 ftext)] H := hP
                  replace hD : va_D A [(aI k (a 14) 24 f_30), (aI k (a 15) 24 (upd fb_27 (Int32.toNatClampNeg (nI rd2_27)) nu__22)), ((a 0), .inr (8, (fX8 a (nI tx) fp__22 (nI t0__22) wd__20 (nI we__20) nu__22 na__22 (nI rd2_27) ts (nI ru) (nI rw) (nI ca) df db sd))), (aI k (a 5) 240 ftext)] := hD
                  generalize (upd fb_27 (Int32.toNatClampNeg (nI rd2_27)) nu__22) = f_31 at hP hD
                  refine lv_aload_n hx hb dX8_takeDoors_168 rfl (lv_at hl 4 rfl) ?_
                  refine lv_dup hx hb dX8_takeDoors_169 rfl ?_
                  refine va_get (D := D) (ci := 8) (v := .int (nI rd2_27)) (C := RX8) (T := TX8) (N := 44) hx hb hts inX8 hown hK hP 2 rfl rfl 12 (by decide) (hts _ tw_985) (fun _ h9 => h9) rfl dX8_takeDoors_170 ?_
                  refine lv_iconst (v := 1) hx hb dX8_takeDoors_173 (by decide) ?_
                  refine lv_iadd hx hb dX8_takeDoors_174 ?_
                  refine lv_ti (y := (nI (rd2_27 + 1))) (nI_add rd2_27 1) ?_
                  refine va_put (D := D) (ci := 8) (v := .int (nI (rd2_27 + 1))) (ty := .int) (C := RX8) (T := TX8) (N := 44) hx hb hts inX8 tyX8 tyX8_ok nmX8 hown hK hP hD hS 2 rfl rfl 12 (by decide) (hts _ tw_985) (fun _ h9 => h9) rfl (by decide +kernel) rfl rfl (Nat.le_of_ble_eq_true rfl) dX8_takeDoors_175 (fun H locs hP hD hS => ?_)
                  replace hP : va_P D classes [(aI k (a 14) 24 f_30), (aI k (a 15) 24 f_31), ((a 0), .inr (8, (fX8 a (nI tx) fp__22 (nI t0__22) wd__20 (nI we__20) nu__22 na__22 (nI (rd2_27 + 1)) ts (nI ru) (nI rw) (nI ca) df db sd))), (aI k (a 5) 240 ftext)] H := hP
                  replace hD : va_D A [(aI k (a 14) 24 f_30), (aI k (a 15) 24 f_31), ((a 0), .inr (8, (fX8 a (nI tx) fp__22 (nI t0__22) wd__20 (nI we__20) nu__22 na__22 (nI (rd2_27 + 1)) ts (nI ru) (nI rw) (nI ca) df db sd))), (aI k (a 5) 240 ftext)] := hD
                  refine lv_iinc (v := (nI (kk_27 + 1))) (lv' := [(4, .int (nI (kk_27 + 1))), (1, .int (nI er_22)), (3, .int nu__16), (2, .int (nI mn_9)), (0, .ref (a 0))]) hx hb dX8_takeDoors_178 hl (k := 0) rfl (nI_add kk_27 1) (by decide) rfl (fun ls hl => ?_)
                  refine lv_goto (tgt := 135) hx hb dX8_takeDoors_181 (by decide) ?_
                  exact ih_27 _ (kk_27 + 1, rd2_27 + 1, f_30, f_31) _ _ _ (by omega) ⟨rfl, ⟨by omega, by omega⟩, hP, hD, hS, (lv_sub hl [0, 1, 2, 3, 4] rfl)⟩
          · have c_21 : ¬ (er_20 ≤ 0) := fun h => c_21 ((nI_leI (a := er_20) (b := 0) (by omega) (by omega)).mpr h)
            refine lv_iload_n hx hb dX8_takeDoors_119 rfl (lv_at hl 0 rfl) ?_
            refine lv_goto (tgt := 131) hx hb dX8_takeDoors_120 (by decide) ?_
            refine lv_istore_n (lv' := [(1, .int (nI er_20)), (3, .int nu__16), (2, .int (nI mn_9)), (0, .ref (a 0))]) hx hb dX8_takeDoors_131 rfl hl (by decide) rfl (fun ls hl => ?_)
            refine lv_iconst (v := 0) hx hb dX8_takeDoors_132 (by decide) ?_
            refine lv_istore (lv' := [(4, .int 0), (1, .int (nI er_20)), (3, .int nu__16), (2, .int (nI mn_9)), (0, .ref (a 0))]) hx hb dX8_takeDoors_133 hl (by decide) rfl (fun ls hl => ?_)
            refine lv_iload hx hb dX8_takeDoors_135 (lv_at hl 0 rfl) ?_
            refine lv_iload_n hx hb dX8_takeDoors_137 rfl (lv_at hl 3 rfl) ?_
            refine lv_icmp_ge (tgt := 184) hx hb dX8_takeDoors_138 (by decide) (fun c_32 => ?_) (fun c_32 => ?_)
            · have c_32 := (nI_leI (a := mn_9) (b := 0) (by omega) (by omega)).mp c_32
              refine lv_iload_n hx hb dX8_takeDoors_184 rfl (lv_at hl 1 rfl) ?_
              have hP9 := hP.sub (ws' := [((a 0), .inr (8, (fX8 a (nI tx) fp__20 (nI t0__20) wd__20 (nI we__20) nu__16 na__16 (nI rd) ts (nI ru) (nI rw) (nI ca) df db sd))), (aI k (a 5) 240 ftext), (aI k (a 14) 24 freadFree), (aI k (a 15) 24 freadPrice)]) [2, 3, 0, 1] rfl
              have hD9 := hD.sub (ws' := [((a 0), .inr (8, (fX8 a (nI tx) fp__20 (nI t0__20) wd__20 (nI we__20) nu__16 na__16 (nI rd) ts (nI ru) (nI rw) (nI ca) df db sd))), (aI k (a 5) 240 ftext), (aI k (a 14) 24 freadFree), (aI k (a 15) 24 freadPrice)]) [2, 3, 0, 1] (by decide) rfl
              exact W.iret (v := (nI er_20)) hx hb hr (fun t ht hW => ⟨⟨(nI er_20), (t0__20, wd__20, we__20, fp__20, nu__16, na__16, rd, freadFree, freadPrice, er_20), rfl, ⟨rfl, by omega, by omega, by omega, by omega⟩, by rw [ht]; exact hP9, hD9⟩, hS.F ht⟩) hS.2.2 dX8_takeDoors_185
            · have c_32 : ¬ (mn_9 ≤ 0) := fun h => c_32 ((nI_leI (a := mn_9) (b := 0) (by omega) (by omega)).mpr h)
              refine lv_iload_n hx hb dX8_takeDoors_141 rfl (lv_at hl 1 rfl) ?_
              refine lv_if_ne (tgt := 184) hx hb dX8_takeDoors_142 (by decide) (fun _ => ?_) (fun h => absurd ((nI_eq (a := er_20) (b := 0) (by omega) (by omega)).mp h) (by omega))
              refine lv_iload_n hx hb dX8_takeDoors_184 rfl (lv_at hl 1 rfl) ?_
              have hP9 := hP.sub (ws' := [((a 0), .inr (8, (fX8 a (nI tx) fp__20 (nI t0__20) wd__20 (nI we__20) nu__16 na__16 (nI rd) ts (nI ru) (nI rw) (nI ca) df db sd))), (aI k (a 5) 240 ftext), (aI k (a 14) 24 freadFree), (aI k (a 15) 24 freadPrice)]) [2, 3, 0, 1] rfl
              have hD9 := hD.sub (ws' := [((a 0), .inr (8, (fX8 a (nI tx) fp__20 (nI t0__20) wd__20 (nI we__20) nu__16 na__16 (nI rd) ts (nI ru) (nI rw) (nI ca) df db sd))), (aI k (a 5) 240 ftext), (aI k (a 14) 24 freadFree), (aI k (a 15) 24 freadPrice)]) [2, 3, 0, 1] (by decide) rfl
              exact W.iret (v := (nI er_20)) hx hb hr (fun t ht hW => ⟨⟨(nI er_20), (t0__20, wd__20, we__20, fp__20, nu__16, na__16, rd, freadFree, freadPrice, er_20), rfl, ⟨rfl, by omega, by omega, by omega, by omega⟩, by rw [ht]; exact hP9, hD9⟩, hS.F ht⟩) hS.2.2 dX8_takeDoors_185
        · have c_17 : ¬ (er_16 ≤ 0) := fun h => c_17 ((nI_leI (a := er_16) (b := 0) (by omega) (by omega)).mpr h)
          refine lv_iload_n hx hb dX8_takeDoors_90 rfl (lv_at hl 1 rfl) ?_
          refine lv_goto (tgt := 114) hx hb dX8_takeDoors_91 (by decide) ?_
          refine lv_istore_n (lv' := [(1, .int (nI er_16)), (3, .int nu__16), (2, .int (nI mn_9)), (0, .ref (a 0))]) hx hb dX8_takeDoors_114 rfl hl (by decide) rfl (fun ls hl => ?_)
          refine lv_iload_n hx hb dX8_takeDoors_115 rfl (lv_at hl 0 rfl) ?_
          refine lv_if_le (tgt := 123) hx hb dX8_takeDoors_116 (by decide) (fun h => absurd ((nI_leI (a := er_16) (b := 0) (by omega) (by omega)).mp h) (by omega)) (fun _ => ?_)
          refine lv_iload_n hx hb dX8_takeDoors_119 rfl (lv_at hl 0 rfl) ?_
          refine lv_goto (tgt := 131) hx hb dX8_takeDoors_120 (by decide) ?_
          refine lv_istore_n (lv' := [(1, .int (nI er_16)), (3, .int nu__16), (2, .int (nI mn_9)), (0, .ref (a 0))]) hx hb dX8_takeDoors_131 rfl hl (by decide) rfl (fun ls hl => ?_)
          refine lv_iconst (v := 0) hx hb dX8_takeDoors_132 (by decide) ?_
          refine lv_istore (lv' := [(4, .int 0), (1, .int (nI er_16)), (3, .int nu__16), (2, .int (nI mn_9)), (0, .ref (a 0))]) hx hb dX8_takeDoors_133 hl (by decide) rfl (fun ls hl => ?_)
          refine lv_iload hx hb dX8_takeDoors_135 (lv_at hl 0 rfl) ?_
          refine lv_iload_n hx hb dX8_takeDoors_137 rfl (lv_at hl 3 rfl) ?_
          refine lv_icmp_ge (tgt := 184) hx hb dX8_takeDoors_138 (by decide) (fun c_35 => ?_) (fun c_35 => ?_)
          · have c_35 := (nI_leI (a := mn_9) (b := 0) (by omega) (by omega)).mp c_35
            refine lv_iload_n hx hb dX8_takeDoors_184 rfl (lv_at hl 1 rfl) ?_
            have hP9 := hP.sub (ws' := [((a 0), .inr (8, (fX8 a (nI tx) fp__16 (nI t0__16) wd__14 (nI we__14) nu__16 na__16 (nI rd) ts (nI ru) (nI rw) (nI ca) df db sd))), (aI k (a 5) 240 ftext), (aI k (a 14) 24 freadFree), (aI k (a 15) 24 freadPrice)]) [2, 3, 0, 1] rfl
            have hD9 := hD.sub (ws' := [((a 0), .inr (8, (fX8 a (nI tx) fp__16 (nI t0__16) wd__14 (nI we__14) nu__16 na__16 (nI rd) ts (nI ru) (nI rw) (nI ca) df db sd))), (aI k (a 5) 240 ftext), (aI k (a 14) 24 freadFree), (aI k (a 15) 24 freadPrice)]) [2, 3, 0, 1] (by decide) rfl
            exact W.iret (v := (nI er_16)) hx hb hr (fun t ht hW => ⟨⟨(nI er_16), (t0__16, wd__14, we__14, fp__16, nu__16, na__16, rd, freadFree, freadPrice, er_16), rfl, ⟨rfl, by omega, by omega, by omega, by omega⟩, by rw [ht]; exact hP9, hD9⟩, hS.F ht⟩) hS.2.2 dX8_takeDoors_185
          · have c_35 : ¬ (mn_9 ≤ 0) := fun h => c_35 ((nI_leI (a := mn_9) (b := 0) (by omega) (by omega)).mpr h)
            refine lv_iload_n hx hb dX8_takeDoors_141 rfl (lv_at hl 1 rfl) ?_
            refine lv_if_ne (tgt := 184) hx hb dX8_takeDoors_142 (by decide) (fun _ => ?_) (fun h => absurd ((nI_eq (a := er_16) (b := 0) (by omega) (by omega)).mp h) (by omega))
            refine lv_iload_n hx hb dX8_takeDoors_184 rfl (lv_at hl 1 rfl) ?_
            have hP9 := hP.sub (ws' := [((a 0), .inr (8, (fX8 a (nI tx) fp__16 (nI t0__16) wd__14 (nI we__14) nu__16 na__16 (nI rd) ts (nI ru) (nI rw) (nI ca) df db sd))), (aI k (a 5) 240 ftext), (aI k (a 14) 24 freadFree), (aI k (a 15) 24 freadPrice)]) [2, 3, 0, 1] rfl
            have hD9 := hD.sub (ws' := [((a 0), .inr (8, (fX8 a (nI tx) fp__16 (nI t0__16) wd__14 (nI we__14) nu__16 na__16 (nI rd) ts (nI ru) (nI rw) (nI ca) df db sd))), (aI k (a 5) 240 ftext), (aI k (a 14) 24 freadFree), (aI k (a 15) 24 freadPrice)]) [2, 3, 0, 1] (by decide) rfl
            exact W.iret (v := (nI er_16)) hx hb hr (fun t ht hW => ⟨⟨(nI er_16), (t0__16, wd__14, we__14, fp__16, nu__16, na__16, rd, freadFree, freadPrice, er_16), rfl, ⟨rfl, by omega, by omega, by omega, by omega⟩, by rw [ht]; exact hP9, hD9⟩, hS.F ht⟩) hS.2.2 dX8_takeDoors_185
      · have c_15 : ¬ (er_14 ≤ 0) := fun h => c_15 ((nI_leI (a := er_14) (b := 0) (by omega) (by omega)).mpr h)
        refine lv_iload_n hx hb dX8_takeDoors_69 rfl (lv_at hl 0 rfl) ?_
        refine lv_goto (tgt := 80) hx hb dX8_takeDoors_70 (by decide) ?_
        refine lv_istore_n (lv' := [(1, .int (nI er_14)), (2, .int (nI mn_9)), (0, .ref (a 0))]) hx hb dX8_takeDoors_80 rfl hl (by decide) rfl (fun ls hl => ?_)
        refine lv_aload_n hx hb dX8_takeDoors_81 rfl (lv_at hl 2 rfl) ?_
        refine va_get (D := D) (ci := 8) (v := .int (nI mn_9)) (C := RX8) (T := TX8) (N := 44) hx hb hts inX8 hown hK hP 2 rfl rfl 10 (by decide) (hts _ tw_983) (fun _ h9 => h9) rfl dX8_takeDoors_82 ?_
        refine lv_istore_n (lv' := [(3, .int (nI mn_9)), (1, .int (nI er_14)), (2, .int (nI mn_9)), (0, .ref (a 0))]) hx hb dX8_takeDoors_85 rfl hl (by decide) rfl (fun ls hl => ?_)
        refine lv_iload_n hx hb dX8_takeDoors_86 rfl (lv_at hl 1 rfl) ?_
        refine lv_if_le (tgt := 94) hx hb dX8_takeDoors_87 (by decide) (fun h => absurd ((nI_leI (a := er_14) (b := 0) (by omega) (by omega)).mp h) (by omega)) (fun _ => ?_)
        refine lv_iload_n hx hb dX8_takeDoors_90 rfl (lv_at hl 1 rfl) ?_
        refine lv_goto (tgt := 114) hx hb dX8_takeDoors_91 (by decide) ?_
        refine lv_istore_n (lv' := [(1, .int (nI er_14)), (3, .int (nI mn_9)), (2, .int (nI mn_9)), (0, .ref (a 0))]) hx hb dX8_takeDoors_114 rfl hl (by decide) rfl (fun ls hl => ?_)
        refine lv_iload_n hx hb dX8_takeDoors_115 rfl (lv_at hl 0 rfl) ?_
        refine lv_if_le (tgt := 123) hx hb dX8_takeDoors_116 (by decide) (fun h => absurd ((nI_leI (a := er_14) (b := 0) (by omega) (by omega)).mp h) (by omega)) (fun _ => ?_)
        refine lv_iload_n hx hb dX8_takeDoors_119 rfl (lv_at hl 0 rfl) ?_
        refine lv_goto (tgt := 131) hx hb dX8_takeDoors_120 (by decide) ?_
        refine lv_istore_n (lv' := [(1, .int (nI er_14)), (3, .int (nI mn_9)), (2, .int (nI mn_9)), (0, .ref (a 0))]) hx hb dX8_takeDoors_131 rfl hl (by decide) rfl (fun ls hl => ?_)
        refine lv_iconst (v := 0) hx hb dX8_takeDoors_132 (by decide) ?_
        refine lv_istore (lv' := [(4, .int 0), (1, .int (nI er_14)), (3, .int (nI mn_9)), (2, .int (nI mn_9)), (0, .ref (a 0))]) hx hb dX8_takeDoors_133 hl (by decide) rfl (fun ls hl => ?_)
        refine lv_iload hx hb dX8_takeDoors_135 (lv_at hl 0 rfl) ?_
        refine lv_iload_n hx hb dX8_takeDoors_137 rfl (lv_at hl 3 rfl) ?_
        refine lv_icmp_ge (tgt := 184) hx hb dX8_takeDoors_138 (by decide) (fun c_39 => ?_) (fun c_39 => ?_)
        · have c_39 := (nI_leI (a := mn_9) (b := 0) (by omega) (by omega)).mp c_39
          refine lv_iload_n hx hb dX8_takeDoors_184 rfl (lv_at hl 1 rfl) ?_
          have hP9 := hP.sub (ws' := [((a 0), .inr (8, (fX8 a (nI tx) fp__14 (nI t0__14) wd__14 (nI we__14) (nI mn_9) na__1 (nI rd) ts (nI ru) (nI rw) (nI ca) df db sd))), (aI k (a 5) 240 ftext), (aI k (a 14) 24 freadFree), (aI k (a 15) 24 freadPrice)]) [2, 3, 0, 1] rfl
          have hD9 := hD.sub (ws' := [((a 0), .inr (8, (fX8 a (nI tx) fp__14 (nI t0__14) wd__14 (nI we__14) (nI mn_9) na__1 (nI rd) ts (nI ru) (nI rw) (nI ca) df db sd))), (aI k (a 5) 240 ftext), (aI k (a 14) 24 freadFree), (aI k (a 15) 24 freadPrice)]) [2, 3, 0, 1] (by decide) rfl
          exact W.iret (v := (nI er_14)) hx hb hr (fun t ht hW => ⟨⟨(nI er_14), (t0__14, wd__14, we__14, fp__14, (nI mn_9), na__1, rd, freadFree, freadPrice, er_14), rfl, ⟨rfl, by omega, by omega, by omega, by omega⟩, by rw [ht]; exact hP9, hD9⟩, hS.F ht⟩) hS.2.2 dX8_takeDoors_185
        · have c_39 : ¬ (mn_9 ≤ 0) := fun h => c_39 ((nI_leI (a := mn_9) (b := 0) (by omega) (by omega)).mpr h)
          refine lv_iload_n hx hb dX8_takeDoors_141 rfl (lv_at hl 1 rfl) ?_
          refine lv_if_ne (tgt := 184) hx hb dX8_takeDoors_142 (by decide) (fun _ => ?_) (fun h => absurd ((nI_eq (a := er_14) (b := 0) (by omega) (by omega)).mp h) (by omega))
          refine lv_iload_n hx hb dX8_takeDoors_184 rfl (lv_at hl 1 rfl) ?_
          have hP9 := hP.sub (ws' := [((a 0), .inr (8, (fX8 a (nI tx) fp__14 (nI t0__14) wd__14 (nI we__14) (nI mn_9) na__1 (nI rd) ts (nI ru) (nI rw) (nI ca) df db sd))), (aI k (a 5) 240 ftext), (aI k (a 14) 24 freadFree), (aI k (a 15) 24 freadPrice)]) [2, 3, 0, 1] rfl
          have hD9 := hD.sub (ws' := [((a 0), .inr (8, (fX8 a (nI tx) fp__14 (nI t0__14) wd__14 (nI we__14) (nI mn_9) na__1 (nI rd) ts (nI ru) (nI rw) (nI ca) df db sd))), (aI k (a 5) 240 ftext), (aI k (a 14) 24 freadFree), (aI k (a 15) 24 freadPrice)]) [2, 3, 0, 1] (by decide) rfl
          exact W.iret (v := (nI er_14)) hx hb hr (fun t ht hW => ⟨⟨(nI er_14), (t0__14, wd__14, we__14, fp__14, (nI mn_9), na__1, rd, freadFree, freadPrice, er_14), rfl, ⟨rfl, by omega, by omega, by omega, by omega⟩, by rw [ht]; exact hP9, hD9⟩, hS.F ht⟩) hS.2.2 dX8_takeDoors_185
    · have c_10 : ¬ ((rd + mn_9) ≤ 24) := fun h => c_10 ((nI_leI (a := (rd + mn_9)) (b := 24) (by omega) (by omega)).mpr h)
      refine lv_aload_n hx hb dX8_takeDoors_28 rfl (lv_at hl 2 rfl) ?_
      refine lv_iconst (v := 4) hx hb dX8_takeDoors_29 (by decide) ?_
      refine lv_aload_n hx hb dX8_takeDoors_30 rfl (lv_at hl 2 rfl) ?_
      refine va_get (D := D) (ci := 8) (v := .int na__1) (C := RX8) (T := TX8) (N := 44) hx hb hts inX8 hown hK hP 2 rfl rfl 11 (by decide) (hts _ tw_984) (fun _ h9 => h9) rfl dX8_takeDoors_31 ?_
      refine rw_i (D := D) (wr := [(aI k (a 14) 24 freadFree), (aI k (a 15) 24 freadPrice), (aI k (a 5) 240 ftext)]) (va_runV (As := [.int 4, .int na__1]) (rest := []) ⟨hx, hb, hml, hown, hts⟩ ((m_fails l D k st lo a tx t0__1 we rd ru rw ca fp__1 wd (nI mn_9) na__1 ts df db sd 4 na__1) H.size) (cwV 2 hts (gV tw_1151 tw_1153 tw_31 tw_87 tw_1154) rfl rfl rfl (by decide +kernel) ⟨Nat.le_of_ble_eq_true rfl, Nat.le_of_ble_eq_true rfl⟩) (pV hS hAlo hlo hP hK (va_Dlo hD hAlo) hZ [2] (by decide) rfl (ci := 8) (q := (RX8, TX8, 44)) (q0 := 0) rfl rfl) rfl rfl hl.1 rfl (lv_room (Nat.le_of_ble_eq_true rfl)) dX8_takeDoors_34 ⟨Nat.le_of_ble_eq_true rfl, Nat.le_of_ble_eq_true rfl⟩) hS hA hP hD [2] [0, 1, 3] rfl rfl (by decide) (by decide) (fun r_41 u H locs hw_41 hP hD hS => ?_)
      obtain ⟨fp__41, rfl⟩ : ∃ z, z = u := ⟨_, rfl⟩
      replace hP : va_P D classes [(aI k (a 14) 24 freadFree), (aI k (a 15) 24 freadPrice), (aI k (a 5) 240 ftext), ((a 0), .inr (8, (fX8 a (nI tx) fp__41 (nI t0__1) wd (nI we) (nI mn_9) na__1 (nI rd) ts (nI ru) (nI rw) (nI ca) df db sd)))] H := hP
      replace hD : va_D A [(aI k (a 14) 24 freadFree), (aI k (a 15) 24 freadPrice), (aI k (a 5) 240 ftext), ((a 0), .inr (8, (fX8 a (nI tx) fp__41 (nI t0__1) wd (nI we) (nI mn_9) na__1 (nI rd) ts (nI ru) (nI rw) (nI ca) df db sd)))] := hD
      try dsimp only at hw_41
      subst hw_41
      refine lv_istore_n (lv' := [(1, .int 4), (2, .int (nI mn_9)), (0, .ref (a 0))]) hx hb dX8_takeDoors_37 rfl hl (by decide) rfl (fun ls hl => ?_)
      refine lv_iload_n hx hb dX8_takeDoors_38 rfl (lv_at hl 0 rfl) ?_
      refine lv_if_le (tgt := 46) hx hb dX8_takeDoors_39 (by decide) (fun h => absurd h (by decide)) (fun _ => ?_)
      refine lv_iload_n hx hb dX8_takeDoors_42 rfl (lv_at hl 0 rfl) ?_
      refine lv_goto (tgt := 64) hx hb dX8_takeDoors_43 (by decide) ?_
      refine lv_istore_n (lv' := [(1, .int 4), (2, .int (nI mn_9)), (0, .ref (a 0))]) hx hb dX8_takeDoors_64 rfl hl (by decide) rfl (fun ls hl => ?_)
      refine lv_iload_n hx hb dX8_takeDoors_65 rfl (lv_at hl 0 rfl) ?_
      refine lv_if_le (tgt := 73) hx hb dX8_takeDoors_66 (by decide) (fun h => absurd h (by decide)) (fun _ => ?_)
      refine lv_iload_n hx hb dX8_takeDoors_69 rfl (lv_at hl 0 rfl) ?_
      refine lv_goto (tgt := 80) hx hb dX8_takeDoors_70 (by decide) ?_
      refine lv_istore_n (lv' := [(1, .int 4), (2, .int (nI mn_9)), (0, .ref (a 0))]) hx hb dX8_takeDoors_80 rfl hl (by decide) rfl (fun ls hl => ?_)
      refine lv_aload_n hx hb dX8_takeDoors_81 rfl (lv_at hl 2 rfl) ?_
      refine va_get (D := D) (ci := 8) (v := .int (nI mn_9)) (C := RX8) (T := TX8) (N := 44) hx hb hts inX8 hown hK hP 3 rfl rfl 10 (by decide) (hts _ tw_983) (fun _ h9 => h9) rfl dX8_takeDoors_82 ?_
      refine lv_istore_n (lv' := [(3, .int (nI mn_9)), (1, .int 4), (2, .int (nI mn_9)), (0, .ref (a 0))]) hx hb dX8_takeDoors_85 rfl hl (by decide) rfl (fun ls hl => ?_)
      refine lv_iload_n hx hb dX8_takeDoors_86 rfl (lv_at hl 1 rfl) ?_
      refine lv_if_le (tgt := 94) hx hb dX8_takeDoors_87 (by decide) (fun h => absurd h (by decide)) (fun _ => ?_)
      refine lv_iload_n hx hb dX8_takeDoors_90 rfl (lv_at hl 1 rfl) ?_
      refine lv_goto (tgt := 114) hx hb dX8_takeDoors_91 (by decide) ?_
      refine lv_istore_n (lv' := [(1, .int 4), (3, .int (nI mn_9)), (2, .int (nI mn_9)), (0, .ref (a 0))]) hx hb dX8_takeDoors_114 rfl hl (by decide) rfl (fun ls hl => ?_)
      refine lv_iload_n hx hb dX8_takeDoors_115 rfl (lv_at hl 0 rfl) ?_
      refine lv_if_le (tgt := 123) hx hb dX8_takeDoors_116 (by decide) (fun h => absurd h (by decide)) (fun _ => ?_)
      refine lv_iload_n hx hb dX8_takeDoors_119 rfl (lv_at hl 0 rfl) ?_
      refine lv_goto (tgt := 131) hx hb dX8_takeDoors_120 (by decide) ?_
      refine lv_istore_n (lv' := [(1, .int 4), (3, .int (nI mn_9)), (2, .int (nI mn_9)), (0, .ref (a 0))]) hx hb dX8_takeDoors_131 rfl hl (by decide) rfl (fun ls hl => ?_)
      refine lv_iconst (v := 0) hx hb dX8_takeDoors_132 (by decide) ?_
      refine lv_istore (lv' := [(4, .int 0), (1, .int 4), (3, .int (nI mn_9)), (2, .int (nI mn_9)), (0, .ref (a 0))]) hx hb dX8_takeDoors_133 hl (by decide) rfl (fun ls hl => ?_)
      refine lv_iload hx hb dX8_takeDoors_135 (lv_at hl 0 rfl) ?_
      refine lv_iload_n hx hb dX8_takeDoors_137 rfl (lv_at hl 3 rfl) ?_
      refine lv_icmp_ge (tgt := 184) hx hb dX8_takeDoors_138 (by decide) (fun c_42 => ?_) (fun c_42 => ?_)
      · have c_42 := (nI_leI (a := mn_9) (b := 0) (by omega) (by omega)).mp c_42
        refine lv_iload_n hx hb dX8_takeDoors_184 rfl (lv_at hl 1 rfl) ?_
        have hP9 := hP.sub (ws' := [((a 0), .inr (8, (fX8 a (nI tx) fp__41 (nI t0__1) wd (nI we) (nI mn_9) na__1 (nI rd) ts (nI ru) (nI rw) (nI ca) df db sd))), (aI k (a 5) 240 ftext), (aI k (a 14) 24 freadFree), (aI k (a 15) 24 freadPrice)]) [3, 2, 0, 1] rfl
        have hD9 := hD.sub (ws' := [((a 0), .inr (8, (fX8 a (nI tx) fp__41 (nI t0__1) wd (nI we) (nI mn_9) na__1 (nI rd) ts (nI ru) (nI rw) (nI ca) df db sd))), (aI k (a 5) 240 ftext), (aI k (a 14) 24 freadFree), (aI k (a 15) 24 freadPrice)]) [3, 2, 0, 1] (by decide) rfl
        exact W.iret (v := 4) hx hb hr (fun t ht hW => ⟨⟨4, (t0__1, wd, we, fp__41, (nI mn_9), na__1, rd, freadFree, freadPrice, 4), rfl, ⟨rfl, by omega, by omega, by omega, by omega⟩, by rw [ht]; exact hP9, hD9⟩, hS.F ht⟩) hS.2.2 dX8_takeDoors_185
      · have c_42 : ¬ (mn_9 ≤ 0) := fun h => c_42 ((nI_leI (a := mn_9) (b := 0) (by omega) (by omega)).mpr h)
        refine lv_iload_n hx hb dX8_takeDoors_141 rfl (lv_at hl 1 rfl) ?_
        refine lv_if_ne (tgt := 184) hx hb dX8_takeDoors_142 (by decide) (fun _ => ?_) (fun h => absurd h (by decide))
        refine lv_iload_n hx hb dX8_takeDoors_184 rfl (lv_at hl 1 rfl) ?_
        have hP9 := hP.sub (ws' := [((a 0), .inr (8, (fX8 a (nI tx) fp__41 (nI t0__1) wd (nI we) (nI mn_9) na__1 (nI rd) ts (nI ru) (nI rw) (nI ca) df db sd))), (aI k (a 5) 240 ftext), (aI k (a 14) 24 freadFree), (aI k (a 15) 24 freadPrice)]) [3, 2, 0, 1] rfl
        have hD9 := hD.sub (ws' := [((a 0), .inr (8, (fX8 a (nI tx) fp__41 (nI t0__1) wd (nI we) (nI mn_9) na__1 (nI rd) ts (nI ru) (nI rw) (nI ca) df db sd))), (aI k (a 5) 240 ftext), (aI k (a 14) 24 freadFree), (aI k (a 15) 24 freadPrice)]) [3, 2, 0, 1] (by decide) rfl
        exact W.iret (v := 4) hx hb hr (fun t ht hW => ⟨⟨4, (t0__1, wd, we, fp__41, (nI mn_9), na__1, rd, freadFree, freadPrice, 4), rfl, ⟨rfl, by omega, by omega, by omega, by omega⟩, by rw [ht]; exact hP9, hD9⟩, hS.F ht⟩) hS.2.2 dX8_takeDoors_185


theorem m_glue6 : True := trivial
theorem sg_upd (se tm : Nat → Nat) (g : Nat → Int32) (i : Nat) (x : Int32) (h5 : i % 9 ≠ 5) (h7 : i % 9 ≠ 7) : upd (sg se tm g) i x = sg se tm (upd g i x) := by
  funext j
  unfold upd sg
  by_cases h : j = i
  · subst h
    simp [h5, h7]
  · simp [h]
theorem sg_upd5 (se tm : Nat → Nat) (g : Nat → Int32) (s a : Nat) : upd (sg se tm g) (9 * s + 5) (nI a) = sg (fun j => if j = s then a else se j) tm g := by
  funext j
  unfold upd sg
  by_cases h : j = 9 * s + 5
  · subst h
    simp only [if_true, if_pos (show (9 * s + 5) % 9 = 5 by omega), if_pos (show (9 * s + 5) / 9 = s by omega)]
  · rw [if_neg h]
    by_cases h5 : j % 9 = 5
    · rw [if_pos h5, if_pos h5]
      show nI (se (j / 9)) = nI (if j / 9 = s then a else se (j / 9))
      rw [if_neg (show ¬ j / 9 = s by omega)]
    · rw [if_neg h5, if_neg h5]
theorem sg_upd7 (se tm : Nat → Nat) (g : Nat → Int32) (s a : Nat) : upd (sg se tm g) (9 * s + 7) (nI a) = sg se (fun j => if j = s then a else tm j) g := by
  funext j
  unfold upd sg
  by_cases h : j = 9 * s + 7
  · subst h
    simp only [if_true, if_neg (show ¬ (9 * s + 7) % 9 = 5 by omega), if_pos (show (9 * s + 7) % 9 = 7 by omega), if_pos (show (9 * s + 7) / 9 = s by omega)]
  · rw [if_neg h]
    by_cases h5 : j % 9 = 5
    · rw [if_pos h5, if_pos h5]
    · rw [if_neg h5, if_neg h5]
      by_cases h7 : j % 9 = 7
      · rw [if_pos h7, if_pos h7]
        show nI (tm (j / 9)) = nI (if j / 9 = s then a else tm (j / 9))
        rw [if_neg (show ¬ j / 9 = s by omega)]
      · rw [if_neg h7, if_neg h7]
theorem up_le {d : Nat → Nat} {s a b : Nat} (h : ∀ j, d j ≤ b) (ha : a ≤ b) : ∀ j, (fun j => if j = s then a else d j) j ≤ b := by
  intro j
  show (if j = s then a else d j) ≤ b
  split
  · exact ha
  · exact h j

theorem dX8_takeSingle_0 : decode cX8_takeSingle 0 = .ok (.iload_n 1, 1) := by decide +kernel
theorem dX8_takeSingle_1 : decode cX8_takeSingle 1 = .ok (.ifCond .ne 22, 3) := by decide +kernel
theorem dX8_takeSingle_4 : decode cX8_takeSingle 4 = .ok (.aload_n 0, 1) := by decide +kernel
theorem dX8_takeSingle_5 : decode cX8_takeSingle 5 = .ok (.bipush 50, 2) := by decide +kernel
theorem dX8_takeSingle_7 : decode cX8_takeSingle 7 = .ok (.invokevirtual 190, 3) := by decide +kernel
theorem dX8_takeSingle_10 : decode cX8_takeSingle 10 = .ok (.istore_n 2, 1) := by decide +kernel
theorem dX8_takeSingle_11 : decode cX8_takeSingle 11 = .ok (.aload_n 0, 1) := by decide +kernel
theorem dX8_takeSingle_12 : decode cX8_takeSingle 12 = .ok (.getfield 35, 3) := by decide +kernel
theorem dX8_takeSingle_15 : decode cX8_takeSingle 15 = .ok (.iconst 0, 1) := by decide +kernel
theorem dX8_takeSingle_16 : decode cX8_takeSingle 16 = .ok (.aload_n 0, 1) := by decide +kernel
theorem dX8_takeSingle_17 : decode cX8_takeSingle 17 = .ok (.getfield 163, 3) := by decide +kernel
theorem dX8_takeSingle_20 : decode cX8_takeSingle 20 = .ok (.iastore, 1) := by decide +kernel
theorem dX8_takeSingle_21 : decode cX8_takeSingle 21 = .ok (.iload_n 2, 1) := by decide +kernel
theorem dX8_takeSingle_22 : decode cX8_takeSingle 22 = .ok (.ireturn, 1) := by decide +kernel
theorem dX8_takeSingle_23 : decode cX8_takeSingle 23 = .ok (.iload_n 1, 1) := by decide +kernel
theorem dX8_takeSingle_24 : decode cX8_takeSingle 24 = .ok (.iconst 4, 1) := by decide +kernel
theorem dX8_takeSingle_25 : decode cX8_takeSingle 25 = .ok (.if_icmp .ne 9, 3) := by decide +kernel
theorem dX8_takeSingle_28 : decode cX8_takeSingle 28 = .ok (.sipush 200, 3) := by decide +kernel
theorem dX8_takeSingle_31 : decode cX8_takeSingle 31 = .ok (.goto 37, 3) := by decide +kernel
theorem dX8_takeSingle_34 : decode cX8_takeSingle 34 = .ok (.iload_n 1, 1) := by decide +kernel
theorem dX8_takeSingle_35 : decode cX8_takeSingle 35 = .ok (.iconst 5, 1) := by decide +kernel
theorem dX8_takeSingle_36 : decode cX8_takeSingle 36 = .ok (.if_icmp .ne 7, 3) := by decide +kernel
theorem dX8_takeSingle_39 : decode cX8_takeSingle 39 = .ok (.iconst 2, 1) := by decide +kernel
theorem dX8_takeSingle_40 : decode cX8_takeSingle 40 = .ok (.goto 28, 3) := by decide +kernel
theorem dX8_takeSingle_43 : decode cX8_takeSingle 43 = .ok (.iload_n 1, 1) := by decide +kernel
theorem dX8_takeSingle_44 : decode cX8_takeSingle 44 = .ok (.bipush 6, 2) := by decide +kernel
theorem dX8_takeSingle_46 : decode cX8_takeSingle 46 = .ok (.if_icmp .ne 8, 3) := by decide +kernel
theorem dX8_takeSingle_49 : decode cX8_takeSingle 49 = .ok (.bipush 60, 2) := by decide +kernel
theorem dX8_takeSingle_51 : decode cX8_takeSingle 51 = .ok (.goto 17, 3) := by decide +kernel
theorem dX8_takeSingle_54 : decode cX8_takeSingle 54 = .ok (.iload_n 1, 1) := by decide +kernel
theorem dX8_takeSingle_55 : decode cX8_takeSingle 55 = .ok (.bipush 8, 2) := by decide +kernel
theorem dX8_takeSingle_57 : decode cX8_takeSingle 57 = .ok (.if_icmp .ne 9, 3) := by decide +kernel
theorem dX8_takeSingle_60 : decode cX8_takeSingle 60 = .ok (.sipush 999, 3) := by decide +kernel
theorem dX8_takeSingle_63 : decode cX8_takeSingle 63 = .ok (.goto 5, 3) := by decide +kernel
theorem dX8_takeSingle_66 : decode cX8_takeSingle 66 = .ok (.bipush 99, 2) := by decide +kernel
theorem dX8_takeSingle_68 : decode cX8_takeSingle 68 = .ok (.istore_n 2, 1) := by decide +kernel
theorem dX8_takeSingle_69 : decode cX8_takeSingle 69 = .ok (.aload_n 0, 1) := by decide +kernel
theorem dX8_takeSingle_70 : decode cX8_takeSingle 70 = .ok (.iconst 0, 1) := by decide +kernel
theorem dX8_takeSingle_71 : decode cX8_takeSingle 71 = .ok (.iload_n 2, 1) := by decide +kernel
theorem dX8_takeSingle_72 : decode cX8_takeSingle 72 = .ok (.invokevirtual 183, 3) := by decide +kernel
theorem dX8_takeSingle_75 : decode cX8_takeSingle 75 = .ok (.istore_n 3, 1) := by decide +kernel
theorem dX8_takeSingle_76 : decode cX8_takeSingle 76 = .ok (.aload_n 0, 1) := by decide +kernel
theorem dX8_takeSingle_77 : decode cX8_takeSingle 77 = .ok (.getfield 35, 3) := by decide +kernel
theorem dX8_takeSingle_80 : decode cX8_takeSingle 80 = .ok (.iload_n 1, 1) := by decide +kernel
theorem dX8_takeSingle_81 : decode cX8_takeSingle 81 = .ok (.aload_n 0, 1) := by decide +kernel
theorem dX8_takeSingle_82 : decode cX8_takeSingle 82 = .ok (.getfield 163, 3) := by decide +kernel
theorem dX8_takeSingle_85 : decode cX8_takeSingle 85 = .ok (.iastore, 1) := by decide +kernel
theorem dX8_takeSingle_86 : decode cX8_takeSingle 86 = .ok (.iload_n 3, 1) := by decide +kernel
theorem dX8_takeSingle_87 : decode cX8_takeSingle 87 = .ok (.ifCond .gt 9, 3) := by decide +kernel
theorem dX8_takeSingle_90 : decode cX8_takeSingle 90 = .ok (.iload_n 1, 1) := by decide +kernel
theorem dX8_takeSingle_91 : decode cX8_takeSingle 91 = .ok (.bipush 6, 2) := by decide +kernel
theorem dX8_takeSingle_93 : decode cX8_takeSingle 93 = .ok (.if_icmp .eq 5, 3) := by decide +kernel
theorem dX8_takeSingle_96 : decode cX8_takeSingle 96 = .ok (.iload_n 3, 1) := by decide +kernel
theorem dX8_takeSingle_97 : decode cX8_takeSingle 97 = .ok (.ireturn, 1) := by decide +kernel
theorem dX8_takeSingle_98 : decode cX8_takeSingle 98 = .ok (.aload_n 0, 1) := by decide +kernel
theorem dX8_takeSingle_99 : decode cX8_takeSingle 99 = .ok (.bipush 116, 2) := by decide +kernel
theorem dX8_takeSingle_101 : decode cX8_takeSingle 101 = .ok (.bipush 105, 2) := by decide +kernel
theorem dX8_takeSingle_103 : decode cX8_takeSingle 103 = .ok (.bipush 109, 2) := by decide +kernel
theorem dX8_takeSingle_105 : decode cX8_takeSingle 105 = .ok (.invokestatic 148, 3) := by decide +kernel
theorem dX8_takeSingle_108 : decode cX8_takeSingle 108 = .ok (.bipush 101, 2) := by decide +kernel
theorem dX8_takeSingle_110 : decode cX8_takeSingle 110 = .ok (.bipush 115, 2) := by decide +kernel
theorem dX8_takeSingle_112 : decode cX8_takeSingle 112 = .ok (.invokestatic 152, 3) := by decide +kernel
theorem dX8_takeSingle_115 : decode cX8_takeSingle 115 = .ok (.invokevirtual 186, 3) := by decide +kernel
theorem dX8_takeSingle_118 : decode cX8_takeSingle 118 = .ok (.istore_n 3, 1) := by decide +kernel
theorem dX8_takeSingle_119 : decode cX8_takeSingle 119 = .ok (.iload_n 3, 1) := by decide +kernel
theorem dX8_takeSingle_120 : decode cX8_takeSingle 120 = .ok (.ifCond .le 7, 3) := by decide +kernel
theorem dX8_takeSingle_123 : decode cX8_takeSingle 123 = .ok (.iload_n 3, 1) := by decide +kernel
theorem dX8_takeSingle_124 : decode cX8_takeSingle 124 = .ok (.goto 9, 3) := by decide +kernel
theorem dX8_takeSingle_127 : decode cX8_takeSingle 127 = .ok (.aload_n 0, 1) := by decide +kernel
theorem dX8_takeSingle_128 : decode cX8_takeSingle 128 = .ok (.iconst 0, 1) := by decide +kernel
theorem dX8_takeSingle_129 : decode cX8_takeSingle 129 = .ok (.iconst 3, 1) := by decide +kernel
theorem dX8_takeSingle_130 : decode cX8_takeSingle 130 = .ok (.invokevirtual 183, 3) := by decide +kernel
theorem dX8_takeSingle_133 : decode cX8_takeSingle 133 = .ok (.istore_n 3, 1) := by decide +kernel
theorem dX8_takeSingle_134 : decode cX8_takeSingle 134 = .ok (.aload_n 0, 1) := by decide +kernel
theorem dX8_takeSingle_135 : decode cX8_takeSingle 135 = .ok (.getfield 35, 3) := by decide +kernel
theorem dX8_takeSingle_138 : decode cX8_takeSingle 138 = .ok (.bipush 7, 2) := by decide +kernel
theorem dX8_takeSingle_140 : decode cX8_takeSingle 140 = .ok (.aload_n 0, 1) := by decide +kernel
theorem dX8_takeSingle_141 : decode cX8_takeSingle 141 = .ok (.getfield 163, 3) := by decide +kernel
theorem dX8_takeSingle_144 : decode cX8_takeSingle 144 = .ok (.iastore, 1) := by decide +kernel
theorem dX8_takeSingle_145 : decode cX8_takeSingle 145 = .ok (.iload_n 3, 1) := by decide +kernel
theorem dX8_takeSingle_146 : decode cX8_takeSingle 146 = .ok (.ireturn, 1) := by decide +kernel
set_option maxHeartbeats 4000000 in
set_option maxRecDepth 100000 in
theorem m_takeSingle (l : Launch) (D : va_G) (k : Nat → ClassId) (st : Nat → Nat) (lo : Nat) (a : Nat → Nat) (tx : Nat) (t0 : Nat) (we : Nat) (rd : Nat) (ru : Nat) (rw : Nat) (ca : Nat) (fp : Int32) (wd : Int64) (nu : Int32) (na : Int32) (ts : Int32) (df : Int32) (db : Int32) (sd : Int32) (ftext : Nat → Int32) (freadSingle : Nat → Int32) (cl : Nat) (ht : t0 ≤ tx) (htx : tx ≤ 240) (hcl : cl ≤ 8 ∧ cl ≠ 7) (hrs : rsOK freadSingle) : CWi l D k st lo yX8_takeSingle cX8_takeSingle 4 (some .int) ({ frames := 3, cells := 0, slots := 0, locals := 74 }) 0 0 [.ref (a 0), .int (nI cl)] [((a 0), .inr (8, (fX8 a (nI tx) fp (nI t0) wd (nI we) nu na (nI rd) ts (nI ru) (nI rw) (nI ca) df db sd))), (aI k (a 5) 240 ftext), (aI k (a 16) 9 freadSingle)] (fun (r : Int32) (u : Nat × Int64 × Nat × Int32 × Int32 × Int32 × (Nat → Int32) × Nat) => match u with | (t0_, wd_, we_, fp_, nu_, na_, freadSingle_, er) => r = nI er ∧ er ≤ 2 ∧ t0 ≤ t0_ ∧ t0_ ≤ tx ∧ (er = 0 → rsOK freadSingle_)) (fun (u : Nat × Int64 × Nat × Int32 × Int32 × Int32 × (Nat → Int32) × Nat) => match u with | (t0_, wd_, we_, fp_, nu_, na_, freadSingle_, er) => [((a 0), .inr (8, (fX8 a (nI tx) fp_ (nI t0_) wd_ (nI we_) nu_ na_ (nI rd) ts (nI ru) (nI rw) (nI ca) df db sd))), (aI k (a 5) 240 ftext), (aI k (a 16) 9 freadSingle_)]) := by
  intro sz
  refine Met.ofW (cc := cX8_takeSingle) (maxL := 4) (ret := (some .int)) (by decide) rfl ?_
  intro p e s m args below meth c s₁ B hml hv
  obtain ⟨rfl, hsz, hlo, hP, hK, hDL, hZ⟩ := hv
  have hx := B.exec
  have hb := B.bytes
  have hr := B.returns
  have hts := WS_ts B.pre
  have hown : s.vm.findClass RX8 = some m.cls := findClass_of_methodNamed B.named
  have hlocks := B.notSynchronized
  subst hsz
  have hD := hDL.self (sz := s.heap.size)
  have hAlo := A_lo hDL hlo
  generalize hAe : va_A [((a 0), .inr (8, (fX8 a (nI tx) fp (nI t0) wd (nI we) nu na (nI rd) ts (nI ru) (nI rw) (nI ca) df db sd))), (aI k (a 5) 240 ftext), (aI k (a 16) 9 freadSingle)] s.heap.size = A at hD hAlo ⊢
  have hA : ∀ q : Nat, s.heap.size ≤ q → A q := fun q h => by rw [← hAe]; exact Or.inr h
  have hS : va_S A s.heap s.heap [] := va_S.rf
  have hl := lv_entry ([.ref (a 0), .int (nI cl)]) (n := 4) (Nat.le_of_ble_eq_true rfl)
  rw [lg_entry_eq]
  generalize (lg_sl ([.ref (a 0), .int (nI cl)]) ++ List.replicate (4 - (lg_sl ([.ref (a 0), .int (nI cl)])).length) Slot.unset).toArray = ls at hl ⊢
  have hl : lv_has ls 4 [(0, .ref (a 0)), (1, .int (nI cl))] := hl
  refine lv_iload_n hx hb dX8_takeSingle_0 rfl (lv_at hl 1 rfl) ?_
  refine lv_if_ne (tgt := 23) hx hb dX8_takeSingle_1 (by decide) (fun c_1 => ?_) (fun c_1 => ?_)
  · have c_1 : ¬ (cl = 0) := fun h => c_1 ((nI_eq (a := cl) (b := 0) (by omega) (by omega)).mpr h)
    refine lv_iload_n hx hb dX8_takeSingle_23 rfl (lv_at hl 1 rfl) ?_
    refine lv_iconst (v := 4) hx hb dX8_takeSingle_24 (by decide) ?_
    refine lv_icmp_ne (tgt := 34) hx hb dX8_takeSingle_25 (by decide) (fun c_2 => ?_) (fun c_2 => ?_)
    · have c_2 : ¬ (cl = 4) := fun h => c_2 ((nI_eq (a := cl) (b := 4) (by omega) (by omega)).mpr h)
      refine lv_iload_n hx hb dX8_takeSingle_34 rfl (lv_at hl 1 rfl) ?_
      refine lv_iconst (v := 5) hx hb dX8_takeSingle_35 (by decide) ?_
      refine lv_icmp_ne (tgt := 43) hx hb dX8_takeSingle_36 (by decide) (fun c_3 => ?_) (fun c_3 => ?_)
      · have c_3 : ¬ (cl = 5) := fun h => c_3 ((nI_eq (a := cl) (b := 5) (by omega) (by omega)).mpr h)
        refine lv_iload_n hx hb dX8_takeSingle_43 rfl (lv_at hl 1 rfl) ?_
        refine lv_bipush (v := 6) hx hb dX8_takeSingle_44 (by decide) ?_
        refine lv_icmp_ne (tgt := 54) hx hb dX8_takeSingle_46 (by decide) (fun c_4 => ?_) (fun c_4 => ?_)
        · have c_4 : ¬ (cl = 6) := fun h => c_4 ((nI_eq (a := cl) (b := 6) (by omega) (by omega)).mpr h)
          refine lv_iload_n hx hb dX8_takeSingle_54 rfl (lv_at hl 1 rfl) ?_
          refine lv_bipush (v := 8) hx hb dX8_takeSingle_55 (by decide) ?_
          refine lv_icmp_ne (tgt := 66) hx hb dX8_takeSingle_57 (by decide) (fun c_5 => ?_) (fun c_5 => ?_)
          · have c_5 : ¬ (cl = 8) := fun h => c_5 ((nI_eq (a := cl) (b := 8) (by omega) (by omega)).mpr h)
            refine lv_bipush (v := 99) hx hb dX8_takeSingle_66 (by decide) ?_
            refine lv_istore_n (lv' := [(2, .int 99), (0, .ref (a 0)), (1, .int (nI cl))]) hx hb dX8_takeSingle_68 rfl hl (by decide) rfl (fun ls hl => ?_)
            refine lv_aload_n hx hb dX8_takeSingle_69 rfl (lv_at hl 1 rfl) ?_
            refine lv_iconst (v := 0) hx hb dX8_takeSingle_70 (by decide) ?_
            refine lv_iload_n hx hb dX8_takeSingle_71 rfl (lv_at hl 0 rfl) ?_
            refine rw_i (D := D) (wr := [(aI k (a 16) 9 freadSingle)]) (va_runV (As := [.int 0, .int 99]) (rest := []) ⟨hx, hb, hml, hown, hts⟩ ((m_takeNumber l D k st lo a tx t0 we rd ru rw ca fp wd nu na ts df db sd ftext 0 99 (by omega) (by omega)) s.heap.size) (cwV 2 hts (gV tw_1159 tw_1161 tw_33 tw_87 tw_1162) rfl rfl rfl (by decide +kernel) ⟨Nat.le_of_ble_eq_true rfl, Nat.le_of_ble_eq_true rfl⟩) (pV hS hAlo hlo hP hK (va_Dlo hD hAlo) hZ [0, 1] (by decide) rfl (ci := 8) (q := (RX8, TX8, 44)) (q0 := 0) rfl rfl) rfl rfl hl.1 rfl (lv_room (Nat.le_of_ble_eq_true rfl)) dX8_takeSingle_72 ⟨Nat.le_of_ble_eq_true rfl, Nat.le_of_ble_eq_true rfl⟩) hS hA hP hD [0, 1] [2] rfl rfl (by decide) (by decide) (fun r_6 u H locs hw_6 hP hD hS => ?_)
            obtain ⟨t0__6, nu__6, na__6, fp__6, er_6⟩ := u
            replace hP : va_P D classes [(aI k (a 16) 9 freadSingle), ((a 0), .inr (8, (fX8 a (nI tx) fp__6 (nI t0__6) wd (nI we) nu__6 na__6 (nI rd) ts (nI ru) (nI rw) (nI ca) df db sd))), (aI k (a 5) 240 ftext)] H := hP
            replace hD : va_D A [(aI k (a 16) 9 freadSingle), ((a 0), .inr (8, (fX8 a (nI tx) fp__6 (nI t0__6) wd (nI we) nu__6 na__6 (nI rd) ts (nI ru) (nI rw) (nI ca) df db sd))), (aI k (a 5) 240 ftext)] := hD
            try dsimp only at hw_6
            obtain ⟨rfl, hw_6⟩ := hw_6
            refine lv_istore_n (lv' := [(3, .int (nI er_6)), (2, .int 99), (0, .ref (a 0)), (1, .int (nI cl))]) hx hb dX8_takeSingle_75 rfl hl (by decide) rfl (fun ls hl => ?_)
            refine lv_aload_n hx hb dX8_takeSingle_76 rfl (lv_at hl 2 rfl) ?_
            refine va_get (D := D) (ci := 8) (v := .ref (a 16)) (C := RX8) (T := TX8) (N := 44) hx hb hts inX8 hown hK hP 1 rfl rfl 15 (by decide) (hts _ tw_988) (fun _ h9 => h9) rfl dX8_takeSingle_77 ?_
            refine lv_iload_n hx hb dX8_takeSingle_80 rfl (lv_at hl 3 rfl) ?_
            refine lv_aload_n hx hb dX8_takeSingle_81 rfl (lv_at hl 2 rfl) ?_
            refine va_get (D := D) (ci := 8) (v := .int nu__6) (C := RX8) (T := TX8) (N := 44) hx hb hts inX8 hown hK hP 1 rfl rfl 10 (by decide) (hts _ tw_983) (fun _ h9 => h9) rfl dX8_takeSingle_82 ?_
            refine va_iast hx hb hK hP hD hS 0 1 rfl rfl (vp_in_nI (by omega) (by decide)) dX8_takeSingle_85 (fun H locs hP hD hS => ?_)
            replace hP : va_P D classes [(aI k (a 16) 9 (upd freadSingle (Int32.toNatClampNeg (nI cl)) nu__6)), ((a 0), .inr (8, (fX8 a (nI tx) fp__6 (nI t0__6) wd (nI we) nu__6 na__6 (nI rd) ts (nI ru) (nI rw) (nI ca) df db sd))), (aI k (a 5) 240 ftext)] H := hP
            replace hD : va_D A [(aI k (a 16) 9 (upd freadSingle (Int32.toNatClampNeg (nI cl)) nu__6)), ((a 0), .inr (8, (fX8 a (nI tx) fp__6 (nI t0__6) wd (nI we) nu__6 na__6 (nI rd) ts (nI ru) (nI rw) (nI ca) df db sd))), (aI k (a 5) 240 ftext)] := hD
            rw [nI_clamp (n := cl) (by omega)] at hP hD
            replace hP : va_P D classes [(aI k (a 16) 9 (upd freadSingle cl nu__6)), ((a 0), .inr (8, (fX8 a (nI tx) fp__6 (nI t0__6) wd (nI we) nu__6 na__6 (nI rd) ts (nI ru) (nI rw) (nI ca) df db sd))), (aI k (a 5) 240 ftext)] H := hP
            replace hD : va_D A [(aI k (a 16) 9 (upd freadSingle cl nu__6)), ((a 0), .inr (8, (fX8 a (nI tx) fp__6 (nI t0__6) wd (nI we) nu__6 na__6 (nI rd) ts (nI ru) (nI rw) (nI ca) df db sd))), (aI k (a 5) 240 ftext)] := hD
            refine lv_iload_n hx hb dX8_takeSingle_86 rfl (lv_at hl 0 rfl) ?_
            refine lv_if_gt (tgt := 96) hx hb dX8_takeSingle_87 (by decide) (fun c_8 => ?_) (fun c_8 => ?_)
            · have c_8 := (nI_ltI (a := 0) (b := er_6) (by omega) (by omega)).mp c_8
              refine lv_iload_n hx hb dX8_takeSingle_96 rfl (lv_at hl 0 rfl) ?_
              have hP9 := hP.sub (ws' := [((a 0), .inr (8, (fX8 a (nI tx) fp__6 (nI t0__6) wd (nI we) nu__6 na__6 (nI rd) ts (nI ru) (nI rw) (nI ca) df db sd))), (aI k (a 5) 240 ftext), (aI k (a 16) 9 (upd freadSingle cl nu__6))]) [1, 2, 0] rfl
              have hD9 := hD.sub (ws' := [((a 0), .inr (8, (fX8 a (nI tx) fp__6 (nI t0__6) wd (nI we) nu__6 na__6 (nI rd) ts (nI ru) (nI rw) (nI ca) df db sd))), (aI k (a 5) 240 ftext), (aI k (a 16) 9 (upd freadSingle cl nu__6))]) [1, 2, 0] (by decide) rfl
              exact W.iret (v := (nI er_6)) hx hb hr (fun t ht hW => ⟨⟨(nI er_6), (t0__6, wd, we, fp__6, nu__6, na__6, (upd freadSingle cl nu__6), er_6), rfl, ⟨rfl, by omega, by omega, by omega, fun h => absurd h (by omega)⟩, by rw [ht]; exact hP9, hD9⟩, hS.F ht⟩) hS.2.2 dX8_takeSingle_97
            · have c_8 : ¬ (0 < er_6) := fun h => c_8 ((nI_ltI (a := 0) (b := er_6) (by omega) (by omega)).mpr h)
              refine lv_iload_n hx hb dX8_takeSingle_90 rfl (lv_at hl 3 rfl) ?_
              refine lv_bipush (v := 6) hx hb dX8_takeSingle_91 (by decide) ?_
              refine lv_icmp_eq (tgt := 98) hx hb dX8_takeSingle_93 (by decide) (fun h => absurd ((nI_eq (a := cl) (b := 6) (by omega) (by omega)).mp h) (by omega)) (fun _ => ?_)
              refine lv_iload_n hx hb dX8_takeSingle_96 rfl (lv_at hl 0 rfl) ?_
              have hP9 := hP.sub (ws' := [((a 0), .inr (8, (fX8 a (nI tx) fp__6 (nI t0__6) wd (nI we) nu__6 na__6 (nI rd) ts (nI ru) (nI rw) (nI ca) df db sd))), (aI k (a 5) 240 ftext), (aI k (a 16) 9 (upd freadSingle cl nu__6))]) [1, 2, 0] rfl
              have hD9 := hD.sub (ws' := [((a 0), .inr (8, (fX8 a (nI tx) fp__6 (nI t0__6) wd (nI we) nu__6 na__6 (nI rd) ts (nI ru) (nI rw) (nI ca) df db sd))), (aI k (a 5) 240 ftext), (aI k (a 16) 9 (upd freadSingle cl nu__6))]) [1, 2, 0] (by decide) rfl
              exact W.iret (v := (nI er_6)) hx hb hr (fun t ht hW => ⟨⟨(nI er_6), (t0__6, wd, we, fp__6, nu__6, na__6, (upd freadSingle cl nu__6), er_6), rfl, ⟨rfl, by omega, by omega, by omega, fun h => (rsOK_upd hrs cl _ (fun h5 => absurd h5 (by omega)) (fun h7 => absurd h7 (by omega)))⟩, by rw [ht]; exact hP9, hD9⟩, hS.F ht⟩) hS.2.2 dX8_takeSingle_97
          · have c_5 := (nI_eq (a := cl) (b := 8) (by omega) (by omega)).mp c_5
            refine lv_sipush (v := 999) hx hb dX8_takeSingle_60 (by decide) ?_
            refine lv_goto (tgt := 68) hx hb dX8_takeSingle_63 (by decide) ?_
            refine lv_istore_n (lv' := [(2, .int 999), (0, .ref (a 0)), (1, .int (nI cl))]) hx hb dX8_takeSingle_68 rfl hl (by decide) rfl (fun ls hl => ?_)
            refine lv_aload_n hx hb dX8_takeSingle_69 rfl (lv_at hl 1 rfl) ?_
            refine lv_iconst (v := 0) hx hb dX8_takeSingle_70 (by decide) ?_
            refine lv_iload_n hx hb dX8_takeSingle_71 rfl (lv_at hl 0 rfl) ?_
            refine rw_i (D := D) (wr := [(aI k (a 16) 9 freadSingle)]) (va_runV (As := [.int 0, .int 999]) (rest := []) ⟨hx, hb, hml, hown, hts⟩ ((m_takeNumber l D k st lo a tx t0 we rd ru rw ca fp wd nu na ts df db sd ftext 0 999 (by omega) (by omega)) s.heap.size) (cwV 2 hts (gV tw_1159 tw_1161 tw_33 tw_87 tw_1162) rfl rfl rfl (by decide +kernel) ⟨Nat.le_of_ble_eq_true rfl, Nat.le_of_ble_eq_true rfl⟩) (pV hS hAlo hlo hP hK (va_Dlo hD hAlo) hZ [0, 1] (by decide) rfl (ci := 8) (q := (RX8, TX8, 44)) (q0 := 0) rfl rfl) rfl rfl hl.1 rfl (lv_room (Nat.le_of_ble_eq_true rfl)) dX8_takeSingle_72 ⟨Nat.le_of_ble_eq_true rfl, Nat.le_of_ble_eq_true rfl⟩) hS hA hP hD [0, 1] [2] rfl rfl (by decide) (by decide) (fun r_10 u H locs hw_10 hP hD hS => ?_)
            obtain ⟨t0__10, nu__10, na__10, fp__10, er_10⟩ := u
            replace hP : va_P D classes [(aI k (a 16) 9 freadSingle), ((a 0), .inr (8, (fX8 a (nI tx) fp__10 (nI t0__10) wd (nI we) nu__10 na__10 (nI rd) ts (nI ru) (nI rw) (nI ca) df db sd))), (aI k (a 5) 240 ftext)] H := hP
            replace hD : va_D A [(aI k (a 16) 9 freadSingle), ((a 0), .inr (8, (fX8 a (nI tx) fp__10 (nI t0__10) wd (nI we) nu__10 na__10 (nI rd) ts (nI ru) (nI rw) (nI ca) df db sd))), (aI k (a 5) 240 ftext)] := hD
            try dsimp only at hw_10
            obtain ⟨rfl, hw_10⟩ := hw_10
            refine lv_istore_n (lv' := [(3, .int (nI er_10)), (2, .int 999), (0, .ref (a 0)), (1, .int (nI cl))]) hx hb dX8_takeSingle_75 rfl hl (by decide) rfl (fun ls hl => ?_)
            refine lv_aload_n hx hb dX8_takeSingle_76 rfl (lv_at hl 2 rfl) ?_
            refine va_get (D := D) (ci := 8) (v := .ref (a 16)) (C := RX8) (T := TX8) (N := 44) hx hb hts inX8 hown hK hP 1 rfl rfl 15 (by decide) (hts _ tw_988) (fun _ h9 => h9) rfl dX8_takeSingle_77 ?_
            refine lv_iload_n hx hb dX8_takeSingle_80 rfl (lv_at hl 3 rfl) ?_
            refine lv_aload_n hx hb dX8_takeSingle_81 rfl (lv_at hl 2 rfl) ?_
            refine va_get (D := D) (ci := 8) (v := .int nu__10) (C := RX8) (T := TX8) (N := 44) hx hb hts inX8 hown hK hP 1 rfl rfl 10 (by decide) (hts _ tw_983) (fun _ h9 => h9) rfl dX8_takeSingle_82 ?_
            refine va_iast hx hb hK hP hD hS 0 1 rfl rfl (vp_in_nI (by omega) (by decide)) dX8_takeSingle_85 (fun H locs hP hD hS => ?_)
            replace hP : va_P D classes [(aI k (a 16) 9 (upd freadSingle (Int32.toNatClampNeg (nI cl)) nu__10)), ((a 0), .inr (8, (fX8 a (nI tx) fp__10 (nI t0__10) wd (nI we) nu__10 na__10 (nI rd) ts (nI ru) (nI rw) (nI ca) df db sd))), (aI k (a 5) 240 ftext)] H := hP
            replace hD : va_D A [(aI k (a 16) 9 (upd freadSingle (Int32.toNatClampNeg (nI cl)) nu__10)), ((a 0), .inr (8, (fX8 a (nI tx) fp__10 (nI t0__10) wd (nI we) nu__10 na__10 (nI rd) ts (nI ru) (nI rw) (nI ca) df db sd))), (aI k (a 5) 240 ftext)] := hD
            rw [nI_clamp (n := cl) (by omega)] at hP hD
            replace hP : va_P D classes [(aI k (a 16) 9 (upd freadSingle cl nu__10)), ((a 0), .inr (8, (fX8 a (nI tx) fp__10 (nI t0__10) wd (nI we) nu__10 na__10 (nI rd) ts (nI ru) (nI rw) (nI ca) df db sd))), (aI k (a 5) 240 ftext)] H := hP
            replace hD : va_D A [(aI k (a 16) 9 (upd freadSingle cl nu__10)), ((a 0), .inr (8, (fX8 a (nI tx) fp__10 (nI t0__10) wd (nI we) nu__10 na__10 (nI rd) ts (nI ru) (nI rw) (nI ca) df db sd))), (aI k (a 5) 240 ftext)] := hD
            refine lv_iload_n hx hb dX8_takeSingle_86 rfl (lv_at hl 0 rfl) ?_
            refine lv_if_gt (tgt := 96) hx hb dX8_takeSingle_87 (by decide) (fun c_12 => ?_) (fun c_12 => ?_)
            · have c_12 := (nI_ltI (a := 0) (b := er_10) (by omega) (by omega)).mp c_12
              refine lv_iload_n hx hb dX8_takeSingle_96 rfl (lv_at hl 0 rfl) ?_
              have hP9 := hP.sub (ws' := [((a 0), .inr (8, (fX8 a (nI tx) fp__10 (nI t0__10) wd (nI we) nu__10 na__10 (nI rd) ts (nI ru) (nI rw) (nI ca) df db sd))), (aI k (a 5) 240 ftext), (aI k (a 16) 9 (upd freadSingle cl nu__10))]) [1, 2, 0] rfl
              have hD9 := hD.sub (ws' := [((a 0), .inr (8, (fX8 a (nI tx) fp__10 (nI t0__10) wd (nI we) nu__10 na__10 (nI rd) ts (nI ru) (nI rw) (nI ca) df db sd))), (aI k (a 5) 240 ftext), (aI k (a 16) 9 (upd freadSingle cl nu__10))]) [1, 2, 0] (by decide) rfl
              exact W.iret (v := (nI er_10)) hx hb hr (fun t ht hW => ⟨⟨(nI er_10), (t0__10, wd, we, fp__10, nu__10, na__10, (upd freadSingle cl nu__10), er_10), rfl, ⟨rfl, by omega, by omega, by omega, fun h => absurd h (by omega)⟩, by rw [ht]; exact hP9, hD9⟩, hS.F ht⟩) hS.2.2 dX8_takeSingle_97
            · have c_12 : ¬ (0 < er_10) := fun h => c_12 ((nI_ltI (a := 0) (b := er_10) (by omega) (by omega)).mpr h)
              refine lv_iload_n hx hb dX8_takeSingle_90 rfl (lv_at hl 3 rfl) ?_
              refine lv_bipush (v := 6) hx hb dX8_takeSingle_91 (by decide) ?_
              refine lv_icmp_eq (tgt := 98) hx hb dX8_takeSingle_93 (by decide) (fun h => absurd ((nI_eq (a := cl) (b := 6) (by omega) (by omega)).mp h) (by omega)) (fun _ => ?_)
              refine lv_iload_n hx hb dX8_takeSingle_96 rfl (lv_at hl 0 rfl) ?_
              have hP9 := hP.sub (ws' := [((a 0), .inr (8, (fX8 a (nI tx) fp__10 (nI t0__10) wd (nI we) nu__10 na__10 (nI rd) ts (nI ru) (nI rw) (nI ca) df db sd))), (aI k (a 5) 240 ftext), (aI k (a 16) 9 (upd freadSingle cl nu__10))]) [1, 2, 0] rfl
              have hD9 := hD.sub (ws' := [((a 0), .inr (8, (fX8 a (nI tx) fp__10 (nI t0__10) wd (nI we) nu__10 na__10 (nI rd) ts (nI ru) (nI rw) (nI ca) df db sd))), (aI k (a 5) 240 ftext), (aI k (a 16) 9 (upd freadSingle cl nu__10))]) [1, 2, 0] (by decide) rfl
              exact W.iret (v := (nI er_10)) hx hb hr (fun t ht hW => ⟨⟨(nI er_10), (t0__10, wd, we, fp__10, nu__10, na__10, (upd freadSingle cl nu__10), er_10), rfl, ⟨rfl, by omega, by omega, by omega, fun h => (rsOK_upd hrs cl _ (fun h5 => absurd h5 (by omega)) (fun h7 => absurd h7 (by omega)))⟩, by rw [ht]; exact hP9, hD9⟩, hS.F ht⟩) hS.2.2 dX8_takeSingle_97
        · have c_4 := (nI_eq (a := cl) (b := 6) (by omega) (by omega)).mp c_4
          refine lv_bipush (v := 60) hx hb dX8_takeSingle_49 (by decide) ?_
          refine lv_goto (tgt := 68) hx hb dX8_takeSingle_51 (by decide) ?_
          refine lv_istore_n (lv' := [(2, .int 60), (0, .ref (a 0)), (1, .int (nI cl))]) hx hb dX8_takeSingle_68 rfl hl (by decide) rfl (fun ls hl => ?_)
          refine lv_aload_n hx hb dX8_takeSingle_69 rfl (lv_at hl 1 rfl) ?_
          refine lv_iconst (v := 0) hx hb dX8_takeSingle_70 (by decide) ?_
          refine lv_iload_n hx hb dX8_takeSingle_71 rfl (lv_at hl 0 rfl) ?_
          refine rw_i (D := D) (wr := [(aI k (a 16) 9 freadSingle)]) (va_runV (As := [.int 0, .int 60]) (rest := []) ⟨hx, hb, hml, hown, hts⟩ ((m_takeNumber l D k st lo a tx t0 we rd ru rw ca fp wd nu na ts df db sd ftext 0 60 (by omega) (by omega)) s.heap.size) (cwV 2 hts (gV tw_1159 tw_1161 tw_33 tw_87 tw_1162) rfl rfl rfl (by decide +kernel) ⟨Nat.le_of_ble_eq_true rfl, Nat.le_of_ble_eq_true rfl⟩) (pV hS hAlo hlo hP hK (va_Dlo hD hAlo) hZ [0, 1] (by decide) rfl (ci := 8) (q := (RX8, TX8, 44)) (q0 := 0) rfl rfl) rfl rfl hl.1 rfl (lv_room (Nat.le_of_ble_eq_true rfl)) dX8_takeSingle_72 ⟨Nat.le_of_ble_eq_true rfl, Nat.le_of_ble_eq_true rfl⟩) hS hA hP hD [0, 1] [2] rfl rfl (by decide) (by decide) (fun r_14 u H locs hw_14 hP hD hS => ?_)
          obtain ⟨t0__14, nu__14, na__14, fp__14, er_14⟩ := u
          replace hP : va_P D classes [(aI k (a 16) 9 freadSingle), ((a 0), .inr (8, (fX8 a (nI tx) fp__14 (nI t0__14) wd (nI we) nu__14 na__14 (nI rd) ts (nI ru) (nI rw) (nI ca) df db sd))), (aI k (a 5) 240 ftext)] H := hP
          replace hD : va_D A [(aI k (a 16) 9 freadSingle), ((a 0), .inr (8, (fX8 a (nI tx) fp__14 (nI t0__14) wd (nI we) nu__14 na__14 (nI rd) ts (nI ru) (nI rw) (nI ca) df db sd))), (aI k (a 5) 240 ftext)] := hD
          try dsimp only at hw_14
          obtain ⟨rfl, hw_14⟩ := hw_14
          refine lv_istore_n (lv' := [(3, .int (nI er_14)), (2, .int 60), (0, .ref (a 0)), (1, .int (nI cl))]) hx hb dX8_takeSingle_75 rfl hl (by decide) rfl (fun ls hl => ?_)
          refine lv_aload_n hx hb dX8_takeSingle_76 rfl (lv_at hl 2 rfl) ?_
          refine va_get (D := D) (ci := 8) (v := .ref (a 16)) (C := RX8) (T := TX8) (N := 44) hx hb hts inX8 hown hK hP 1 rfl rfl 15 (by decide) (hts _ tw_988) (fun _ h9 => h9) rfl dX8_takeSingle_77 ?_
          refine lv_iload_n hx hb dX8_takeSingle_80 rfl (lv_at hl 3 rfl) ?_
          refine lv_aload_n hx hb dX8_takeSingle_81 rfl (lv_at hl 2 rfl) ?_
          refine va_get (D := D) (ci := 8) (v := .int nu__14) (C := RX8) (T := TX8) (N := 44) hx hb hts inX8 hown hK hP 1 rfl rfl 10 (by decide) (hts _ tw_983) (fun _ h9 => h9) rfl dX8_takeSingle_82 ?_
          refine va_iast hx hb hK hP hD hS 0 1 rfl rfl (vp_in_nI (by omega) (by decide)) dX8_takeSingle_85 (fun H locs hP hD hS => ?_)
          replace hP : va_P D classes [(aI k (a 16) 9 (upd freadSingle (Int32.toNatClampNeg (nI cl)) nu__14)), ((a 0), .inr (8, (fX8 a (nI tx) fp__14 (nI t0__14) wd (nI we) nu__14 na__14 (nI rd) ts (nI ru) (nI rw) (nI ca) df db sd))), (aI k (a 5) 240 ftext)] H := hP
          replace hD : va_D A [(aI k (a 16) 9 (upd freadSingle (Int32.toNatClampNeg (nI cl)) nu__14)), ((a 0), .inr (8, (fX8 a (nI tx) fp__14 (nI t0__14) wd (nI we) nu__14 na__14 (nI rd) ts (nI ru) (nI rw) (nI ca) df db sd))), (aI k (a 5) 240 ftext)] := hD
          rw [nI_clamp (n := cl) (by omega)] at hP hD
          replace hP : va_P D classes [(aI k (a 16) 9 (upd freadSingle cl nu__14)), ((a 0), .inr (8, (fX8 a (nI tx) fp__14 (nI t0__14) wd (nI we) nu__14 na__14 (nI rd) ts (nI ru) (nI rw) (nI ca) df db sd))), (aI k (a 5) 240 ftext)] H := hP
          replace hD : va_D A [(aI k (a 16) 9 (upd freadSingle cl nu__14)), ((a 0), .inr (8, (fX8 a (nI tx) fp__14 (nI t0__14) wd (nI we) nu__14 na__14 (nI rd) ts (nI ru) (nI rw) (nI ca) df db sd))), (aI k (a 5) 240 ftext)] := hD
          refine lv_iload_n hx hb dX8_takeSingle_86 rfl (lv_at hl 0 rfl) ?_
          refine lv_if_gt (tgt := 96) hx hb dX8_takeSingle_87 (by decide) (fun c_16 => ?_) (fun c_16 => ?_)
          · have c_16 := (nI_ltI (a := 0) (b := er_14) (by omega) (by omega)).mp c_16
            refine lv_iload_n hx hb dX8_takeSingle_96 rfl (lv_at hl 0 rfl) ?_
            have hP9 := hP.sub (ws' := [((a 0), .inr (8, (fX8 a (nI tx) fp__14 (nI t0__14) wd (nI we) nu__14 na__14 (nI rd) ts (nI ru) (nI rw) (nI ca) df db sd))), (aI k (a 5) 240 ftext), (aI k (a 16) 9 (upd freadSingle cl nu__14))]) [1, 2, 0] rfl
            have hD9 := hD.sub (ws' := [((a 0), .inr (8, (fX8 a (nI tx) fp__14 (nI t0__14) wd (nI we) nu__14 na__14 (nI rd) ts (nI ru) (nI rw) (nI ca) df db sd))), (aI k (a 5) 240 ftext), (aI k (a 16) 9 (upd freadSingle cl nu__14))]) [1, 2, 0] (by decide) rfl
            exact W.iret (v := (nI er_14)) hx hb hr (fun t ht hW => ⟨⟨(nI er_14), (t0__14, wd, we, fp__14, nu__14, na__14, (upd freadSingle cl nu__14), er_14), rfl, ⟨rfl, by omega, by omega, by omega, fun h => absurd h (by omega)⟩, by rw [ht]; exact hP9, hD9⟩, hS.F ht⟩) hS.2.2 dX8_takeSingle_97
          · have c_16 : ¬ (0 < er_14) := fun h => c_16 ((nI_ltI (a := 0) (b := er_14) (by omega) (by omega)).mpr h)
            refine lv_iload_n hx hb dX8_takeSingle_90 rfl (lv_at hl 3 rfl) ?_
            refine lv_bipush (v := 6) hx hb dX8_takeSingle_91 (by decide) ?_
            refine lv_icmp_eq (tgt := 98) hx hb dX8_takeSingle_93 (by decide) (fun _ => ?_) (fun h => absurd ((nI_eq (a := cl) (b := 6) (by omega) (by omega)).mpr (by omega)) h)
            refine lv_aload_n hx hb dX8_takeSingle_98 rfl (lv_at hl 2 rfl) ?_
            refine lv_bipush (v := 116) hx hb dX8_takeSingle_99 (by decide) ?_
            refine lv_bipush (v := 105) hx hb dX8_takeSingle_101 (by decide) ?_
            refine lv_bipush (v := 109) hx hb dX8_takeSingle_103 (by decide) ?_
            refine ro_l (D := D) (va_runS (As := [.int 116, .int 105, .int 109]) (rest := [.ref (a 0)]) ⟨hx, hb, hml, hown, hts⟩ ((m_code l D k st lo 116 105 109) H.size) (va_cwS 3 hts (gS tw_1142 tw_1143 tw_87 tw_1144) rfl rfl rfl (by decide +kernel) ⟨Nat.le_of_ble_eq_true rfl, Nat.le_of_ble_eq_true rfl⟩) (pS hS hAlo hlo hP hK (va_Dlo hD hAlo) hZ [] (by decide) rfl) rfl rfl hl.1 rfl (lv_room (Nat.le_of_ble_eq_true rfl)) dX8_takeSingle_105 ⟨Nat.le_of_ble_eq_true rfl, Nat.le_of_ble_eq_true rfl⟩) hS hA hP (fun r_18 H locs hw_18 hP hS => ?_)
            try dsimp only at hw_18
            refine lv_bipush (v := 101) hx hb dX8_takeSingle_108 (by decide) ?_
            refine lv_bipush (v := 115) hx hb dX8_takeSingle_110 (by decide) ?_
            refine ro_l (D := D) (va_runS (As := [.long r_18, .int 101, .int 115]) (rest := [.ref (a 0)]) ⟨hx, hb, hml, hown, hts⟩ ((m_longest l D k st lo r_18 101 115) H.size) (va_cwS 3 hts (gS tw_1145 tw_1146 tw_87 tw_1147) rfl rfl rfl (by decide +kernel) ⟨Nat.le_of_ble_eq_true rfl, Nat.le_of_ble_eq_true rfl⟩) (pS hS hAlo hlo hP hK (va_Dlo hD hAlo) hZ [] (by decide) rfl) rfl rfl hl.1 rfl (lv_room (Nat.le_of_ble_eq_true rfl)) dX8_takeSingle_112 ⟨Nat.le_of_ble_eq_true rfl, Nat.le_of_ble_eq_true rfl⟩) hS hA hP (fun r_19 H locs hw_19 hP hS => ?_)
            try dsimp only at hw_19
            refine rw_i (D := D) (wr := [(aI k (a 16) 9 (upd freadSingle cl nu__14))]) (va_runV (As := [.long r_19]) (rest := []) ⟨hx, hb, hml, hown, hts⟩ ((m_needs l D k st lo a tx t0__14 we rd ru rw ca fp__14 wd nu__14 na__14 ts df db sd ftext r_19 (by omega) (by omega)) H.size) (cwV 1 hts (gV tw_1169 tw_1171 tw_35 tw_87 tw_1172) rfl rfl rfl (by decide +kernel) ⟨Nat.le_of_ble_eq_true rfl, Nat.le_of_ble_eq_true rfl⟩) (pV hS hAlo hlo hP hK (va_Dlo hD hAlo) hZ [1, 2] (by decide) rfl (ci := 8) (q := (RX8, TX8, 44)) (q0 := 0) rfl rfl) rfl rfl hl.1 rfl (lv_room (Nat.le_of_ble_eq_true rfl)) dX8_takeSingle_115 ⟨Nat.le_of_ble_eq_true rfl, Nat.le_of_ble_eq_true rfl⟩) hS hA hP hD [1, 2] [0] rfl rfl (by decide) (by decide) (fun r_20 u H locs hw_20 hP hD hS => ?_)
            obtain ⟨t0__20, wd__20, we__20, fp__20, er_20⟩ := u
            replace hP : va_P D classes [(aI k (a 16) 9 (upd freadSingle cl nu__14)), ((a 0), .inr (8, (fX8 a (nI tx) fp__20 (nI t0__20) wd__20 (nI we__20) nu__14 na__14 (nI rd) ts (nI ru) (nI rw) (nI ca) df db sd))), (aI k (a 5) 240 ftext)] H := hP
            replace hD : va_D A [(aI k (a 16) 9 (upd freadSingle cl nu__14)), ((a 0), .inr (8, (fX8 a (nI tx) fp__20 (nI t0__20) wd__20 (nI we__20) nu__14 na__14 (nI rd) ts (nI ru) (nI rw) (nI ca) df db sd))), (aI k (a 5) 240 ftext)] := hD
            try dsimp only at hw_20
            obtain ⟨rfl, hw_20⟩ := hw_20
            refine lv_istore_n (lv' := [(3, .int (nI er_20)), (2, .int 60), (0, .ref (a 0)), (1, .int (nI cl))]) hx hb dX8_takeSingle_118 rfl hl (by decide) rfl (fun ls hl => ?_)
            refine lv_iload_n hx hb dX8_takeSingle_119 rfl (lv_at hl 0 rfl) ?_
            refine lv_if_le (tgt := 127) hx hb dX8_takeSingle_120 (by decide) (fun c_21 => ?_) (fun c_21 => ?_)
            · have c_21 := (nI_leI (a := er_20) (b := 0) (by omega) (by omega)).mp c_21
              refine lv_aload_n hx hb dX8_takeSingle_127 rfl (lv_at hl 2 rfl) ?_
              refine lv_iconst (v := 0) hx hb dX8_takeSingle_128 (by decide) ?_
              refine lv_iconst (v := 3) hx hb dX8_takeSingle_129 (by decide) ?_
              refine rw_i (D := D) (wr := [(aI k (a 16) 9 (upd freadSingle cl nu__14))]) (va_runV (As := [.int 0, .int 3]) (rest := []) ⟨hx, hb, hml, hown, hts⟩ ((m_takeNumber l D k st lo a tx t0__20 we__20 rd ru rw ca fp__20 wd__20 nu__14 na__14 ts df db sd ftext 0 3 (by omega) (by omega)) H.size) (cwV 2 hts (gV tw_1159 tw_1161 tw_33 tw_87 tw_1162) rfl rfl rfl (by decide +kernel) ⟨Nat.le_of_ble_eq_true rfl, Nat.le_of_ble_eq_true rfl⟩) (pV hS hAlo hlo hP hK (va_Dlo hD hAlo) hZ [1, 2] (by decide) rfl (ci := 8) (q := (RX8, TX8, 44)) (q0 := 0) rfl rfl) rfl rfl hl.1 rfl (lv_room (Nat.le_of_ble_eq_true rfl)) dX8_takeSingle_130 ⟨Nat.le_of_ble_eq_true rfl, Nat.le_of_ble_eq_true rfl⟩) hS hA hP hD [1, 2] [0] rfl rfl (by decide) (by decide) (fun r_22 u H locs hw_22 hP hD hS => ?_)
              obtain ⟨t0__22, nu__22, na__22, fp__22, er_22⟩ := u
              replace hP : va_P D classes [(aI k (a 16) 9 (upd freadSingle cl nu__14)), ((a 0), .inr (8, (fX8 a (nI tx) fp__22 (nI t0__22) wd__20 (nI we__20) nu__22 na__22 (nI rd) ts (nI ru) (nI rw) (nI ca) df db sd))), (aI k (a 5) 240 ftext)] H := hP
              replace hD : va_D A [(aI k (a 16) 9 (upd freadSingle cl nu__14)), ((a 0), .inr (8, (fX8 a (nI tx) fp__22 (nI t0__22) wd__20 (nI we__20) nu__22 na__22 (nI rd) ts (nI ru) (nI rw) (nI ca) df db sd))), (aI k (a 5) 240 ftext)] := hD
              try dsimp only at hw_22
              obtain ⟨rfl, hw_22⟩ := hw_22
              refine lv_istore_n (lv' := [(3, .int (nI er_22)), (2, .int 60), (0, .ref (a 0)), (1, .int (nI cl))]) hx hb dX8_takeSingle_133 rfl hl (by decide) rfl (fun ls hl => ?_)
              refine lv_aload_n hx hb dX8_takeSingle_134 rfl (lv_at hl 2 rfl) ?_
              refine va_get (D := D) (ci := 8) (v := .ref (a 16)) (C := RX8) (T := TX8) (N := 44) hx hb hts inX8 hown hK hP 1 rfl rfl 15 (by decide) (hts _ tw_988) (fun _ h9 => h9) rfl dX8_takeSingle_135 ?_
              refine lv_bipush (v := 7) hx hb dX8_takeSingle_138 (by decide) ?_
              refine lv_aload_n hx hb dX8_takeSingle_140 rfl (lv_at hl 2 rfl) ?_
              refine va_get (D := D) (ci := 8) (v := .int nu__22) (C := RX8) (T := TX8) (N := 44) hx hb hts inX8 hown hK hP 1 rfl rfl 10 (by decide) (hts _ tw_983) (fun _ h9 => h9) rfl dX8_takeSingle_141 ?_
              refine va_iast hx hb hK hP hD hS 0 1 rfl rfl (by unfold vp_in; decide) dX8_takeSingle_144 (fun H locs hP hD hS => ?_)
              replace hP : va_P D classes [(aI k (a 16) 9 (upd (upd freadSingle cl nu__14) (Int32.toNatClampNeg 7) nu__22)), ((a 0), .inr (8, (fX8 a (nI tx) fp__22 (nI t0__22) wd__20 (nI we__20) nu__22 na__22 (nI rd) ts (nI ru) (nI rw) (nI ca) df db sd))), (aI k (a 5) 240 ftext)] H := hP
              replace hD : va_D A [(aI k (a 16) 9 (upd (upd freadSingle cl nu__14) (Int32.toNatClampNeg 7) nu__22)), ((a 0), .inr (8, (fX8 a (nI tx) fp__22 (nI t0__22) wd__20 (nI we__20) nu__22 na__22 (nI rd) ts (nI ru) (nI rw) (nI ca) df db sd))), (aI k (a 5) 240 ftext)] := hD
              replace hP : va_P D classes [(aI k (a 16) 9 (upd (upd freadSingle cl nu__14) 7 nu__22)), ((a 0), .inr (8, (fX8 a (nI tx) fp__22 (nI t0__22) wd__20 (nI we__20) nu__22 na__22 (nI rd) ts (nI ru) (nI rw) (nI ca) df db sd))), (aI k (a 5) 240 ftext)] H := hP
              replace hD : va_D A [(aI k (a 16) 9 (upd (upd freadSingle cl nu__14) 7 nu__22)), ((a 0), .inr (8, (fX8 a (nI tx) fp__22 (nI t0__22) wd__20 (nI we__20) nu__22 na__22 (nI rd) ts (nI ru) (nI rw) (nI ca) df db sd))), (aI k (a 5) 240 ftext)] := hD
              refine lv_iload_n hx hb dX8_takeSingle_145 rfl (lv_at hl 0 rfl) ?_
              have hP9 := hP.sub (ws' := [((a 0), .inr (8, (fX8 a (nI tx) fp__22 (nI t0__22) wd__20 (nI we__20) nu__22 na__22 (nI rd) ts (nI ru) (nI rw) (nI ca) df db sd))), (aI k (a 5) 240 ftext), (aI k (a 16) 9 (upd (upd freadSingle cl nu__14) 7 nu__22))]) [1, 2, 0] rfl
              have hD9 := hD.sub (ws' := [((a 0), .inr (8, (fX8 a (nI tx) fp__22 (nI t0__22) wd__20 (nI we__20) nu__22 na__22 (nI rd) ts (nI ru) (nI rw) (nI ca) df db sd))), (aI k (a 5) 240 ftext), (aI k (a 16) 9 (upd (upd freadSingle cl nu__14) 7 nu__22))]) [1, 2, 0] (by decide) rfl
              exact W.iret (v := (nI er_22)) hx hb hr (fun t ht hW => ⟨⟨(nI er_22), (t0__22, wd__20, we__20, fp__22, nu__22, na__22, (upd (upd freadSingle cl nu__14) 7 nu__22), er_22), rfl, ⟨rfl, by omega, by omega, by omega, fun h => (rsOK_upd (rsOK_upd hrs cl _ (fun h5 => absurd h5 (by omega)) (fun h7 => absurd h7 (by omega))) 7 _ (fun h5 => absurd h5 (by omega)) (fun _ => rs_in (n := 3) (by omega) (hw_22.2.2.2.2 (by omega))))⟩, by rw [ht]; exact hP9, hD9⟩, hS.F ht⟩) hS.2.2 dX8_takeSingle_146
            · have c_21 : ¬ (er_20 ≤ 0) := fun h => c_21 ((nI_leI (a := er_20) (b := 0) (by omega) (by omega)).mpr h)
              refine lv_iload_n hx hb dX8_takeSingle_123 rfl (lv_at hl 0 rfl) ?_
              refine lv_goto (tgt := 133) hx hb dX8_takeSingle_124 (by decide) ?_
              refine lv_istore_n (lv' := [(3, .int (nI er_20)), (2, .int 60), (0, .ref (a 0)), (1, .int (nI cl))]) hx hb dX8_takeSingle_133 rfl hl (by decide) rfl (fun ls hl => ?_)
              refine lv_aload_n hx hb dX8_takeSingle_134 rfl (lv_at hl 2 rfl) ?_
              refine va_get (D := D) (ci := 8) (v := .ref (a 16)) (C := RX8) (T := TX8) (N := 44) hx hb hts inX8 hown hK hP 1 rfl rfl 15 (by decide) (hts _ tw_988) (fun _ h9 => h9) rfl dX8_takeSingle_135 ?_
              refine lv_bipush (v := 7) hx hb dX8_takeSingle_138 (by decide) ?_
              refine lv_aload_n hx hb dX8_takeSingle_140 rfl (lv_at hl 2 rfl) ?_
              refine va_get (D := D) (ci := 8) (v := .int nu__14) (C := RX8) (T := TX8) (N := 44) hx hb hts inX8 hown hK hP 1 rfl rfl 10 (by decide) (hts _ tw_983) (fun _ h9 => h9) rfl dX8_takeSingle_141 ?_
              refine va_iast hx hb hK hP hD hS 0 1 rfl rfl (by unfold vp_in; decide) dX8_takeSingle_144 (fun H locs hP hD hS => ?_)
              replace hP : va_P D classes [(aI k (a 16) 9 (upd (upd freadSingle cl nu__14) (Int32.toNatClampNeg 7) nu__14)), ((a 0), .inr (8, (fX8 a (nI tx) fp__20 (nI t0__20) wd__20 (nI we__20) nu__14 na__14 (nI rd) ts (nI ru) (nI rw) (nI ca) df db sd))), (aI k (a 5) 240 ftext)] H := hP
              replace hD : va_D A [(aI k (a 16) 9 (upd (upd freadSingle cl nu__14) (Int32.toNatClampNeg 7) nu__14)), ((a 0), .inr (8, (fX8 a (nI tx) fp__20 (nI t0__20) wd__20 (nI we__20) nu__14 na__14 (nI rd) ts (nI ru) (nI rw) (nI ca) df db sd))), (aI k (a 5) 240 ftext)] := hD
              replace hP : va_P D classes [(aI k (a 16) 9 (upd (upd freadSingle cl nu__14) 7 nu__14)), ((a 0), .inr (8, (fX8 a (nI tx) fp__20 (nI t0__20) wd__20 (nI we__20) nu__14 na__14 (nI rd) ts (nI ru) (nI rw) (nI ca) df db sd))), (aI k (a 5) 240 ftext)] H := hP
              replace hD : va_D A [(aI k (a 16) 9 (upd (upd freadSingle cl nu__14) 7 nu__14)), ((a 0), .inr (8, (fX8 a (nI tx) fp__20 (nI t0__20) wd__20 (nI we__20) nu__14 na__14 (nI rd) ts (nI ru) (nI rw) (nI ca) df db sd))), (aI k (a 5) 240 ftext)] := hD
              refine lv_iload_n hx hb dX8_takeSingle_145 rfl (lv_at hl 0 rfl) ?_
              have hP9 := hP.sub (ws' := [((a 0), .inr (8, (fX8 a (nI tx) fp__20 (nI t0__20) wd__20 (nI we__20) nu__14 na__14 (nI rd) ts (nI ru) (nI rw) (nI ca) df db sd))), (aI k (a 5) 240 ftext), (aI k (a 16) 9 (upd (upd freadSingle cl nu__14) 7 nu__14))]) [1, 2, 0] rfl
              have hD9 := hD.sub (ws' := [((a 0), .inr (8, (fX8 a (nI tx) fp__20 (nI t0__20) wd__20 (nI we__20) nu__14 na__14 (nI rd) ts (nI ru) (nI rw) (nI ca) df db sd))), (aI k (a 5) 240 ftext), (aI k (a 16) 9 (upd (upd freadSingle cl nu__14) 7 nu__14))]) [1, 2, 0] (by decide) rfl
              exact W.iret (v := (nI er_20)) hx hb hr (fun t ht hW => ⟨⟨(nI er_20), (t0__20, wd__20, we__20, fp__20, nu__14, na__14, (upd (upd freadSingle cl nu__14) 7 nu__14), er_20), rfl, ⟨rfl, by omega, by omega, by omega, fun h => absurd h (by omega)⟩, by rw [ht]; exact hP9, hD9⟩, hS.F ht⟩) hS.2.2 dX8_takeSingle_146
      · have c_3 := (nI_eq (a := cl) (b := 5) (by omega) (by omega)).mp c_3
        refine lv_iconst (v := 2) hx hb dX8_takeSingle_39 (by decide) ?_
        refine lv_goto (tgt := 68) hx hb dX8_takeSingle_40 (by decide) ?_
        refine lv_istore_n (lv' := [(2, .int 2), (0, .ref (a 0)), (1, .int (nI cl))]) hx hb dX8_takeSingle_68 rfl hl (by decide) rfl (fun ls hl => ?_)
        refine lv_aload_n hx hb dX8_takeSingle_69 rfl (lv_at hl 1 rfl) ?_
        refine lv_iconst (v := 0) hx hb dX8_takeSingle_70 (by decide) ?_
        refine lv_iload_n hx hb dX8_takeSingle_71 rfl (lv_at hl 0 rfl) ?_
        refine rw_i (D := D) (wr := [(aI k (a 16) 9 freadSingle)]) (va_runV (As := [.int 0, .int 2]) (rest := []) ⟨hx, hb, hml, hown, hts⟩ ((m_takeNumber l D k st lo a tx t0 we rd ru rw ca fp wd nu na ts df db sd ftext 0 2 (by omega) (by omega)) s.heap.size) (cwV 2 hts (gV tw_1159 tw_1161 tw_33 tw_87 tw_1162) rfl rfl rfl (by decide +kernel) ⟨Nat.le_of_ble_eq_true rfl, Nat.le_of_ble_eq_true rfl⟩) (pV hS hAlo hlo hP hK (va_Dlo hD hAlo) hZ [0, 1] (by decide) rfl (ci := 8) (q := (RX8, TX8, 44)) (q0 := 0) rfl rfl) rfl rfl hl.1 rfl (lv_room (Nat.le_of_ble_eq_true rfl)) dX8_takeSingle_72 ⟨Nat.le_of_ble_eq_true rfl, Nat.le_of_ble_eq_true rfl⟩) hS hA hP hD [0, 1] [2] rfl rfl (by decide) (by decide) (fun r_25 u H locs hw_25 hP hD hS => ?_)
        obtain ⟨t0__25, nu__25, na__25, fp__25, er_25⟩ := u
        replace hP : va_P D classes [(aI k (a 16) 9 freadSingle), ((a 0), .inr (8, (fX8 a (nI tx) fp__25 (nI t0__25) wd (nI we) nu__25 na__25 (nI rd) ts (nI ru) (nI rw) (nI ca) df db sd))), (aI k (a 5) 240 ftext)] H := hP
        replace hD : va_D A [(aI k (a 16) 9 freadSingle), ((a 0), .inr (8, (fX8 a (nI tx) fp__25 (nI t0__25) wd (nI we) nu__25 na__25 (nI rd) ts (nI ru) (nI rw) (nI ca) df db sd))), (aI k (a 5) 240 ftext)] := hD
        try dsimp only at hw_25
        obtain ⟨rfl, hw_25⟩ := hw_25
        refine lv_istore_n (lv' := [(3, .int (nI er_25)), (2, .int 2), (0, .ref (a 0)), (1, .int (nI cl))]) hx hb dX8_takeSingle_75 rfl hl (by decide) rfl (fun ls hl => ?_)
        refine lv_aload_n hx hb dX8_takeSingle_76 rfl (lv_at hl 2 rfl) ?_
        refine va_get (D := D) (ci := 8) (v := .ref (a 16)) (C := RX8) (T := TX8) (N := 44) hx hb hts inX8 hown hK hP 1 rfl rfl 15 (by decide) (hts _ tw_988) (fun _ h9 => h9) rfl dX8_takeSingle_77 ?_
        refine lv_iload_n hx hb dX8_takeSingle_80 rfl (lv_at hl 3 rfl) ?_
        refine lv_aload_n hx hb dX8_takeSingle_81 rfl (lv_at hl 2 rfl) ?_
        refine va_get (D := D) (ci := 8) (v := .int nu__25) (C := RX8) (T := TX8) (N := 44) hx hb hts inX8 hown hK hP 1 rfl rfl 10 (by decide) (hts _ tw_983) (fun _ h9 => h9) rfl dX8_takeSingle_82 ?_
        refine va_iast hx hb hK hP hD hS 0 1 rfl rfl (vp_in_nI (by omega) (by decide)) dX8_takeSingle_85 (fun H locs hP hD hS => ?_)
        replace hP : va_P D classes [(aI k (a 16) 9 (upd freadSingle (Int32.toNatClampNeg (nI cl)) nu__25)), ((a 0), .inr (8, (fX8 a (nI tx) fp__25 (nI t0__25) wd (nI we) nu__25 na__25 (nI rd) ts (nI ru) (nI rw) (nI ca) df db sd))), (aI k (a 5) 240 ftext)] H := hP
        replace hD : va_D A [(aI k (a 16) 9 (upd freadSingle (Int32.toNatClampNeg (nI cl)) nu__25)), ((a 0), .inr (8, (fX8 a (nI tx) fp__25 (nI t0__25) wd (nI we) nu__25 na__25 (nI rd) ts (nI ru) (nI rw) (nI ca) df db sd))), (aI k (a 5) 240 ftext)] := hD
        rw [nI_clamp (n := cl) (by omega)] at hP hD
        replace hP : va_P D classes [(aI k (a 16) 9 (upd freadSingle cl nu__25)), ((a 0), .inr (8, (fX8 a (nI tx) fp__25 (nI t0__25) wd (nI we) nu__25 na__25 (nI rd) ts (nI ru) (nI rw) (nI ca) df db sd))), (aI k (a 5) 240 ftext)] H := hP
        replace hD : va_D A [(aI k (a 16) 9 (upd freadSingle cl nu__25)), ((a 0), .inr (8, (fX8 a (nI tx) fp__25 (nI t0__25) wd (nI we) nu__25 na__25 (nI rd) ts (nI ru) (nI rw) (nI ca) df db sd))), (aI k (a 5) 240 ftext)] := hD
        refine lv_iload_n hx hb dX8_takeSingle_86 rfl (lv_at hl 0 rfl) ?_
        refine lv_if_gt (tgt := 96) hx hb dX8_takeSingle_87 (by decide) (fun c_27 => ?_) (fun c_27 => ?_)
        · have c_27 := (nI_ltI (a := 0) (b := er_25) (by omega) (by omega)).mp c_27
          refine lv_iload_n hx hb dX8_takeSingle_96 rfl (lv_at hl 0 rfl) ?_
          have hP9 := hP.sub (ws' := [((a 0), .inr (8, (fX8 a (nI tx) fp__25 (nI t0__25) wd (nI we) nu__25 na__25 (nI rd) ts (nI ru) (nI rw) (nI ca) df db sd))), (aI k (a 5) 240 ftext), (aI k (a 16) 9 (upd freadSingle cl nu__25))]) [1, 2, 0] rfl
          have hD9 := hD.sub (ws' := [((a 0), .inr (8, (fX8 a (nI tx) fp__25 (nI t0__25) wd (nI we) nu__25 na__25 (nI rd) ts (nI ru) (nI rw) (nI ca) df db sd))), (aI k (a 5) 240 ftext), (aI k (a 16) 9 (upd freadSingle cl nu__25))]) [1, 2, 0] (by decide) rfl
          exact W.iret (v := (nI er_25)) hx hb hr (fun t ht hW => ⟨⟨(nI er_25), (t0__25, wd, we, fp__25, nu__25, na__25, (upd freadSingle cl nu__25), er_25), rfl, ⟨rfl, by omega, by omega, by omega, fun h => absurd h (by omega)⟩, by rw [ht]; exact hP9, hD9⟩, hS.F ht⟩) hS.2.2 dX8_takeSingle_97
        · have c_27 : ¬ (0 < er_25) := fun h => c_27 ((nI_ltI (a := 0) (b := er_25) (by omega) (by omega)).mpr h)
          refine lv_iload_n hx hb dX8_takeSingle_90 rfl (lv_at hl 3 rfl) ?_
          refine lv_bipush (v := 6) hx hb dX8_takeSingle_91 (by decide) ?_
          refine lv_icmp_eq (tgt := 98) hx hb dX8_takeSingle_93 (by decide) (fun h => absurd ((nI_eq (a := cl) (b := 6) (by omega) (by omega)).mp h) (by omega)) (fun _ => ?_)
          refine lv_iload_n hx hb dX8_takeSingle_96 rfl (lv_at hl 0 rfl) ?_
          have hP9 := hP.sub (ws' := [((a 0), .inr (8, (fX8 a (nI tx) fp__25 (nI t0__25) wd (nI we) nu__25 na__25 (nI rd) ts (nI ru) (nI rw) (nI ca) df db sd))), (aI k (a 5) 240 ftext), (aI k (a 16) 9 (upd freadSingle cl nu__25))]) [1, 2, 0] rfl
          have hD9 := hD.sub (ws' := [((a 0), .inr (8, (fX8 a (nI tx) fp__25 (nI t0__25) wd (nI we) nu__25 na__25 (nI rd) ts (nI ru) (nI rw) (nI ca) df db sd))), (aI k (a 5) 240 ftext), (aI k (a 16) 9 (upd freadSingle cl nu__25))]) [1, 2, 0] (by decide) rfl
          exact W.iret (v := (nI er_25)) hx hb hr (fun t ht hW => ⟨⟨(nI er_25), (t0__25, wd, we, fp__25, nu__25, na__25, (upd freadSingle cl nu__25), er_25), rfl, ⟨rfl, by omega, by omega, by omega, fun h => (rsOK_upd hrs cl _ (fun _ => rs_in (n := 2) (by omega) (hw_25.2.2.2.2 (by omega))) (fun h7 => absurd h7 (by omega)))⟩, by rw [ht]; exact hP9, hD9⟩, hS.F ht⟩) hS.2.2 dX8_takeSingle_97
    · have c_2 := (nI_eq (a := cl) (b := 4) (by omega) (by omega)).mp c_2
      refine lv_sipush (v := 200) hx hb dX8_takeSingle_28 (by decide) ?_
      refine lv_goto (tgt := 68) hx hb dX8_takeSingle_31 (by decide) ?_
      refine lv_istore_n (lv' := [(2, .int 200), (0, .ref (a 0)), (1, .int (nI cl))]) hx hb dX8_takeSingle_68 rfl hl (by decide) rfl (fun ls hl => ?_)
      refine lv_aload_n hx hb dX8_takeSingle_69 rfl (lv_at hl 1 rfl) ?_
      refine lv_iconst (v := 0) hx hb dX8_takeSingle_70 (by decide) ?_
      refine lv_iload_n hx hb dX8_takeSingle_71 rfl (lv_at hl 0 rfl) ?_
      refine rw_i (D := D) (wr := [(aI k (a 16) 9 freadSingle)]) (va_runV (As := [.int 0, .int 200]) (rest := []) ⟨hx, hb, hml, hown, hts⟩ ((m_takeNumber l D k st lo a tx t0 we rd ru rw ca fp wd nu na ts df db sd ftext 0 200 (by omega) (by omega)) s.heap.size) (cwV 2 hts (gV tw_1159 tw_1161 tw_33 tw_87 tw_1162) rfl rfl rfl (by decide +kernel) ⟨Nat.le_of_ble_eq_true rfl, Nat.le_of_ble_eq_true rfl⟩) (pV hS hAlo hlo hP hK (va_Dlo hD hAlo) hZ [0, 1] (by decide) rfl (ci := 8) (q := (RX8, TX8, 44)) (q0 := 0) rfl rfl) rfl rfl hl.1 rfl (lv_room (Nat.le_of_ble_eq_true rfl)) dX8_takeSingle_72 ⟨Nat.le_of_ble_eq_true rfl, Nat.le_of_ble_eq_true rfl⟩) hS hA hP hD [0, 1] [2] rfl rfl (by decide) (by decide) (fun r_29 u H locs hw_29 hP hD hS => ?_)
      obtain ⟨t0__29, nu__29, na__29, fp__29, er_29⟩ := u
      replace hP : va_P D classes [(aI k (a 16) 9 freadSingle), ((a 0), .inr (8, (fX8 a (nI tx) fp__29 (nI t0__29) wd (nI we) nu__29 na__29 (nI rd) ts (nI ru) (nI rw) (nI ca) df db sd))), (aI k (a 5) 240 ftext)] H := hP
      replace hD : va_D A [(aI k (a 16) 9 freadSingle), ((a 0), .inr (8, (fX8 a (nI tx) fp__29 (nI t0__29) wd (nI we) nu__29 na__29 (nI rd) ts (nI ru) (nI rw) (nI ca) df db sd))), (aI k (a 5) 240 ftext)] := hD
      try dsimp only at hw_29
      obtain ⟨rfl, hw_29⟩ := hw_29
      refine lv_istore_n (lv' := [(3, .int (nI er_29)), (2, .int 200), (0, .ref (a 0)), (1, .int (nI cl))]) hx hb dX8_takeSingle_75 rfl hl (by decide) rfl (fun ls hl => ?_)
      refine lv_aload_n hx hb dX8_takeSingle_76 rfl (lv_at hl 2 rfl) ?_
      refine va_get (D := D) (ci := 8) (v := .ref (a 16)) (C := RX8) (T := TX8) (N := 44) hx hb hts inX8 hown hK hP 1 rfl rfl 15 (by decide) (hts _ tw_988) (fun _ h9 => h9) rfl dX8_takeSingle_77 ?_
      refine lv_iload_n hx hb dX8_takeSingle_80 rfl (lv_at hl 3 rfl) ?_
      refine lv_aload_n hx hb dX8_takeSingle_81 rfl (lv_at hl 2 rfl) ?_
      refine va_get (D := D) (ci := 8) (v := .int nu__29) (C := RX8) (T := TX8) (N := 44) hx hb hts inX8 hown hK hP 1 rfl rfl 10 (by decide) (hts _ tw_983) (fun _ h9 => h9) rfl dX8_takeSingle_82 ?_
      refine va_iast hx hb hK hP hD hS 0 1 rfl rfl (vp_in_nI (by omega) (by decide)) dX8_takeSingle_85 (fun H locs hP hD hS => ?_)
      replace hP : va_P D classes [(aI k (a 16) 9 (upd freadSingle (Int32.toNatClampNeg (nI cl)) nu__29)), ((a 0), .inr (8, (fX8 a (nI tx) fp__29 (nI t0__29) wd (nI we) nu__29 na__29 (nI rd) ts (nI ru) (nI rw) (nI ca) df db sd))), (aI k (a 5) 240 ftext)] H := hP
      replace hD : va_D A [(aI k (a 16) 9 (upd freadSingle (Int32.toNatClampNeg (nI cl)) nu__29)), ((a 0), .inr (8, (fX8 a (nI tx) fp__29 (nI t0__29) wd (nI we) nu__29 na__29 (nI rd) ts (nI ru) (nI rw) (nI ca) df db sd))), (aI k (a 5) 240 ftext)] := hD
      rw [nI_clamp (n := cl) (by omega)] at hP hD
      replace hP : va_P D classes [(aI k (a 16) 9 (upd freadSingle cl nu__29)), ((a 0), .inr (8, (fX8 a (nI tx) fp__29 (nI t0__29) wd (nI we) nu__29 na__29 (nI rd) ts (nI ru) (nI rw) (nI ca) df db sd))), (aI k (a 5) 240 ftext)] H := hP
      replace hD : va_D A [(aI k (a 16) 9 (upd freadSingle cl nu__29)), ((a 0), .inr (8, (fX8 a (nI tx) fp__29 (nI t0__29) wd (nI we) nu__29 na__29 (nI rd) ts (nI ru) (nI rw) (nI ca) df db sd))), (aI k (a 5) 240 ftext)] := hD
      refine lv_iload_n hx hb dX8_takeSingle_86 rfl (lv_at hl 0 rfl) ?_
      refine lv_if_gt (tgt := 96) hx hb dX8_takeSingle_87 (by decide) (fun c_31 => ?_) (fun c_31 => ?_)
      · have c_31 := (nI_ltI (a := 0) (b := er_29) (by omega) (by omega)).mp c_31
        refine lv_iload_n hx hb dX8_takeSingle_96 rfl (lv_at hl 0 rfl) ?_
        have hP9 := hP.sub (ws' := [((a 0), .inr (8, (fX8 a (nI tx) fp__29 (nI t0__29) wd (nI we) nu__29 na__29 (nI rd) ts (nI ru) (nI rw) (nI ca) df db sd))), (aI k (a 5) 240 ftext), (aI k (a 16) 9 (upd freadSingle cl nu__29))]) [1, 2, 0] rfl
        have hD9 := hD.sub (ws' := [((a 0), .inr (8, (fX8 a (nI tx) fp__29 (nI t0__29) wd (nI we) nu__29 na__29 (nI rd) ts (nI ru) (nI rw) (nI ca) df db sd))), (aI k (a 5) 240 ftext), (aI k (a 16) 9 (upd freadSingle cl nu__29))]) [1, 2, 0] (by decide) rfl
        exact W.iret (v := (nI er_29)) hx hb hr (fun t ht hW => ⟨⟨(nI er_29), (t0__29, wd, we, fp__29, nu__29, na__29, (upd freadSingle cl nu__29), er_29), rfl, ⟨rfl, by omega, by omega, by omega, fun h => absurd h (by omega)⟩, by rw [ht]; exact hP9, hD9⟩, hS.F ht⟩) hS.2.2 dX8_takeSingle_97
      · have c_31 : ¬ (0 < er_29) := fun h => c_31 ((nI_ltI (a := 0) (b := er_29) (by omega) (by omega)).mpr h)
        refine lv_iload_n hx hb dX8_takeSingle_90 rfl (lv_at hl 3 rfl) ?_
        refine lv_bipush (v := 6) hx hb dX8_takeSingle_91 (by decide) ?_
        refine lv_icmp_eq (tgt := 98) hx hb dX8_takeSingle_93 (by decide) (fun h => absurd ((nI_eq (a := cl) (b := 6) (by omega) (by omega)).mp h) (by omega)) (fun _ => ?_)
        refine lv_iload_n hx hb dX8_takeSingle_96 rfl (lv_at hl 0 rfl) ?_
        have hP9 := hP.sub (ws' := [((a 0), .inr (8, (fX8 a (nI tx) fp__29 (nI t0__29) wd (nI we) nu__29 na__29 (nI rd) ts (nI ru) (nI rw) (nI ca) df db sd))), (aI k (a 5) 240 ftext), (aI k (a 16) 9 (upd freadSingle cl nu__29))]) [1, 2, 0] rfl
        have hD9 := hD.sub (ws' := [((a 0), .inr (8, (fX8 a (nI tx) fp__29 (nI t0__29) wd (nI we) nu__29 na__29 (nI rd) ts (nI ru) (nI rw) (nI ca) df db sd))), (aI k (a 5) 240 ftext), (aI k (a 16) 9 (upd freadSingle cl nu__29))]) [1, 2, 0] (by decide) rfl
        exact W.iret (v := (nI er_29)) hx hb hr (fun t ht hW => ⟨⟨(nI er_29), (t0__29, wd, we, fp__29, nu__29, na__29, (upd freadSingle cl nu__29), er_29), rfl, ⟨rfl, by omega, by omega, by omega, fun h => (rsOK_upd hrs cl _ (fun h5 => absurd h5 (by omega)) (fun h7 => absurd h7 (by omega)))⟩, by rw [ht]; exact hP9, hD9⟩, hS.F ht⟩) hS.2.2 dX8_takeSingle_97
  · have c_1 := (nI_eq (a := cl) (b := 0) (by omega) (by omega)).mp c_1
    refine lv_aload_n hx hb dX8_takeSingle_4 rfl (lv_at hl 0 rfl) ?_
    refine lv_bipush (v := 50) hx hb dX8_takeSingle_5 (by decide) ?_
    refine rw_i (D := D) (wr := [(aI k (a 16) 9 freadSingle)]) (va_runV (As := [.int 50]) (rest := []) ⟨hx, hb, hml, hown, hts⟩ ((m_takeSigned l D k st lo a tx t0 we rd ru rw ca fp wd nu na ts df db sd ftext 50 (by omega) (by omega)) s.heap.size) (cwV 1 hts (gV tw_1177 tw_1179 tw_37 tw_87 tw_1180) rfl rfl rfl (by decide +kernel) ⟨Nat.le_of_ble_eq_true rfl, Nat.le_of_ble_eq_true rfl⟩) (pV hS hAlo hlo hP hK (va_Dlo hD hAlo) hZ [0, 1] (by decide) rfl (ci := 8) (q := (RX8, TX8, 44)) (q0 := 0) rfl rfl) rfl rfl hl.1 rfl (lv_room (Nat.le_of_ble_eq_true rfl)) dX8_takeSingle_7 ⟨Nat.le_of_ble_eq_true rfl, Nat.le_of_ble_eq_true rfl⟩) hS hA hP hD [0, 1] [2] rfl rfl (by decide) (by decide) (fun r_33 u H locs hw_33 hP hD hS => ?_)
    obtain ⟨t0__33, nu__33, na__33, fp__33, er_33⟩ := u
    replace hP : va_P D classes [(aI k (a 16) 9 freadSingle), ((a 0), .inr (8, (fX8 a (nI tx) fp__33 (nI t0__33) wd (nI we) nu__33 na__33 (nI rd) ts (nI ru) (nI rw) (nI ca) df db sd))), (aI k (a 5) 240 ftext)] H := hP
    replace hD : va_D A [(aI k (a 16) 9 freadSingle), ((a 0), .inr (8, (fX8 a (nI tx) fp__33 (nI t0__33) wd (nI we) nu__33 na__33 (nI rd) ts (nI ru) (nI rw) (nI ca) df db sd))), (aI k (a 5) 240 ftext)] := hD
    try dsimp only at hw_33
    obtain ⟨rfl, hw_33⟩ := hw_33
    refine lv_istore_n (lv' := [(2, .int (nI er_33)), (0, .ref (a 0)), (1, .int (nI cl))]) hx hb dX8_takeSingle_10 rfl hl (by decide) rfl (fun ls hl => ?_)
    refine lv_aload_n hx hb dX8_takeSingle_11 rfl (lv_at hl 1 rfl) ?_
    refine va_get (D := D) (ci := 8) (v := .ref (a 16)) (C := RX8) (T := TX8) (N := 44) hx hb hts inX8 hown hK hP 1 rfl rfl 15 (by decide) (hts _ tw_988) (fun _ h9 => h9) rfl dX8_takeSingle_12 ?_
    refine lv_iconst (v := 0) hx hb dX8_takeSingle_15 (by decide) ?_
    refine lv_aload_n hx hb dX8_takeSingle_16 rfl (lv_at hl 1 rfl) ?_
    refine va_get (D := D) (ci := 8) (v := .int nu__33) (C := RX8) (T := TX8) (N := 44) hx hb hts inX8 hown hK hP 1 rfl rfl 10 (by decide) (hts _ tw_983) (fun _ h9 => h9) rfl dX8_takeSingle_17 ?_
    refine va_iast hx hb hK hP hD hS 0 1 rfl rfl (by unfold vp_in; decide) dX8_takeSingle_20 (fun H locs hP hD hS => ?_)
    replace hP : va_P D classes [(aI k (a 16) 9 (upd freadSingle (Int32.toNatClampNeg 0) nu__33)), ((a 0), .inr (8, (fX8 a (nI tx) fp__33 (nI t0__33) wd (nI we) nu__33 na__33 (nI rd) ts (nI ru) (nI rw) (nI ca) df db sd))), (aI k (a 5) 240 ftext)] H := hP
    replace hD : va_D A [(aI k (a 16) 9 (upd freadSingle (Int32.toNatClampNeg 0) nu__33)), ((a 0), .inr (8, (fX8 a (nI tx) fp__33 (nI t0__33) wd (nI we) nu__33 na__33 (nI rd) ts (nI ru) (nI rw) (nI ca) df db sd))), (aI k (a 5) 240 ftext)] := hD
    replace hP : va_P D classes [(aI k (a 16) 9 (upd freadSingle 0 nu__33)), ((a 0), .inr (8, (fX8 a (nI tx) fp__33 (nI t0__33) wd (nI we) nu__33 na__33 (nI rd) ts (nI ru) (nI rw) (nI ca) df db sd))), (aI k (a 5) 240 ftext)] H := hP
    replace hD : va_D A [(aI k (a 16) 9 (upd freadSingle 0 nu__33)), ((a 0), .inr (8, (fX8 a (nI tx) fp__33 (nI t0__33) wd (nI we) nu__33 na__33 (nI rd) ts (nI ru) (nI rw) (nI ca) df db sd))), (aI k (a 5) 240 ftext)] := hD
    refine lv_iload_n hx hb dX8_takeSingle_21 rfl (lv_at hl 0 rfl) ?_
    have hP9 := hP.sub (ws' := [((a 0), .inr (8, (fX8 a (nI tx) fp__33 (nI t0__33) wd (nI we) nu__33 na__33 (nI rd) ts (nI ru) (nI rw) (nI ca) df db sd))), (aI k (a 5) 240 ftext), (aI k (a 16) 9 (upd freadSingle 0 nu__33))]) [1, 2, 0] rfl
    have hD9 := hD.sub (ws' := [((a 0), .inr (8, (fX8 a (nI tx) fp__33 (nI t0__33) wd (nI we) nu__33 na__33 (nI rd) ts (nI ru) (nI rw) (nI ca) df db sd))), (aI k (a 5) 240 ftext), (aI k (a 16) 9 (upd freadSingle 0 nu__33))]) [1, 2, 0] (by decide) rfl
    exact W.iret (v := (nI er_33)) hx hb hr (fun t ht hW => ⟨⟨(nI er_33), (t0__33, wd, we, fp__33, nu__33, na__33, (upd freadSingle 0 nu__33), er_33), rfl, ⟨rfl, by omega, by omega, by omega, fun h => (rsOK_upd hrs 0 _ (fun h5 => absurd h5 (by omega)) (fun h7 => absurd h7 (by omega)))⟩, by rw [ht]; exact hP9, hD9⟩, hS.F ht⟩) hS.2.2 dX8_takeSingle_22

theorem dX8_takeClause_0 : decode cX8_takeClause 0 = .ok (.aload_n 0, 1) := by decide +kernel
theorem dX8_takeClause_1 : decode cX8_takeClause 1 = .ok (.invokevirtual 156, 3) := by decide +kernel
theorem dX8_takeClause_4 : decode cX8_takeClause 4 = .ok (.aload_n 0, 1) := by decide +kernel
theorem dX8_takeClause_5 : decode cX8_takeClause 5 = .ok (.invokevirtual 194, 3) := by decide +kernel
theorem dX8_takeClause_8 : decode cX8_takeClause 8 = .ok (.istore_n 1, 1) := by decide +kernel
theorem dX8_takeClause_9 : decode cX8_takeClause 9 = .ok (.iload_n 1, 1) := by decide +kernel
theorem dX8_takeClause_10 : decode cX8_takeClause 10 = .ok (.ifCond .lt 25, 3) := by decide +kernel
theorem dX8_takeClause_13 : decode cX8_takeClause 13 = .ok (.iload_n 1, 1) := by decide +kernel
theorem dX8_takeClause_14 : decode cX8_takeClause 14 = .ok (.bipush 9, 2) := by decide +kernel
theorem dX8_takeClause_16 : decode cX8_takeClause 16 = .ok (.if_icmp .ge 19, 3) := by decide +kernel
theorem dX8_takeClause_19 : decode cX8_takeClause 19 = .ok (.aload_n 0, 1) := by decide +kernel
theorem dX8_takeClause_20 : decode cX8_takeClause 20 = .ok (.getfield 180, 3) := by decide +kernel
theorem dX8_takeClause_23 : decode cX8_takeClause 23 = .ok (.iload_n 1, 1) := by decide +kernel
theorem dX8_takeClause_24 : decode cX8_takeClause 24 = .ok (.ishr, 1) := by decide +kernel
theorem dX8_takeClause_25 : decode cX8_takeClause 25 = .ok (.iconst 1, 1) := by decide +kernel
theorem dX8_takeClause_26 : decode cX8_takeClause 26 = .ok (.iand, 1) := by decide +kernel
theorem dX8_takeClause_27 : decode cX8_takeClause 27 = .ok (.iconst 1, 1) := by decide +kernel
theorem dX8_takeClause_28 : decode cX8_takeClause 28 = .ok (.if_icmp .ne 7, 3) := by decide +kernel
theorem dX8_takeClause_31 : decode cX8_takeClause 31 = .ok (.iconst 1, 1) := by decide +kernel
theorem dX8_takeClause_32 : decode cX8_takeClause 32 = .ok (.goto 4, 3) := by decide +kernel
theorem dX8_takeClause_35 : decode cX8_takeClause 35 = .ok (.iconst 0, 1) := by decide +kernel
theorem dX8_takeClause_36 : decode cX8_takeClause 36 = .ok (.istore_n 2, 1) := by decide +kernel
theorem dX8_takeClause_37 : decode cX8_takeClause 37 = .ok (.iload_n 1, 1) := by decide +kernel
theorem dX8_takeClause_38 : decode cX8_takeClause 38 = .ok (.ifCond .lt 7, 3) := by decide +kernel
theorem dX8_takeClause_41 : decode cX8_takeClause 41 = .ok (.iload_n 2, 1) := by decide +kernel
theorem dX8_takeClause_42 : decode cX8_takeClause 42 = .ok (.ifCond .eq 21, 3) := by decide +kernel
theorem dX8_takeClause_45 : decode cX8_takeClause 45 = .ok (.aload_n 0, 1) := by decide +kernel
theorem dX8_takeClause_46 : decode cX8_takeClause 46 = .ok (.iload_n 1, 1) := by decide +kernel
theorem dX8_takeClause_47 : decode cX8_takeClause 47 = .ok (.ifCond .ge 7, 3) := by decide +kernel
theorem dX8_takeClause_50 : decode cX8_takeClause 50 = .ok (.iconst 1, 1) := by decide +kernel
theorem dX8_takeClause_51 : decode cX8_takeClause 51 = .ok (.goto 4, 3) := by decide +kernel
theorem dX8_takeClause_54 : decode cX8_takeClause 54 = .ok (.iconst 3, 1) := by decide +kernel
theorem dX8_takeClause_55 : decode cX8_takeClause 55 = .ok (.aload_n 0, 1) := by decide +kernel
theorem dX8_takeClause_56 : decode cX8_takeClause 56 = .ok (.getfield 118, 3) := by decide +kernel
theorem dX8_takeClause_59 : decode cX8_takeClause 59 = .ok (.invokevirtual 159, 3) := by decide +kernel
theorem dX8_takeClause_62 : decode cX8_takeClause 62 = .ok (.ireturn, 1) := by decide +kernel
theorem dX8_takeClause_63 : decode cX8_takeClause 63 = .ok (.aload_n 0, 1) := by decide +kernel
theorem dX8_takeClause_64 : decode cX8_takeClause 64 = .ok (.dup, 1) := by decide +kernel
theorem dX8_takeClause_65 : decode cX8_takeClause 65 = .ok (.getfield 180, 3) := by decide +kernel
theorem dX8_takeClause_68 : decode cX8_takeClause 68 = .ok (.iconst 1, 1) := by decide +kernel
theorem dX8_takeClause_69 : decode cX8_takeClause 69 = .ok (.iload_n 1, 1) := by decide +kernel
theorem dX8_takeClause_70 : decode cX8_takeClause 70 = .ok (.ishl, 1) := by decide +kernel
theorem dX8_takeClause_71 : decode cX8_takeClause 71 = .ok (.ior, 1) := by decide +kernel
theorem dX8_takeClause_72 : decode cX8_takeClause 72 = .ok (.putfield 180, 3) := by decide +kernel
theorem dX8_takeClause_75 : decode cX8_takeClause 75 = .ok (.aload_n 0, 1) := by decide +kernel
theorem dX8_takeClause_76 : decode cX8_takeClause 76 = .ok (.aload_n 0, 1) := by decide +kernel
theorem dX8_takeClause_77 : decode cX8_takeClause 77 = .ok (.getfield 129, 3) := by decide +kernel
theorem dX8_takeClause_80 : decode cX8_takeClause 80 = .ok (.putfield 118, 3) := by decide +kernel
theorem dX8_takeClause_83 : decode cX8_takeClause 83 = .ok (.iload_n 1, 1) := by decide +kernel
theorem dX8_takeClause_84 : decode cX8_takeClause 84 = .ok (.bipush 9, 2) := by decide +kernel
theorem dX8_takeClause_86 : decode cX8_takeClause 86 = .ok (.if_icmp .ne 10, 3) := by decide +kernel
theorem dX8_takeClause_89 : decode cX8_takeClause 89 = .ok (.aload_n 0, 1) := by decide +kernel
theorem dX8_takeClause_90 : decode cX8_takeClause 90 = .ok (.invokevirtual 197, 3) := by decide +kernel
theorem dX8_takeClause_93 : decode cX8_takeClause 93 = .ok (.goto 8, 3) := by decide +kernel
theorem dX8_takeClause_96 : decode cX8_takeClause 96 = .ok (.aload_n 0, 1) := by decide +kernel
theorem dX8_takeClause_97 : decode cX8_takeClause 97 = .ok (.iload_n 1, 1) := by decide +kernel
theorem dX8_takeClause_98 : decode cX8_takeClause 98 = .ok (.invokevirtual 200, 3) := by decide +kernel
theorem dX8_takeClause_101 : decode cX8_takeClause 101 = .ok (.istore_n 3, 1) := by decide +kernel
theorem dX8_takeClause_102 : decode cX8_takeClause 102 = .ok (.iload_n 3, 1) := by decide +kernel
theorem dX8_takeClause_103 : decode cX8_takeClause 103 = .ok (.ifCond .le 5, 3) := by decide +kernel
theorem dX8_takeClause_106 : decode cX8_takeClause 106 = .ok (.iload_n 3, 1) := by decide +kernel
theorem dX8_takeClause_107 : decode cX8_takeClause 107 = .ok (.ireturn, 1) := by decide +kernel
theorem dX8_takeClause_108 : decode cX8_takeClause 108 = .ok (.aload_n 0, 1) := by decide +kernel
theorem dX8_takeClause_109 : decode cX8_takeClause 109 = .ok (.invokevirtual 121, 3) := by decide +kernel
theorem dX8_takeClause_112 : decode cX8_takeClause 112 = .ok (.bipush 59, 2) := by decide +kernel
theorem dX8_takeClause_114 : decode cX8_takeClause 114 = .ok (.if_icmp .eq 13, 3) := by decide +kernel
theorem dX8_takeClause_117 : decode cX8_takeClause 117 = .ok (.aload_n 0, 1) := by decide +kernel
theorem dX8_takeClause_118 : decode cX8_takeClause 118 = .ok (.iconst 1, 1) := by decide +kernel
theorem dX8_takeClause_119 : decode cX8_takeClause 119 = .ok (.aload_n 0, 1) := by decide +kernel
theorem dX8_takeClause_120 : decode cX8_takeClause 120 = .ok (.getfield 118, 3) := by decide +kernel
theorem dX8_takeClause_123 : decode cX8_takeClause 123 = .ok (.invokevirtual 159, 3) := by decide +kernel
theorem dX8_takeClause_126 : decode cX8_takeClause 126 = .ok (.ireturn, 1) := by decide +kernel
theorem dX8_takeClause_127 : decode cX8_takeClause 127 = .ok (.aload_n 0, 1) := by decide +kernel
theorem dX8_takeClause_128 : decode cX8_takeClause 128 = .ok (.dup, 1) := by decide +kernel
theorem dX8_takeClause_129 : decode cX8_takeClause 129 = .ok (.getfield 118, 3) := by decide +kernel
theorem dX8_takeClause_132 : decode cX8_takeClause 132 = .ok (.iconst 1, 1) := by decide +kernel
theorem dX8_takeClause_133 : decode cX8_takeClause 133 = .ok (.iadd, 1) := by decide +kernel
theorem dX8_takeClause_134 : decode cX8_takeClause 134 = .ok (.putfield 118, 3) := by decide +kernel
theorem dX8_takeClause_137 : decode cX8_takeClause 137 = .ok (.iconst 0, 1) := by decide +kernel
theorem dX8_takeClause_138 : decode cX8_takeClause 138 = .ok (.ireturn, 1) := by decide +kernel
set_option maxHeartbeats 4000000 in
set_option maxRecDepth 100000 in
theorem m_takeClause (l : Launch) (D : va_G) (k : Nat → ClassId) (st : Nat → Nat) (lo : Nat) (a : Nat → Nat) (tx : Nat) (t0 : Nat) (we : Nat) (rd : Nat) (ru : Nat) (rw : Nat) (ca : Nat) (fp : Int32) (wd : Int64) (nu : Int32) (na : Int32) (ts : Int32) (df : Int32) (db : Int32) (sd : Int32) (ftext : Nat → Int32) (freadFree : Nat → Int32) (freadPrice : Nat → Int32) (freadSingle : Nat → Int32) (ht : t0 ≤ tx) (htx : tx ≤ 240) (hrd : rd ≤ 24) (hrs : rsOK freadSingle) : CWi l D k st lo yX8_takeClause cX8_takeClause 4 (some .int) ({ frames := 4, cells := 0, slots := 0, locals := 98 }) 0 0 [.ref (a 0)] [((a 0), .inr (8, (fX8 a (nI tx) fp (nI t0) wd (nI we) nu na (nI rd) ts (nI ru) (nI rw) (nI ca) df db sd))), (aI k (a 5) 240 ftext), (aI k (a 14) 24 freadFree), (aI k (a 15) 24 freadPrice), (aI k (a 16) 9 freadSingle)] (fun (r : Int32) (u : Nat × Int64 × Nat × Int32 × Int32 × Int32 × Nat × Int32 × (Nat → Int32) × (Nat → Int32) × (Nat → Int32) × Nat) => match u with | (t0_, wd_, we_, fp_, nu_, na_, rd_, ts_, freadFree_, freadPrice_, freadSingle_, er) => r = nI er ∧ er ≤ 4 ∧ t0 ≤ t0_ ∧ t0_ ≤ tx ∧ rd_ ≤ 24 ∧ (er = 0 → t0 < t0_) ∧ (er = 0 → rsOK freadSingle_)) (fun (u : Nat × Int64 × Nat × Int32 × Int32 × Int32 × Nat × Int32 × (Nat → Int32) × (Nat → Int32) × (Nat → Int32) × Nat) => match u with | (t0_, wd_, we_, fp_, nu_, na_, rd_, ts_, freadFree_, freadPrice_, freadSingle_, er) => [((a 0), .inr (8, (fX8 a (nI tx) fp_ (nI t0_) wd_ (nI we_) nu_ na_ (nI rd_) ts_ (nI ru) (nI rw) (nI ca) df db sd))), (aI k (a 5) 240 ftext), (aI k (a 14) 24 freadFree_), (aI k (a 15) 24 freadPrice_), (aI k (a 16) 9 freadSingle_)]) := by
  intro sz
  refine Met.ofW (cc := cX8_takeClause) (maxL := 4) (ret := (some .int)) (by decide) rfl ?_
  intro p e s m args below meth c s₁ B hml hv
  obtain ⟨rfl, hsz, hlo, hP, hK, hDL, hZ⟩ := hv
  have hx := B.exec
  have hb := B.bytes
  have hr := B.returns
  have hts := WS_ts B.pre
  have hown : s.vm.findClass RX8 = some m.cls := findClass_of_methodNamed B.named
  have hlocks := B.notSynchronized
  subst hsz
  have hD := hDL.self (sz := s.heap.size)
  have hAlo := A_lo hDL hlo
  generalize hAe : va_A [((a 0), .inr (8, (fX8 a (nI tx) fp (nI t0) wd (nI we) nu na (nI rd) ts (nI ru) (nI rw) (nI ca) df db sd))), (aI k (a 5) 240 ftext), (aI k (a 14) 24 freadFree), (aI k (a 15) 24 freadPrice), (aI k (a 16) 9 freadSingle)] s.heap.size = A at hD hAlo ⊢
  have hA : ∀ q : Nat, s.heap.size ≤ q → A q := fun q h => by rw [← hAe]; exact Or.inr h
  have hS : va_S A s.heap s.heap [] := va_S.rf
  have hl := lv_entry ([.ref (a 0)]) (n := 4) (Nat.le_of_ble_eq_true rfl)
  rw [lg_entry_eq]
  generalize (lg_sl ([.ref (a 0)]) ++ List.replicate (4 - (lg_sl ([.ref (a 0)])).length) Slot.unset).toArray = ls at hl ⊢
  have hl : lv_has ls 4 [(0, .ref (a 0))] := hl
  refine lv_aload_n hx hb dX8_takeClause_0 rfl (lv_at hl 0 rfl) ?_
  refine rw_v (D := D) (wr := [(aI k (a 14) 24 freadFree), (aI k (a 15) 24 freadPrice), (aI k (a 16) 9 freadSingle)]) (va_runV (As := []) (rest := []) ⟨hx, hb, hml, hown, hts⟩ ((m_readWord l D k st lo a tx t0 we rd ru rw ca fp wd nu na ts df db sd ftext (by omega) (by omega)) s.heap.size) (cwV 0 hts (gV tw_1128 tw_1130 tw_29 tw_87 tw_1131) rfl rfl rfl (by decide +kernel) ⟨Nat.le_of_ble_eq_true rfl, Nat.le_of_ble_eq_true rfl⟩) (pV hS hAlo hlo hP hK (va_Dlo hD hAlo) hZ [0, 1] (by decide) rfl (ci := 8) (q := (RX8, TX8, 44)) (q0 := 0) rfl rfl) rfl rfl hl.1 rfl (lv_room (Nat.le_of_ble_eq_true rfl)) dX8_takeClause_1 ⟨Nat.le_of_ble_eq_true rfl, Nat.le_of_ble_eq_true rfl⟩) hS hA hP hD [0, 1] [2, 3, 4] rfl rfl (by decide) (by decide) (fun u H locs hw_1 hP hD hS => ?_)
  obtain ⟨t0__1, wd__1, we__1⟩ := u
  replace hP : va_P D classes [(aI k (a 14) 24 freadFree), (aI k (a 15) 24 freadPrice), (aI k (a 16) 9 freadSingle), ((a 0), .inr (8, (fX8 a (nI tx) fp (nI t0__1) wd__1 (nI we__1) nu na (nI rd) ts (nI ru) (nI rw) (nI ca) df db sd))), (aI k (a 5) 240 ftext)] H := hP
  replace hD : va_D A [(aI k (a 14) 24 freadFree), (aI k (a 15) 24 freadPrice), (aI k (a 16) 9 freadSingle), ((a 0), .inr (8, (fX8 a (nI tx) fp (nI t0__1) wd__1 (nI we__1) nu na (nI rd) ts (nI ru) (nI rw) (nI ca) df db sd))), (aI k (a 5) 240 ftext)] := hD
  try dsimp only at hw_1
  refine lv_aload_n hx hb dX8_takeClause_4 rfl (lv_at hl 0 rfl) ?_
  refine ro_i (D := D) (va_runV (As := []) (rest := []) ⟨hx, hb, hml, hown, hts⟩ ((m_clauseOf l D k st lo a tx t0__1 we__1 rd ru rw ca fp wd__1 nu na ts df db sd) H.size) (cwV 0 hts (gV tw_1138 tw_1140 tw_30 tw_87 tw_1141) rfl rfl rfl (by decide +kernel) ⟨Nat.le_of_ble_eq_true rfl, Nat.le_of_ble_eq_true rfl⟩) (pV hS hAlo hlo hP hK (va_Dlo hD hAlo) hZ [3] (by decide) rfl (ci := 8) (q := (RX8, TX8, 44)) (q0 := 0) rfl rfl) rfl rfl hl.1 rfl (lv_room (Nat.le_of_ble_eq_true rfl)) dX8_takeClause_5 ⟨Nat.le_of_ble_eq_true rfl, Nat.le_of_ble_eq_true rfl⟩) hS hA hP (fun r_2 H locs hw_2 hP hS => ?_)
  try dsimp only at hw_2
  rcases hw_2 with rfl | ⟨cl_3, hc_3, rfl⟩
  · refine lv_istore_n (lv' := [(1, .int (-1)), (0, .ref (a 0))]) hx hb dX8_takeClause_8 rfl hl (by decide) rfl (fun ls hl => ?_)
    refine lv_iload_n hx hb dX8_takeClause_9 rfl (lv_at hl 0 rfl) ?_
    refine lv_if_lt (tgt := 35) hx hb dX8_takeClause_10 (by decide) (fun _ => ?_) (fun h => absurd (by decide) h)
    refine lv_iconst (v := 0) hx hb dX8_takeClause_35 (by decide) ?_
    refine lv_istore_n (lv' := [(2, .int 0), (1, .int (-1)), (0, .ref (a 0))]) hx hb dX8_takeClause_36 rfl hl (by decide) rfl (fun ls hl => ?_)
    refine lv_iload_n hx hb dX8_takeClause_37 rfl (lv_at hl 1 rfl) ?_
    refine lv_if_lt (tgt := 45) hx hb dX8_takeClause_38 (by decide) (fun _ => ?_) (fun h => absurd (by decide) h)
    refine lv_aload_n hx hb dX8_takeClause_45 rfl (lv_at hl 2 rfl) ?_
    refine lv_iload_n hx hb dX8_takeClause_46 rfl (lv_at hl 1 rfl) ?_
    refine lv_if_ge (tgt := 54) hx hb dX8_takeClause_47 (by decide) (fun h => absurd h (by decide)) (fun _ => ?_)
    refine lv_iconst (v := 1) hx hb dX8_takeClause_50 (by decide) ?_
    refine lv_goto (tgt := 55) hx hb dX8_takeClause_51 (by decide) ?_
    refine lv_aload_n hx hb dX8_takeClause_55 rfl (lv_at hl 2 rfl) ?_
    refine va_get (D := D) (ci := 8) (v := .int (nI t0__1)) (C := RX8) (T := TX8) (N := 44) hx hb hts inX8 hown hK hP 3 rfl rfl 7 (by decide) (hts _ tw_980) (fun _ h9 => h9) rfl dX8_takeClause_56 ?_
    refine rw_i (D := D) (wr := [(aI k (a 14) 24 freadFree), (aI k (a 15) 24 freadPrice), (aI k (a 16) 9 freadSingle), (aI k (a 5) 240 ftext)]) (va_runV (As := [.int 1, .int (nI t0__1)]) (rest := []) ⟨hx, hb, hml, hown, hts⟩ ((m_fails l D k st lo a tx t0__1 we__1 rd ru rw ca fp wd__1 nu na ts df db sd 1 (nI t0__1)) H.size) (cwV 2 hts (gV tw_1151 tw_1153 tw_31 tw_87 tw_1154) rfl rfl rfl (by decide +kernel) ⟨Nat.le_of_ble_eq_true rfl, Nat.le_of_ble_eq_true rfl⟩) (pV hS hAlo hlo hP hK (va_Dlo hD hAlo) hZ [3] (by decide) rfl (ci := 8) (q := (RX8, TX8, 44)) (q0 := 0) rfl rfl) rfl rfl hl.1 rfl (lv_room (Nat.le_of_ble_eq_true rfl)) dX8_takeClause_59 ⟨Nat.le_of_ble_eq_true rfl, Nat.le_of_ble_eq_true rfl⟩) hS hA hP hD [3] [0, 1, 2, 4] rfl rfl (by decide) (by decide) (fun r_4 u H locs hw_4 hP hD hS => ?_)
    obtain ⟨fp__4, rfl⟩ : ∃ z, z = u := ⟨_, rfl⟩
    replace hP : va_P D classes [(aI k (a 14) 24 freadFree), (aI k (a 15) 24 freadPrice), (aI k (a 16) 9 freadSingle), (aI k (a 5) 240 ftext), ((a 0), .inr (8, (fX8 a (nI tx) fp__4 (nI t0__1) wd__1 (nI we__1) nu na (nI rd) ts (nI ru) (nI rw) (nI ca) df db sd)))] H := hP
    replace hD : va_D A [(aI k (a 14) 24 freadFree), (aI k (a 15) 24 freadPrice), (aI k (a 16) 9 freadSingle), (aI k (a 5) 240 ftext), ((a 0), .inr (8, (fX8 a (nI tx) fp__4 (nI t0__1) wd__1 (nI we__1) nu na (nI rd) ts (nI ru) (nI rw) (nI ca) df db sd)))] := hD
    try dsimp only at hw_4
    subst hw_4
    have hP9 := hP.sub (ws' := [((a 0), .inr (8, (fX8 a (nI tx) fp__4 (nI t0__1) wd__1 (nI we__1) nu na (nI rd) ts (nI ru) (nI rw) (nI ca) df db sd))), (aI k (a 5) 240 ftext), (aI k (a 14) 24 freadFree), (aI k (a 15) 24 freadPrice), (aI k (a 16) 9 freadSingle)]) [4, 3, 0, 1, 2] rfl
    have hD9 := hD.sub (ws' := [((a 0), .inr (8, (fX8 a (nI tx) fp__4 (nI t0__1) wd__1 (nI we__1) nu na (nI rd) ts (nI ru) (nI rw) (nI ca) df db sd))), (aI k (a 5) 240 ftext), (aI k (a 14) 24 freadFree), (aI k (a 15) 24 freadPrice), (aI k (a 16) 9 freadSingle)]) [4, 3, 0, 1, 2] (by decide) rfl
    exact W.iret (v := 1) hx hb hr (fun t ht hW => ⟨⟨1, (t0__1, wd__1, we__1, fp__4, nu, na, rd, ts, freadFree, freadPrice, freadSingle, 1), rfl, ⟨rfl, by omega, by omega, by omega, by omega, by omega, fun h => absurd h (by omega)⟩, by rw [ht]; exact hP9, hD9⟩, hS.F ht⟩) hS.2.2 dX8_takeClause_62
  · refine lv_istore_n (lv' := [(1, .int (nI cl_3)), (0, .ref (a 0))]) hx hb dX8_takeClause_8 rfl hl (by decide) rfl (fun ls hl => ?_)
    refine lv_iload_n hx hb dX8_takeClause_9 rfl (lv_at hl 0 rfl) ?_
    refine lv_if_lt (tgt := 35) hx hb dX8_takeClause_10 (by decide) (fun h => absurd h (nI_pos0 (by omega))) (fun _ => ?_)
    refine lv_iload_n hx hb dX8_takeClause_13 rfl (lv_at hl 0 rfl) ?_
    refine lv_bipush (v := 9) hx hb dX8_takeClause_14 (by decide) ?_
    refine lv_icmp_ge (tgt := 35) hx hb dX8_takeClause_16 (by decide) (fun c_5 => ?_) (fun c_5 => ?_)
    · have c_5 := (nI_leI (a := 9) (b := cl_3) (by omega) (by omega)).mp c_5
      refine lv_iconst (v := 0) hx hb dX8_takeClause_35 (by decide) ?_
      refine lv_istore_n (lv' := [(2, .int 0), (1, .int (nI cl_3)), (0, .ref (a 0))]) hx hb dX8_takeClause_36 rfl hl (by decide) rfl (fun ls hl => ?_)
      refine lv_iload_n hx hb dX8_takeClause_37 rfl (lv_at hl 1 rfl) ?_
      refine lv_if_lt (tgt := 45) hx hb dX8_takeClause_38 (by decide) (fun h => absurd h (nI_pos0 (by omega))) (fun _ => ?_)
      refine lv_iload_n hx hb dX8_takeClause_41 rfl (lv_at hl 0 rfl) ?_
      refine lv_if_eq (tgt := 63) hx hb dX8_takeClause_42 (by decide) (fun _ => ?_) (fun h => absurd (by decide) h)
      refine lv_aload_n hx hb dX8_takeClause_63 rfl (lv_at hl 2 rfl) ?_
      refine lv_dup hx hb dX8_takeClause_64 rfl ?_
      refine va_get (D := D) (ci := 8) (v := .int ts) (C := RX8) (T := TX8) (N := 44) hx hb hts inX8 hown hK hP 3 rfl rfl 16 (by decide) (hts _ tw_989) (fun _ h9 => h9) rfl dX8_takeClause_65 ?_
      refine lv_iconst (v := 1) hx hb dX8_takeClause_68 (by decide) ?_
      refine lv_iload_n hx hb dX8_takeClause_69 rfl (lv_at hl 1 rfl) ?_
      refine lv_ishl hx hb dX8_takeClause_70 ?_
      refine lv_topi (fun x_6 ex_6 => ?_)
      refine lv_ior hx hb dX8_takeClause_71 ?_
      refine lv_topi (fun x_7 ex_7 => ?_)
      refine va_put (D := D) (ci := 8) (v := .int x_7) (ty := .int) (C := RX8) (T := TX8) (N := 44) hx hb hts inX8 tyX8 tyX8_ok nmX8 hown hK hP hD hS 3 rfl rfl 16 (by decide) (hts _ tw_989) (fun _ h9 => h9) rfl (by decide +kernel) rfl rfl (Nat.le_of_ble_eq_true rfl) dX8_takeClause_72 (fun H locs hP hD hS => ?_)
      replace hP : va_P D classes [(aI k (a 14) 24 freadFree), (aI k (a 15) 24 freadPrice), (aI k (a 16) 9 freadSingle), ((a 0), .inr (8, (fX8 a (nI tx) fp (nI t0__1) wd__1 (nI we__1) nu na (nI rd) x_7 (nI ru) (nI rw) (nI ca) df db sd))), (aI k (a 5) 240 ftext)] H := hP
      replace hD : va_D A [(aI k (a 14) 24 freadFree), (aI k (a 15) 24 freadPrice), (aI k (a 16) 9 freadSingle), ((a 0), .inr (8, (fX8 a (nI tx) fp (nI t0__1) wd__1 (nI we__1) nu na (nI rd) x_7 (nI ru) (nI rw) (nI ca) df db sd))), (aI k (a 5) 240 ftext)] := hD
      refine lv_aload_n hx hb dX8_takeClause_75 rfl (lv_at hl 2 rfl) ?_
      refine lv_aload_n hx hb dX8_takeClause_76 rfl (lv_at hl 2 rfl) ?_
      refine va_get (D := D) (ci := 8) (v := .int (nI we__1)) (C := RX8) (T := TX8) (N := 44) hx hb hts inX8 hown hK hP 3 rfl rfl 9 (by decide) (hts _ tw_982) (fun _ h9 => h9) rfl dX8_takeClause_77 ?_
      refine va_put (D := D) (ci := 8) (v := .int (nI we__1)) (ty := .int) (C := RX8) (T := TX8) (N := 44) hx hb hts inX8 tyX8 tyX8_ok nmX8 hown hK hP hD hS 3 rfl rfl 7 (by decide) (hts _ tw_980) (fun _ h9 => h9) rfl (by decide +kernel) rfl rfl (Nat.le_of_ble_eq_true rfl) dX8_takeClause_80 (fun H locs hP hD hS => ?_)
      replace hP : va_P D classes [(aI k (a 14) 24 freadFree), (aI k (a 15) 24 freadPrice), (aI k (a 16) 9 freadSingle), ((a 0), .inr (8, (fX8 a (nI tx) fp (nI we__1) wd__1 (nI we__1) nu na (nI rd) x_7 (nI ru) (nI rw) (nI ca) df db sd))), (aI k (a 5) 240 ftext)] H := hP
      replace hD : va_D A [(aI k (a 14) 24 freadFree), (aI k (a 15) 24 freadPrice), (aI k (a 16) 9 freadSingle), ((a 0), .inr (8, (fX8 a (nI tx) fp (nI we__1) wd__1 (nI we__1) nu na (nI rd) x_7 (nI ru) (nI rw) (nI ca) df db sd))), (aI k (a 5) 240 ftext)] := hD
      refine lv_iload_n hx hb dX8_takeClause_83 rfl (lv_at hl 1 rfl) ?_
      refine lv_bipush (v := 9) hx hb dX8_takeClause_84 (by decide) ?_
      refine lv_icmp_ne (tgt := 96) hx hb dX8_takeClause_86 (by decide) (fun c_8 => ?_) (fun c_8 => ?_)
      · have c_8 : ¬ (cl_3 = 9) := fun h => c_8 ((nI_eq (a := cl_3) (b := 9) (by omega) (by omega)).mpr h)
        refine lv_aload_n hx hb dX8_takeClause_96 rfl (lv_at hl 2 rfl) ?_
        refine lv_iload_n hx hb dX8_takeClause_97 rfl (lv_at hl 1 rfl) ?_
        refine rw_i (D := D) (wr := [(aI k (a 14) 24 freadFree), (aI k (a 15) 24 freadPrice)]) (va_runV (As := [.int (nI cl_3)]) (rest := []) ⟨hx, hb, hml, hown, hts⟩ ((m_takeSingle l D k st lo a tx we__1 we__1 rd ru rw ca fp wd__1 nu na x_7 df db sd ftext freadSingle cl_3 (by omega) (by omega) (by omega) hrs) H.size) (cwV 1 hts (gV tw_1173 tw_1175 tw_36 tw_87 tw_1176) rfl rfl rfl (by decide +kernel) ⟨Nat.le_of_ble_eq_true rfl, Nat.le_of_ble_eq_true rfl⟩) (pV hS hAlo hlo hP hK (va_Dlo hD hAlo) hZ [3, 4, 2] (by decide) rfl (ci := 8) (q := (RX8, TX8, 44)) (q0 := 0) rfl rfl) rfl rfl hl.1 rfl (lv_room (Nat.le_of_ble_eq_true rfl)) dX8_takeClause_98 ⟨Nat.le_of_ble_eq_true rfl, Nat.le_of_ble_eq_true rfl⟩) hS hA hP hD [3, 4, 2] [0, 1] rfl rfl (by decide) (by decide) (fun r_9 u H locs hw_9 hP hD hS => ?_)
        obtain ⟨t0__9, wd__9, we__9, fp__9, nu__9, na__9, freadSingle__9, er_9⟩ := u
        replace hP : va_P D classes [(aI k (a 14) 24 freadFree), (aI k (a 15) 24 freadPrice), ((a 0), .inr (8, (fX8 a (nI tx) fp__9 (nI t0__9) wd__9 (nI we__9) nu__9 na__9 (nI rd) x_7 (nI ru) (nI rw) (nI ca) df db sd))), (aI k (a 5) 240 ftext), (aI k (a 16) 9 freadSingle__9)] H := hP
        replace hD : va_D A [(aI k (a 14) 24 freadFree), (aI k (a 15) 24 freadPrice), ((a 0), .inr (8, (fX8 a (nI tx) fp__9 (nI t0__9) wd__9 (nI we__9) nu__9 na__9 (nI rd) x_7 (nI ru) (nI rw) (nI ca) df db sd))), (aI k (a 5) 240 ftext), (aI k (a 16) 9 freadSingle__9)] := hD
        try dsimp only at hw_9
        obtain ⟨rfl, hw_9⟩ := hw_9
        refine lv_istore_n (lv' := [(3, .int (nI er_9)), (2, .int 0), (1, .int (nI cl_3)), (0, .ref (a 0))]) hx hb dX8_takeClause_101 rfl hl (by decide) rfl (fun ls hl => ?_)
        refine lv_iload_n hx hb dX8_takeClause_102 rfl (lv_at hl 0 rfl) ?_
        refine lv_if_le (tgt := 108) hx hb dX8_takeClause_103 (by decide) (fun c_10 => ?_) (fun c_10 => ?_)
        · have c_10 := (nI_leI (a := er_9) (b := 0) (by omega) (by omega)).mp c_10
          refine lv_aload_n hx hb dX8_takeClause_108 rfl (lv_at hl 3 rfl) ?_
          refine rw_i (D := D) (wr := [(aI k (a 14) 24 freadFree), (aI k (a 15) 24 freadPrice), (aI k (a 16) 9 freadSingle__9)]) (va_runV (As := []) (rest := []) ⟨hx, hb, hml, hown, hts⟩ ((m_here l D k st lo a tx t0__9 we__9 rd ru rw ca fp__9 wd__9 nu__9 na__9 x_7 df db sd ftext (by omega) (by omega)) H.size) (cwV 0 hts (gV tw_1120 tw_1122 tw_27 tw_87 tw_1123) rfl rfl rfl (by decide +kernel) ⟨Nat.le_of_ble_eq_true rfl, Nat.le_of_ble_eq_true rfl⟩) (pV hS hAlo hlo hP hK (va_Dlo hD hAlo) hZ [2, 3] (by decide) rfl (ci := 8) (q := (RX8, TX8, 44)) (q0 := 0) rfl rfl) rfl rfl hl.1 rfl (lv_room (Nat.le_of_ble_eq_true rfl)) dX8_takeClause_109 ⟨Nat.le_of_ble_eq_true rfl, Nat.le_of_ble_eq_true rfl⟩) hS hA hP hD [2, 3] [0, 1, 4] rfl rfl (by decide) (by decide) (fun r_11 u H locs hw_11 hP hD hS => ?_)
          obtain ⟨t0__11, rfl⟩ : ∃ z, z = u := ⟨_, rfl⟩
          replace hP : va_P D classes [(aI k (a 14) 24 freadFree), (aI k (a 15) 24 freadPrice), (aI k (a 16) 9 freadSingle__9), ((a 0), .inr (8, (fX8 a (nI tx) fp__9 (nI t0__11) wd__9 (nI we__9) nu__9 na__9 (nI rd) x_7 (nI ru) (nI rw) (nI ca) df db sd))), (aI k (a 5) 240 ftext)] H := hP
          replace hD : va_D A [(aI k (a 14) 24 freadFree), (aI k (a 15) 24 freadPrice), (aI k (a 16) 9 freadSingle__9), ((a 0), .inr (8, (fX8 a (nI tx) fp__9 (nI t0__11) wd__9 (nI we__9) nu__9 na__9 (nI rd) x_7 (nI ru) (nI rw) (nI ca) df db sd))), (aI k (a 5) 240 ftext)] := hD
          try dsimp only at hw_11
          refine lv_bipush (v := 59) hx hb dX8_takeClause_112 (by decide) ?_
          refine lv_icmp_eq (tgt := 127) hx hb dX8_takeClause_114 (by decide) (fun c_12 => ?_) (fun c_12 => ?_)
          · have hlt_13 := hw_11.2.2.resolve_left (fun h => absurd (h.symm.trans c_12) (by decide))
            refine lv_aload_n hx hb dX8_takeClause_127 rfl (lv_at hl 3 rfl) ?_
            refine lv_dup hx hb dX8_takeClause_128 rfl ?_
            refine va_get (D := D) (ci := 8) (v := .int (nI t0__11)) (C := RX8) (T := TX8) (N := 44) hx hb hts inX8 hown hK hP 3 rfl rfl 7 (by decide) (hts _ tw_980) (fun _ h9 => h9) rfl dX8_takeClause_129 ?_
            refine lv_iconst (v := 1) hx hb dX8_takeClause_132 (by decide) ?_
            refine lv_iadd hx hb dX8_takeClause_133 ?_
            refine lv_ti (y := (nI (t0__11 + 1))) (nI_add t0__11 1) ?_
            refine va_put (D := D) (ci := 8) (v := .int (nI (t0__11 + 1))) (ty := .int) (C := RX8) (T := TX8) (N := 44) hx hb hts inX8 tyX8 tyX8_ok nmX8 hown hK hP hD hS 3 rfl rfl 7 (by decide) (hts _ tw_980) (fun _ h9 => h9) rfl (by decide +kernel) rfl rfl (Nat.le_of_ble_eq_true rfl) dX8_takeClause_134 (fun H locs hP hD hS => ?_)
            replace hP : va_P D classes [(aI k (a 14) 24 freadFree), (aI k (a 15) 24 freadPrice), (aI k (a 16) 9 freadSingle__9), ((a 0), .inr (8, (fX8 a (nI tx) fp__9 (nI (t0__11 + 1)) wd__9 (nI we__9) nu__9 na__9 (nI rd) x_7 (nI ru) (nI rw) (nI ca) df db sd))), (aI k (a 5) 240 ftext)] H := hP
            replace hD : va_D A [(aI k (a 14) 24 freadFree), (aI k (a 15) 24 freadPrice), (aI k (a 16) 9 freadSingle__9), ((a 0), .inr (8, (fX8 a (nI tx) fp__9 (nI (t0__11 + 1)) wd__9 (nI we__9) nu__9 na__9 (nI rd) x_7 (nI ru) (nI rw) (nI ca) df db sd))), (aI k (a 5) 240 ftext)] := hD
            refine lv_iconst (v := 0) hx hb dX8_takeClause_137 (by decide) ?_
            have hP9 := hP.sub (ws' := [((a 0), .inr (8, (fX8 a (nI tx) fp__9 (nI (t0__11 + 1)) wd__9 (nI we__9) nu__9 na__9 (nI rd) x_7 (nI ru) (nI rw) (nI ca) df db sd))), (aI k (a 5) 240 ftext), (aI k (a 14) 24 freadFree), (aI k (a 15) 24 freadPrice), (aI k (a 16) 9 freadSingle__9)]) [3, 4, 0, 1, 2] rfl
            have hD9 := hD.sub (ws' := [((a 0), .inr (8, (fX8 a (nI tx) fp__9 (nI (t0__11 + 1)) wd__9 (nI we__9) nu__9 na__9 (nI rd) x_7 (nI ru) (nI rw) (nI ca) df db sd))), (aI k (a 5) 240 ftext), (aI k (a 14) 24 freadFree), (aI k (a 15) 24 freadPrice), (aI k (a 16) 9 freadSingle__9)]) [3, 4, 0, 1, 2] (by decide) rfl
            exact W.iret (v := 0) hx hb hr (fun t ht hW => ⟨⟨0, ((t0__11 + 1), wd__9, we__9, fp__9, nu__9, na__9, rd, x_7, freadFree, freadPrice, freadSingle__9, 0), rfl, ⟨rfl, by omega, by omega, by omega, by omega, by omega, fun h => hw_9.2.2.2 (by omega)⟩, by rw [ht]; exact hP9, hD9⟩, hS.F ht⟩) hS.2.2 dX8_takeClause_138
          · refine lv_aload_n hx hb dX8_takeClause_117 rfl (lv_at hl 3 rfl) ?_
            refine lv_iconst (v := 1) hx hb dX8_takeClause_118 (by decide) ?_
            refine lv_aload_n hx hb dX8_takeClause_119 rfl (lv_at hl 3 rfl) ?_
            refine va_get (D := D) (ci := 8) (v := .int (nI t0__11)) (C := RX8) (T := TX8) (N := 44) hx hb hts inX8 hown hK hP 3 rfl rfl 7 (by decide) (hts _ tw_980) (fun _ h9 => h9) rfl dX8_takeClause_120 ?_
            refine rw_i (D := D) (wr := [(aI k (a 14) 24 freadFree), (aI k (a 15) 24 freadPrice), (aI k (a 16) 9 freadSingle__9), (aI k (a 5) 240 ftext)]) (va_runV (As := [.int 1, .int (nI t0__11)]) (rest := []) ⟨hx, hb, hml, hown, hts⟩ ((m_fails l D k st lo a tx t0__11 we__9 rd ru rw ca fp__9 wd__9 nu__9 na__9 x_7 df db sd 1 (nI t0__11)) H.size) (cwV 2 hts (gV tw_1151 tw_1153 tw_31 tw_87 tw_1154) rfl rfl rfl (by decide +kernel) ⟨Nat.le_of_ble_eq_true rfl, Nat.le_of_ble_eq_true rfl⟩) (pV hS hAlo hlo hP hK (va_Dlo hD hAlo) hZ [3] (by decide) rfl (ci := 8) (q := (RX8, TX8, 44)) (q0 := 0) rfl rfl) rfl rfl hl.1 rfl (lv_room (Nat.le_of_ble_eq_true rfl)) dX8_takeClause_123 ⟨Nat.le_of_ble_eq_true rfl, Nat.le_of_ble_eq_true rfl⟩) hS hA hP hD [3] [0, 1, 2, 4] rfl rfl (by decide) (by decide) (fun r_14 u H locs hw_14 hP hD hS => ?_)
            obtain ⟨fp__14, rfl⟩ : ∃ z, z = u := ⟨_, rfl⟩
            replace hP : va_P D classes [(aI k (a 14) 24 freadFree), (aI k (a 15) 24 freadPrice), (aI k (a 16) 9 freadSingle__9), (aI k (a 5) 240 ftext), ((a 0), .inr (8, (fX8 a (nI tx) fp__14 (nI t0__11) wd__9 (nI we__9) nu__9 na__9 (nI rd) x_7 (nI ru) (nI rw) (nI ca) df db sd)))] H := hP
            replace hD : va_D A [(aI k (a 14) 24 freadFree), (aI k (a 15) 24 freadPrice), (aI k (a 16) 9 freadSingle__9), (aI k (a 5) 240 ftext), ((a 0), .inr (8, (fX8 a (nI tx) fp__14 (nI t0__11) wd__9 (nI we__9) nu__9 na__9 (nI rd) x_7 (nI ru) (nI rw) (nI ca) df db sd)))] := hD
            try dsimp only at hw_14
            subst hw_14
            have hP9 := hP.sub (ws' := [((a 0), .inr (8, (fX8 a (nI tx) fp__14 (nI t0__11) wd__9 (nI we__9) nu__9 na__9 (nI rd) x_7 (nI ru) (nI rw) (nI ca) df db sd))), (aI k (a 5) 240 ftext), (aI k (a 14) 24 freadFree), (aI k (a 15) 24 freadPrice), (aI k (a 16) 9 freadSingle__9)]) [4, 3, 0, 1, 2] rfl
            have hD9 := hD.sub (ws' := [((a 0), .inr (8, (fX8 a (nI tx) fp__14 (nI t0__11) wd__9 (nI we__9) nu__9 na__9 (nI rd) x_7 (nI ru) (nI rw) (nI ca) df db sd))), (aI k (a 5) 240 ftext), (aI k (a 14) 24 freadFree), (aI k (a 15) 24 freadPrice), (aI k (a 16) 9 freadSingle__9)]) [4, 3, 0, 1, 2] (by decide) rfl
            exact W.iret (v := 1) hx hb hr (fun t ht hW => ⟨⟨1, (t0__11, wd__9, we__9, fp__14, nu__9, na__9, rd, x_7, freadFree, freadPrice, freadSingle__9, 1), rfl, ⟨rfl, by omega, by omega, by omega, by omega, by omega, fun h => absurd h (by omega)⟩, by rw [ht]; exact hP9, hD9⟩, hS.F ht⟩) hS.2.2 dX8_takeClause_126
        · have c_10 : ¬ (er_9 ≤ 0) := fun h => c_10 ((nI_leI (a := er_9) (b := 0) (by omega) (by omega)).mpr h)
          refine lv_iload_n hx hb dX8_takeClause_106 rfl (lv_at hl 0 rfl) ?_
          have hP9 := hP.sub (ws' := [((a 0), .inr (8, (fX8 a (nI tx) fp__9 (nI t0__9) wd__9 (nI we__9) nu__9 na__9 (nI rd) x_7 (nI ru) (nI rw) (nI ca) df db sd))), (aI k (a 5) 240 ftext), (aI k (a 14) 24 freadFree), (aI k (a 15) 24 freadPrice), (aI k (a 16) 9 freadSingle__9)]) [2, 3, 0, 1, 4] rfl
          have hD9 := hD.sub (ws' := [((a 0), .inr (8, (fX8 a (nI tx) fp__9 (nI t0__9) wd__9 (nI we__9) nu__9 na__9 (nI rd) x_7 (nI ru) (nI rw) (nI ca) df db sd))), (aI k (a 5) 240 ftext), (aI k (a 14) 24 freadFree), (aI k (a 15) 24 freadPrice), (aI k (a 16) 9 freadSingle__9)]) [2, 3, 0, 1, 4] (by decide) rfl
          exact W.iret (v := (nI er_9)) hx hb hr (fun t ht hW => ⟨⟨(nI er_9), (t0__9, wd__9, we__9, fp__9, nu__9, na__9, rd, x_7, freadFree, freadPrice, freadSingle__9, er_9), rfl, ⟨rfl, by omega, by omega, by omega, by omega, by omega, fun h => absurd h (by omega)⟩, by rw [ht]; exact hP9, hD9⟩, hS.F ht⟩) hS.2.2 dX8_takeClause_107
      · have c_8 := (nI_eq (a := cl_3) (b := 9) (by omega) (by omega)).mp c_8
        refine lv_aload_n hx hb dX8_takeClause_89 rfl (lv_at hl 2 rfl) ?_
        refine rw_i (D := D) (wr := [(aI k (a 16) 9 freadSingle)]) (va_runV (As := []) (rest := []) ⟨hx, hb, hml, hown, hts⟩ ((m_takeDoors l D k st lo a tx we__1 we__1 rd ru rw ca fp wd__1 nu na x_7 df db sd ftext freadFree freadPrice (by omega) (by omega) (by omega)) H.size) (cwV 0 hts (gV tw_1155 tw_1157 tw_32 tw_87 tw_1158) rfl rfl rfl (by decide +kernel) ⟨Nat.le_of_ble_eq_true rfl, Nat.le_of_ble_eq_true rfl⟩) (pV hS hAlo hlo hP hK (va_Dlo hD hAlo) hZ [3, 4, 0, 1] (by decide) rfl (ci := 8) (q := (RX8, TX8, 44)) (q0 := 0) rfl rfl) rfl rfl hl.1 rfl (lv_room (Nat.le_of_ble_eq_true rfl)) dX8_takeClause_90 ⟨Nat.le_of_ble_eq_true rfl, Nat.le_of_ble_eq_true rfl⟩) hS hA hP hD [3, 4, 0, 1] [2] rfl rfl (by decide) (by decide) (fun r_15 u H locs hw_15 hP hD hS => ?_)
        obtain ⟨t0__15, wd__15, we__15, fp__15, nu__15, na__15, rd__15, freadFree__15, freadPrice__15, er_15⟩ := u
        replace hP : va_P D classes [(aI k (a 16) 9 freadSingle), ((a 0), .inr (8, (fX8 a (nI tx) fp__15 (nI t0__15) wd__15 (nI we__15) nu__15 na__15 (nI rd__15) x_7 (nI ru) (nI rw) (nI ca) df db sd))), (aI k (a 5) 240 ftext), (aI k (a 14) 24 freadFree__15), (aI k (a 15) 24 freadPrice__15)] H := hP
        replace hD : va_D A [(aI k (a 16) 9 freadSingle), ((a 0), .inr (8, (fX8 a (nI tx) fp__15 (nI t0__15) wd__15 (nI we__15) nu__15 na__15 (nI rd__15) x_7 (nI ru) (nI rw) (nI ca) df db sd))), (aI k (a 5) 240 ftext), (aI k (a 14) 24 freadFree__15), (aI k (a 15) 24 freadPrice__15)] := hD
        try dsimp only at hw_15
        obtain ⟨rfl, hw_15⟩ := hw_15
        refine lv_goto (tgt := 101) hx hb dX8_takeClause_93 (by decide) ?_
        refine lv_istore_n (lv' := [(3, .int (nI er_15)), (2, .int 0), (1, .int (nI cl_3)), (0, .ref (a 0))]) hx hb dX8_takeClause_101 rfl hl (by decide) rfl (fun ls hl => ?_)
        refine lv_iload_n hx hb dX8_takeClause_102 rfl (lv_at hl 0 rfl) ?_
        refine lv_if_le (tgt := 108) hx hb dX8_takeClause_103 (by decide) (fun c_16 => ?_) (fun c_16 => ?_)
        · have c_16 := (nI_leI (a := er_15) (b := 0) (by omega) (by omega)).mp c_16
          refine lv_aload_n hx hb dX8_takeClause_108 rfl (lv_at hl 3 rfl) ?_
          refine rw_i (D := D) (wr := [(aI k (a 16) 9 freadSingle), (aI k (a 14) 24 freadFree__15), (aI k (a 15) 24 freadPrice__15)]) (va_runV (As := []) (rest := []) ⟨hx, hb, hml, hown, hts⟩ ((m_here l D k st lo a tx t0__15 we__15 rd__15 ru rw ca fp__15 wd__15 nu__15 na__15 x_7 df db sd ftext (by omega) (by omega)) H.size) (cwV 0 hts (gV tw_1120 tw_1122 tw_27 tw_87 tw_1123) rfl rfl rfl (by decide +kernel) ⟨Nat.le_of_ble_eq_true rfl, Nat.le_of_ble_eq_true rfl⟩) (pV hS hAlo hlo hP hK (va_Dlo hD hAlo) hZ [1, 2] (by decide) rfl (ci := 8) (q := (RX8, TX8, 44)) (q0 := 0) rfl rfl) rfl rfl hl.1 rfl (lv_room (Nat.le_of_ble_eq_true rfl)) dX8_takeClause_109 ⟨Nat.le_of_ble_eq_true rfl, Nat.le_of_ble_eq_true rfl⟩) hS hA hP hD [1, 2] [0, 3, 4] rfl rfl (by decide) (by decide) (fun r_17 u H locs hw_17 hP hD hS => ?_)
          obtain ⟨t0__17, rfl⟩ : ∃ z, z = u := ⟨_, rfl⟩
          replace hP : va_P D classes [(aI k (a 16) 9 freadSingle), (aI k (a 14) 24 freadFree__15), (aI k (a 15) 24 freadPrice__15), ((a 0), .inr (8, (fX8 a (nI tx) fp__15 (nI t0__17) wd__15 (nI we__15) nu__15 na__15 (nI rd__15) x_7 (nI ru) (nI rw) (nI ca) df db sd))), (aI k (a 5) 240 ftext)] H := hP
          replace hD : va_D A [(aI k (a 16) 9 freadSingle), (aI k (a 14) 24 freadFree__15), (aI k (a 15) 24 freadPrice__15), ((a 0), .inr (8, (fX8 a (nI tx) fp__15 (nI t0__17) wd__15 (nI we__15) nu__15 na__15 (nI rd__15) x_7 (nI ru) (nI rw) (nI ca) df db sd))), (aI k (a 5) 240 ftext)] := hD
          try dsimp only at hw_17
          refine lv_bipush (v := 59) hx hb dX8_takeClause_112 (by decide) ?_
          refine lv_icmp_eq (tgt := 127) hx hb dX8_takeClause_114 (by decide) (fun c_18 => ?_) (fun c_18 => ?_)
          · have hlt_19 := hw_17.2.2.resolve_left (fun h => absurd (h.symm.trans c_18) (by decide))
            refine lv_aload_n hx hb dX8_takeClause_127 rfl (lv_at hl 3 rfl) ?_
            refine lv_dup hx hb dX8_takeClause_128 rfl ?_
            refine va_get (D := D) (ci := 8) (v := .int (nI t0__17)) (C := RX8) (T := TX8) (N := 44) hx hb hts inX8 hown hK hP 3 rfl rfl 7 (by decide) (hts _ tw_980) (fun _ h9 => h9) rfl dX8_takeClause_129 ?_
            refine lv_iconst (v := 1) hx hb dX8_takeClause_132 (by decide) ?_
            refine lv_iadd hx hb dX8_takeClause_133 ?_
            refine lv_ti (y := (nI (t0__17 + 1))) (nI_add t0__17 1) ?_
            refine va_put (D := D) (ci := 8) (v := .int (nI (t0__17 + 1))) (ty := .int) (C := RX8) (T := TX8) (N := 44) hx hb hts inX8 tyX8 tyX8_ok nmX8 hown hK hP hD hS 3 rfl rfl 7 (by decide) (hts _ tw_980) (fun _ h9 => h9) rfl (by decide +kernel) rfl rfl (Nat.le_of_ble_eq_true rfl) dX8_takeClause_134 (fun H locs hP hD hS => ?_)
            replace hP : va_P D classes [(aI k (a 16) 9 freadSingle), (aI k (a 14) 24 freadFree__15), (aI k (a 15) 24 freadPrice__15), ((a 0), .inr (8, (fX8 a (nI tx) fp__15 (nI (t0__17 + 1)) wd__15 (nI we__15) nu__15 na__15 (nI rd__15) x_7 (nI ru) (nI rw) (nI ca) df db sd))), (aI k (a 5) 240 ftext)] H := hP
            replace hD : va_D A [(aI k (a 16) 9 freadSingle), (aI k (a 14) 24 freadFree__15), (aI k (a 15) 24 freadPrice__15), ((a 0), .inr (8, (fX8 a (nI tx) fp__15 (nI (t0__17 + 1)) wd__15 (nI we__15) nu__15 na__15 (nI rd__15) x_7 (nI ru) (nI rw) (nI ca) df db sd))), (aI k (a 5) 240 ftext)] := hD
            refine lv_iconst (v := 0) hx hb dX8_takeClause_137 (by decide) ?_
            have hP9 := hP.sub (ws' := [((a 0), .inr (8, (fX8 a (nI tx) fp__15 (nI (t0__17 + 1)) wd__15 (nI we__15) nu__15 na__15 (nI rd__15) x_7 (nI ru) (nI rw) (nI ca) df db sd))), (aI k (a 5) 240 ftext), (aI k (a 14) 24 freadFree__15), (aI k (a 15) 24 freadPrice__15), (aI k (a 16) 9 freadSingle)]) [3, 4, 1, 2, 0] rfl
            have hD9 := hD.sub (ws' := [((a 0), .inr (8, (fX8 a (nI tx) fp__15 (nI (t0__17 + 1)) wd__15 (nI we__15) nu__15 na__15 (nI rd__15) x_7 (nI ru) (nI rw) (nI ca) df db sd))), (aI k (a 5) 240 ftext), (aI k (a 14) 24 freadFree__15), (aI k (a 15) 24 freadPrice__15), (aI k (a 16) 9 freadSingle)]) [3, 4, 1, 2, 0] (by decide) rfl
            exact W.iret (v := 0) hx hb hr (fun t ht hW => ⟨⟨0, ((t0__17 + 1), wd__15, we__15, fp__15, nu__15, na__15, rd__15, x_7, freadFree__15, freadPrice__15, freadSingle, 0), rfl, ⟨rfl, by omega, by omega, by omega, by omega, by omega, fun h => hrs⟩, by rw [ht]; exact hP9, hD9⟩, hS.F ht⟩) hS.2.2 dX8_takeClause_138
          · refine lv_aload_n hx hb dX8_takeClause_117 rfl (lv_at hl 3 rfl) ?_
            refine lv_iconst (v := 1) hx hb dX8_takeClause_118 (by decide) ?_
            refine lv_aload_n hx hb dX8_takeClause_119 rfl (lv_at hl 3 rfl) ?_
            refine va_get (D := D) (ci := 8) (v := .int (nI t0__17)) (C := RX8) (T := TX8) (N := 44) hx hb hts inX8 hown hK hP 3 rfl rfl 7 (by decide) (hts _ tw_980) (fun _ h9 => h9) rfl dX8_takeClause_120 ?_
            refine rw_i (D := D) (wr := [(aI k (a 16) 9 freadSingle), (aI k (a 14) 24 freadFree__15), (aI k (a 15) 24 freadPrice__15), (aI k (a 5) 240 ftext)]) (va_runV (As := [.int 1, .int (nI t0__17)]) (rest := []) ⟨hx, hb, hml, hown, hts⟩ ((m_fails l D k st lo a tx t0__17 we__15 rd__15 ru rw ca fp__15 wd__15 nu__15 na__15 x_7 df db sd 1 (nI t0__17)) H.size) (cwV 2 hts (gV tw_1151 tw_1153 tw_31 tw_87 tw_1154) rfl rfl rfl (by decide +kernel) ⟨Nat.le_of_ble_eq_true rfl, Nat.le_of_ble_eq_true rfl⟩) (pV hS hAlo hlo hP hK (va_Dlo hD hAlo) hZ [3] (by decide) rfl (ci := 8) (q := (RX8, TX8, 44)) (q0 := 0) rfl rfl) rfl rfl hl.1 rfl (lv_room (Nat.le_of_ble_eq_true rfl)) dX8_takeClause_123 ⟨Nat.le_of_ble_eq_true rfl, Nat.le_of_ble_eq_true rfl⟩) hS hA hP hD [3] [0, 1, 2, 4] rfl rfl (by decide) (by decide) (fun r_20 u H locs hw_20 hP hD hS => ?_)
            obtain ⟨fp__20, rfl⟩ : ∃ z, z = u := ⟨_, rfl⟩
            replace hP : va_P D classes [(aI k (a 16) 9 freadSingle), (aI k (a 14) 24 freadFree__15), (aI k (a 15) 24 freadPrice__15), (aI k (a 5) 240 ftext), ((a 0), .inr (8, (fX8 a (nI tx) fp__20 (nI t0__17) wd__15 (nI we__15) nu__15 na__15 (nI rd__15) x_7 (nI ru) (nI rw) (nI ca) df db sd)))] H := hP
            replace hD : va_D A [(aI k (a 16) 9 freadSingle), (aI k (a 14) 24 freadFree__15), (aI k (a 15) 24 freadPrice__15), (aI k (a 5) 240 ftext), ((a 0), .inr (8, (fX8 a (nI tx) fp__20 (nI t0__17) wd__15 (nI we__15) nu__15 na__15 (nI rd__15) x_7 (nI ru) (nI rw) (nI ca) df db sd)))] := hD
            try dsimp only at hw_20
            subst hw_20
            have hP9 := hP.sub (ws' := [((a 0), .inr (8, (fX8 a (nI tx) fp__20 (nI t0__17) wd__15 (nI we__15) nu__15 na__15 (nI rd__15) x_7 (nI ru) (nI rw) (nI ca) df db sd))), (aI k (a 5) 240 ftext), (aI k (a 14) 24 freadFree__15), (aI k (a 15) 24 freadPrice__15), (aI k (a 16) 9 freadSingle)]) [4, 3, 1, 2, 0] rfl
            have hD9 := hD.sub (ws' := [((a 0), .inr (8, (fX8 a (nI tx) fp__20 (nI t0__17) wd__15 (nI we__15) nu__15 na__15 (nI rd__15) x_7 (nI ru) (nI rw) (nI ca) df db sd))), (aI k (a 5) 240 ftext), (aI k (a 14) 24 freadFree__15), (aI k (a 15) 24 freadPrice__15), (aI k (a 16) 9 freadSingle)]) [4, 3, 1, 2, 0] (by decide) rfl
            exact W.iret (v := 1) hx hb hr (fun t ht hW => ⟨⟨1, (t0__17, wd__15, we__15, fp__20, nu__15, na__15, rd__15, x_7, freadFree__15, freadPrice__15, freadSingle, 1), rfl, ⟨rfl, by omega, by omega, by omega, by omega, by omega, fun h => absurd h (by omega)⟩, by rw [ht]; exact hP9, hD9⟩, hS.F ht⟩) hS.2.2 dX8_takeClause_126
        · have c_16 : ¬ (er_15 ≤ 0) := fun h => c_16 ((nI_leI (a := er_15) (b := 0) (by omega) (by omega)).mpr h)
          refine lv_iload_n hx hb dX8_takeClause_106 rfl (lv_at hl 0 rfl) ?_
          have hP9 := hP.sub (ws' := [((a 0), .inr (8, (fX8 a (nI tx) fp__15 (nI t0__15) wd__15 (nI we__15) nu__15 na__15 (nI rd__15) x_7 (nI ru) (nI rw) (nI ca) df db sd))), (aI k (a 5) 240 ftext), (aI k (a 14) 24 freadFree__15), (aI k (a 15) 24 freadPrice__15), (aI k (a 16) 9 freadSingle)]) [1, 2, 3, 4, 0] rfl
          have hD9 := hD.sub (ws' := [((a 0), .inr (8, (fX8 a (nI tx) fp__15 (nI t0__15) wd__15 (nI we__15) nu__15 na__15 (nI rd__15) x_7 (nI ru) (nI rw) (nI ca) df db sd))), (aI k (a 5) 240 ftext), (aI k (a 14) 24 freadFree__15), (aI k (a 15) 24 freadPrice__15), (aI k (a 16) 9 freadSingle)]) [1, 2, 3, 4, 0] (by decide) rfl
          exact W.iret (v := (nI er_15)) hx hb hr (fun t ht hW => ⟨⟨(nI er_15), (t0__15, wd__15, we__15, fp__15, nu__15, na__15, rd__15, x_7, freadFree__15, freadPrice__15, freadSingle, er_15), rfl, ⟨rfl, by omega, by omega, by omega, by omega, by omega, fun h => absurd h (by omega)⟩, by rw [ht]; exact hP9, hD9⟩, hS.F ht⟩) hS.2.2 dX8_takeClause_107
    · have c_5 : ¬ (9 ≤ cl_3) := fun h => c_5 ((nI_leI (a := 9) (b := cl_3) (by omega) (by omega)).mpr h)
      refine lv_aload_n hx hb dX8_takeClause_19 rfl (lv_at hl 1 rfl) ?_
      refine va_get (D := D) (ci := 8) (v := .int ts) (C := RX8) (T := TX8) (N := 44) hx hb hts inX8 hown hK hP 3 rfl rfl 16 (by decide) (hts _ tw_989) (fun _ h9 => h9) rfl dX8_takeClause_20 ?_
      refine lv_iload_n hx hb dX8_takeClause_23 rfl (lv_at hl 0 rfl) ?_
      refine lv_ishr hx hb dX8_takeClause_24 ?_
      refine lv_topi (fun x_21 ex_21 => ?_)
      refine lv_iconst (v := 1) hx hb dX8_takeClause_25 (by decide) ?_
      refine lv_iand hx hb dX8_takeClause_26 ?_
      refine lv_topi (fun x_22 ex_22 => ?_)
      refine lv_iconst (v := 1) hx hb dX8_takeClause_27 (by decide) ?_
      refine lv_icmp_ne (tgt := 35) hx hb dX8_takeClause_28 (by decide) (fun c_23 => ?_) (fun c_23 => ?_)
      · refine lv_iconst (v := 0) hx hb dX8_takeClause_35 (by decide) ?_
        refine lv_istore_n (lv' := [(2, .int 0), (1, .int (nI cl_3)), (0, .ref (a 0))]) hx hb dX8_takeClause_36 rfl hl (by decide) rfl (fun ls hl => ?_)
        refine lv_iload_n hx hb dX8_takeClause_37 rfl (lv_at hl 1 rfl) ?_
        refine lv_if_lt (tgt := 45) hx hb dX8_takeClause_38 (by decide) (fun h => absurd h (nI_pos0 (by omega))) (fun _ => ?_)
        refine lv_iload_n hx hb dX8_takeClause_41 rfl (lv_at hl 0 rfl) ?_
        refine lv_if_eq (tgt := 63) hx hb dX8_takeClause_42 (by decide) (fun _ => ?_) (fun h => absurd (by decide) h)
        refine lv_aload_n hx hb dX8_takeClause_63 rfl (lv_at hl 2 rfl) ?_
        refine lv_dup hx hb dX8_takeClause_64 rfl ?_
        refine va_get (D := D) (ci := 8) (v := .int ts) (C := RX8) (T := TX8) (N := 44) hx hb hts inX8 hown hK hP 3 rfl rfl 16 (by decide) (hts _ tw_989) (fun _ h9 => h9) rfl dX8_takeClause_65 ?_
        refine lv_iconst (v := 1) hx hb dX8_takeClause_68 (by decide) ?_
        refine lv_iload_n hx hb dX8_takeClause_69 rfl (lv_at hl 1 rfl) ?_
        refine lv_ishl hx hb dX8_takeClause_70 ?_
        refine lv_topi (fun x_24 ex_24 => ?_)
        refine lv_ior hx hb dX8_takeClause_71 ?_
        refine lv_topi (fun x_25 ex_25 => ?_)
        refine va_put (D := D) (ci := 8) (v := .int x_25) (ty := .int) (C := RX8) (T := TX8) (N := 44) hx hb hts inX8 tyX8 tyX8_ok nmX8 hown hK hP hD hS 3 rfl rfl 16 (by decide) (hts _ tw_989) (fun _ h9 => h9) rfl (by decide +kernel) rfl rfl (Nat.le_of_ble_eq_true rfl) dX8_takeClause_72 (fun H locs hP hD hS => ?_)
        replace hP : va_P D classes [(aI k (a 14) 24 freadFree), (aI k (a 15) 24 freadPrice), (aI k (a 16) 9 freadSingle), ((a 0), .inr (8, (fX8 a (nI tx) fp (nI t0__1) wd__1 (nI we__1) nu na (nI rd) x_25 (nI ru) (nI rw) (nI ca) df db sd))), (aI k (a 5) 240 ftext)] H := hP
        replace hD : va_D A [(aI k (a 14) 24 freadFree), (aI k (a 15) 24 freadPrice), (aI k (a 16) 9 freadSingle), ((a 0), .inr (8, (fX8 a (nI tx) fp (nI t0__1) wd__1 (nI we__1) nu na (nI rd) x_25 (nI ru) (nI rw) (nI ca) df db sd))), (aI k (a 5) 240 ftext)] := hD
        refine lv_aload_n hx hb dX8_takeClause_75 rfl (lv_at hl 2 rfl) ?_
        refine lv_aload_n hx hb dX8_takeClause_76 rfl (lv_at hl 2 rfl) ?_
        refine va_get (D := D) (ci := 8) (v := .int (nI we__1)) (C := RX8) (T := TX8) (N := 44) hx hb hts inX8 hown hK hP 3 rfl rfl 9 (by decide) (hts _ tw_982) (fun _ h9 => h9) rfl dX8_takeClause_77 ?_
        refine va_put (D := D) (ci := 8) (v := .int (nI we__1)) (ty := .int) (C := RX8) (T := TX8) (N := 44) hx hb hts inX8 tyX8 tyX8_ok nmX8 hown hK hP hD hS 3 rfl rfl 7 (by decide) (hts _ tw_980) (fun _ h9 => h9) rfl (by decide +kernel) rfl rfl (Nat.le_of_ble_eq_true rfl) dX8_takeClause_80 (fun H locs hP hD hS => ?_)
        replace hP : va_P D classes [(aI k (a 14) 24 freadFree), (aI k (a 15) 24 freadPrice), (aI k (a 16) 9 freadSingle), ((a 0), .inr (8, (fX8 a (nI tx) fp (nI we__1) wd__1 (nI we__1) nu na (nI rd) x_25 (nI ru) (nI rw) (nI ca) df db sd))), (aI k (a 5) 240 ftext)] H := hP
        replace hD : va_D A [(aI k (a 14) 24 freadFree), (aI k (a 15) 24 freadPrice), (aI k (a 16) 9 freadSingle), ((a 0), .inr (8, (fX8 a (nI tx) fp (nI we__1) wd__1 (nI we__1) nu na (nI rd) x_25 (nI ru) (nI rw) (nI ca) df db sd))), (aI k (a 5) 240 ftext)] := hD
        refine lv_iload_n hx hb dX8_takeClause_83 rfl (lv_at hl 1 rfl) ?_
        refine lv_bipush (v := 9) hx hb dX8_takeClause_84 (by decide) ?_
        refine lv_icmp_ne (tgt := 96) hx hb dX8_takeClause_86 (by decide) (fun c_26 => ?_) (fun c_26 => ?_)
        · have c_26 : ¬ (cl_3 = 9) := fun h => c_26 ((nI_eq (a := cl_3) (b := 9) (by omega) (by omega)).mpr h)
          refine lv_aload_n hx hb dX8_takeClause_96 rfl (lv_at hl 2 rfl) ?_
          refine lv_iload_n hx hb dX8_takeClause_97 rfl (lv_at hl 1 rfl) ?_
          refine rw_i (D := D) (wr := [(aI k (a 14) 24 freadFree), (aI k (a 15) 24 freadPrice)]) (va_runV (As := [.int (nI cl_3)]) (rest := []) ⟨hx, hb, hml, hown, hts⟩ ((m_takeSingle l D k st lo a tx we__1 we__1 rd ru rw ca fp wd__1 nu na x_25 df db sd ftext freadSingle cl_3 (by omega) (by omega) (by omega) hrs) H.size) (cwV 1 hts (gV tw_1173 tw_1175 tw_36 tw_87 tw_1176) rfl rfl rfl (by decide +kernel) ⟨Nat.le_of_ble_eq_true rfl, Nat.le_of_ble_eq_true rfl⟩) (pV hS hAlo hlo hP hK (va_Dlo hD hAlo) hZ [3, 4, 2] (by decide) rfl (ci := 8) (q := (RX8, TX8, 44)) (q0 := 0) rfl rfl) rfl rfl hl.1 rfl (lv_room (Nat.le_of_ble_eq_true rfl)) dX8_takeClause_98 ⟨Nat.le_of_ble_eq_true rfl, Nat.le_of_ble_eq_true rfl⟩) hS hA hP hD [3, 4, 2] [0, 1] rfl rfl (by decide) (by decide) (fun r_27 u H locs hw_27 hP hD hS => ?_)
          obtain ⟨t0__27, wd__27, we__27, fp__27, nu__27, na__27, freadSingle__27, er_27⟩ := u
          replace hP : va_P D classes [(aI k (a 14) 24 freadFree), (aI k (a 15) 24 freadPrice), ((a 0), .inr (8, (fX8 a (nI tx) fp__27 (nI t0__27) wd__27 (nI we__27) nu__27 na__27 (nI rd) x_25 (nI ru) (nI rw) (nI ca) df db sd))), (aI k (a 5) 240 ftext), (aI k (a 16) 9 freadSingle__27)] H := hP
          replace hD : va_D A [(aI k (a 14) 24 freadFree), (aI k (a 15) 24 freadPrice), ((a 0), .inr (8, (fX8 a (nI tx) fp__27 (nI t0__27) wd__27 (nI we__27) nu__27 na__27 (nI rd) x_25 (nI ru) (nI rw) (nI ca) df db sd))), (aI k (a 5) 240 ftext), (aI k (a 16) 9 freadSingle__27)] := hD
          try dsimp only at hw_27
          obtain ⟨rfl, hw_27⟩ := hw_27
          refine lv_istore_n (lv' := [(3, .int (nI er_27)), (2, .int 0), (1, .int (nI cl_3)), (0, .ref (a 0))]) hx hb dX8_takeClause_101 rfl hl (by decide) rfl (fun ls hl => ?_)
          refine lv_iload_n hx hb dX8_takeClause_102 rfl (lv_at hl 0 rfl) ?_
          refine lv_if_le (tgt := 108) hx hb dX8_takeClause_103 (by decide) (fun c_28 => ?_) (fun c_28 => ?_)
          · have c_28 := (nI_leI (a := er_27) (b := 0) (by omega) (by omega)).mp c_28
            refine lv_aload_n hx hb dX8_takeClause_108 rfl (lv_at hl 3 rfl) ?_
            refine rw_i (D := D) (wr := [(aI k (a 14) 24 freadFree), (aI k (a 15) 24 freadPrice), (aI k (a 16) 9 freadSingle__27)]) (va_runV (As := []) (rest := []) ⟨hx, hb, hml, hown, hts⟩ ((m_here l D k st lo a tx t0__27 we__27 rd ru rw ca fp__27 wd__27 nu__27 na__27 x_25 df db sd ftext (by omega) (by omega)) H.size) (cwV 0 hts (gV tw_1120 tw_1122 tw_27 tw_87 tw_1123) rfl rfl rfl (by decide +kernel) ⟨Nat.le_of_ble_eq_true rfl, Nat.le_of_ble_eq_true rfl⟩) (pV hS hAlo hlo hP hK (va_Dlo hD hAlo) hZ [2, 3] (by decide) rfl (ci := 8) (q := (RX8, TX8, 44)) (q0 := 0) rfl rfl) rfl rfl hl.1 rfl (lv_room (Nat.le_of_ble_eq_true rfl)) dX8_takeClause_109 ⟨Nat.le_of_ble_eq_true rfl, Nat.le_of_ble_eq_true rfl⟩) hS hA hP hD [2, 3] [0, 1, 4] rfl rfl (by decide) (by decide) (fun r_29 u H locs hw_29 hP hD hS => ?_)
            obtain ⟨t0__29, rfl⟩ : ∃ z, z = u := ⟨_, rfl⟩
            replace hP : va_P D classes [(aI k (a 14) 24 freadFree), (aI k (a 15) 24 freadPrice), (aI k (a 16) 9 freadSingle__27), ((a 0), .inr (8, (fX8 a (nI tx) fp__27 (nI t0__29) wd__27 (nI we__27) nu__27 na__27 (nI rd) x_25 (nI ru) (nI rw) (nI ca) df db sd))), (aI k (a 5) 240 ftext)] H := hP
            replace hD : va_D A [(aI k (a 14) 24 freadFree), (aI k (a 15) 24 freadPrice), (aI k (a 16) 9 freadSingle__27), ((a 0), .inr (8, (fX8 a (nI tx) fp__27 (nI t0__29) wd__27 (nI we__27) nu__27 na__27 (nI rd) x_25 (nI ru) (nI rw) (nI ca) df db sd))), (aI k (a 5) 240 ftext)] := hD
            try dsimp only at hw_29
            refine lv_bipush (v := 59) hx hb dX8_takeClause_112 (by decide) ?_
            refine lv_icmp_eq (tgt := 127) hx hb dX8_takeClause_114 (by decide) (fun c_30 => ?_) (fun c_30 => ?_)
            · have hlt_31 := hw_29.2.2.resolve_left (fun h => absurd (h.symm.trans c_30) (by decide))
              refine lv_aload_n hx hb dX8_takeClause_127 rfl (lv_at hl 3 rfl) ?_
              refine lv_dup hx hb dX8_takeClause_128 rfl ?_
              refine va_get (D := D) (ci := 8) (v := .int (nI t0__29)) (C := RX8) (T := TX8) (N := 44) hx hb hts inX8 hown hK hP 3 rfl rfl 7 (by decide) (hts _ tw_980) (fun _ h9 => h9) rfl dX8_takeClause_129 ?_
              refine lv_iconst (v := 1) hx hb dX8_takeClause_132 (by decide) ?_
              refine lv_iadd hx hb dX8_takeClause_133 ?_
              refine lv_ti (y := (nI (t0__29 + 1))) (nI_add t0__29 1) ?_
              refine va_put (D := D) (ci := 8) (v := .int (nI (t0__29 + 1))) (ty := .int) (C := RX8) (T := TX8) (N := 44) hx hb hts inX8 tyX8 tyX8_ok nmX8 hown hK hP hD hS 3 rfl rfl 7 (by decide) (hts _ tw_980) (fun _ h9 => h9) rfl (by decide +kernel) rfl rfl (Nat.le_of_ble_eq_true rfl) dX8_takeClause_134 (fun H locs hP hD hS => ?_)
              replace hP : va_P D classes [(aI k (a 14) 24 freadFree), (aI k (a 15) 24 freadPrice), (aI k (a 16) 9 freadSingle__27), ((a 0), .inr (8, (fX8 a (nI tx) fp__27 (nI (t0__29 + 1)) wd__27 (nI we__27) nu__27 na__27 (nI rd) x_25 (nI ru) (nI rw) (nI ca) df db sd))), (aI k (a 5) 240 ftext)] H := hP
              replace hD : va_D A [(aI k (a 14) 24 freadFree), (aI k (a 15) 24 freadPrice), (aI k (a 16) 9 freadSingle__27), ((a 0), .inr (8, (fX8 a (nI tx) fp__27 (nI (t0__29 + 1)) wd__27 (nI we__27) nu__27 na__27 (nI rd) x_25 (nI ru) (nI rw) (nI ca) df db sd))), (aI k (a 5) 240 ftext)] := hD
              refine lv_iconst (v := 0) hx hb dX8_takeClause_137 (by decide) ?_
              have hP9 := hP.sub (ws' := [((a 0), .inr (8, (fX8 a (nI tx) fp__27 (nI (t0__29 + 1)) wd__27 (nI we__27) nu__27 na__27 (nI rd) x_25 (nI ru) (nI rw) (nI ca) df db sd))), (aI k (a 5) 240 ftext), (aI k (a 14) 24 freadFree), (aI k (a 15) 24 freadPrice), (aI k (a 16) 9 freadSingle__27)]) [3, 4, 0, 1, 2] rfl
              have hD9 := hD.sub (ws' := [((a 0), .inr (8, (fX8 a (nI tx) fp__27 (nI (t0__29 + 1)) wd__27 (nI we__27) nu__27 na__27 (nI rd) x_25 (nI ru) (nI rw) (nI ca) df db sd))), (aI k (a 5) 240 ftext), (aI k (a 14) 24 freadFree), (aI k (a 15) 24 freadPrice), (aI k (a 16) 9 freadSingle__27)]) [3, 4, 0, 1, 2] (by decide) rfl
              exact W.iret (v := 0) hx hb hr (fun t ht hW => ⟨⟨0, ((t0__29 + 1), wd__27, we__27, fp__27, nu__27, na__27, rd, x_25, freadFree, freadPrice, freadSingle__27, 0), rfl, ⟨rfl, by omega, by omega, by omega, by omega, by omega, fun h => hw_27.2.2.2 (by omega)⟩, by rw [ht]; exact hP9, hD9⟩, hS.F ht⟩) hS.2.2 dX8_takeClause_138
            · refine lv_aload_n hx hb dX8_takeClause_117 rfl (lv_at hl 3 rfl) ?_
              refine lv_iconst (v := 1) hx hb dX8_takeClause_118 (by decide) ?_
              refine lv_aload_n hx hb dX8_takeClause_119 rfl (lv_at hl 3 rfl) ?_
              refine va_get (D := D) (ci := 8) (v := .int (nI t0__29)) (C := RX8) (T := TX8) (N := 44) hx hb hts inX8 hown hK hP 3 rfl rfl 7 (by decide) (hts _ tw_980) (fun _ h9 => h9) rfl dX8_takeClause_120 ?_
              refine rw_i (D := D) (wr := [(aI k (a 14) 24 freadFree), (aI k (a 15) 24 freadPrice), (aI k (a 16) 9 freadSingle__27), (aI k (a 5) 240 ftext)]) (va_runV (As := [.int 1, .int (nI t0__29)]) (rest := []) ⟨hx, hb, hml, hown, hts⟩ ((m_fails l D k st lo a tx t0__29 we__27 rd ru rw ca fp__27 wd__27 nu__27 na__27 x_25 df db sd 1 (nI t0__29)) H.size) (cwV 2 hts (gV tw_1151 tw_1153 tw_31 tw_87 tw_1154) rfl rfl rfl (by decide +kernel) ⟨Nat.le_of_ble_eq_true rfl, Nat.le_of_ble_eq_true rfl⟩) (pV hS hAlo hlo hP hK (va_Dlo hD hAlo) hZ [3] (by decide) rfl (ci := 8) (q := (RX8, TX8, 44)) (q0 := 0) rfl rfl) rfl rfl hl.1 rfl (lv_room (Nat.le_of_ble_eq_true rfl)) dX8_takeClause_123 ⟨Nat.le_of_ble_eq_true rfl, Nat.le_of_ble_eq_true rfl⟩) hS hA hP hD [3] [0, 1, 2, 4] rfl rfl (by decide) (by decide) (fun r_32 u H locs hw_32 hP hD hS => ?_)
              obtain ⟨fp__32, rfl⟩ : ∃ z, z = u := ⟨_, rfl⟩
              replace hP : va_P D classes [(aI k (a 14) 24 freadFree), (aI k (a 15) 24 freadPrice), (aI k (a 16) 9 freadSingle__27), (aI k (a 5) 240 ftext), ((a 0), .inr (8, (fX8 a (nI tx) fp__32 (nI t0__29) wd__27 (nI we__27) nu__27 na__27 (nI rd) x_25 (nI ru) (nI rw) (nI ca) df db sd)))] H := hP
              replace hD : va_D A [(aI k (a 14) 24 freadFree), (aI k (a 15) 24 freadPrice), (aI k (a 16) 9 freadSingle__27), (aI k (a 5) 240 ftext), ((a 0), .inr (8, (fX8 a (nI tx) fp__32 (nI t0__29) wd__27 (nI we__27) nu__27 na__27 (nI rd) x_25 (nI ru) (nI rw) (nI ca) df db sd)))] := hD
              try dsimp only at hw_32
              subst hw_32
              have hP9 := hP.sub (ws' := [((a 0), .inr (8, (fX8 a (nI tx) fp__32 (nI t0__29) wd__27 (nI we__27) nu__27 na__27 (nI rd) x_25 (nI ru) (nI rw) (nI ca) df db sd))), (aI k (a 5) 240 ftext), (aI k (a 14) 24 freadFree), (aI k (a 15) 24 freadPrice), (aI k (a 16) 9 freadSingle__27)]) [4, 3, 0, 1, 2] rfl
              have hD9 := hD.sub (ws' := [((a 0), .inr (8, (fX8 a (nI tx) fp__32 (nI t0__29) wd__27 (nI we__27) nu__27 na__27 (nI rd) x_25 (nI ru) (nI rw) (nI ca) df db sd))), (aI k (a 5) 240 ftext), (aI k (a 14) 24 freadFree), (aI k (a 15) 24 freadPrice), (aI k (a 16) 9 freadSingle__27)]) [4, 3, 0, 1, 2] (by decide) rfl
              exact W.iret (v := 1) hx hb hr (fun t ht hW => ⟨⟨1, (t0__29, wd__27, we__27, fp__32, nu__27, na__27, rd, x_25, freadFree, freadPrice, freadSingle__27, 1), rfl, ⟨rfl, by omega, by omega, by omega, by omega, by omega, fun h => absurd h (by omega)⟩, by rw [ht]; exact hP9, hD9⟩, hS.F ht⟩) hS.2.2 dX8_takeClause_126
          · have c_28 : ¬ (er_27 ≤ 0) := fun h => c_28 ((nI_leI (a := er_27) (b := 0) (by omega) (by omega)).mpr h)
            refine lv_iload_n hx hb dX8_takeClause_106 rfl (lv_at hl 0 rfl) ?_
            have hP9 := hP.sub (ws' := [((a 0), .inr (8, (fX8 a (nI tx) fp__27 (nI t0__27) wd__27 (nI we__27) nu__27 na__27 (nI rd) x_25 (nI ru) (nI rw) (nI ca) df db sd))), (aI k (a 5) 240 ftext), (aI k (a 14) 24 freadFree), (aI k (a 15) 24 freadPrice), (aI k (a 16) 9 freadSingle__27)]) [2, 3, 0, 1, 4] rfl
            have hD9 := hD.sub (ws' := [((a 0), .inr (8, (fX8 a (nI tx) fp__27 (nI t0__27) wd__27 (nI we__27) nu__27 na__27 (nI rd) x_25 (nI ru) (nI rw) (nI ca) df db sd))), (aI k (a 5) 240 ftext), (aI k (a 14) 24 freadFree), (aI k (a 15) 24 freadPrice), (aI k (a 16) 9 freadSingle__27)]) [2, 3, 0, 1, 4] (by decide) rfl
            exact W.iret (v := (nI er_27)) hx hb hr (fun t ht hW => ⟨⟨(nI er_27), (t0__27, wd__27, we__27, fp__27, nu__27, na__27, rd, x_25, freadFree, freadPrice, freadSingle__27, er_27), rfl, ⟨rfl, by omega, by omega, by omega, by omega, by omega, fun h => absurd h (by omega)⟩, by rw [ht]; exact hP9, hD9⟩, hS.F ht⟩) hS.2.2 dX8_takeClause_107
        · have c_26 := (nI_eq (a := cl_3) (b := 9) (by omega) (by omega)).mp c_26
          refine lv_aload_n hx hb dX8_takeClause_89 rfl (lv_at hl 2 rfl) ?_
          refine rw_i (D := D) (wr := [(aI k (a 16) 9 freadSingle)]) (va_runV (As := []) (rest := []) ⟨hx, hb, hml, hown, hts⟩ ((m_takeDoors l D k st lo a tx we__1 we__1 rd ru rw ca fp wd__1 nu na x_25 df db sd ftext freadFree freadPrice (by omega) (by omega) (by omega)) H.size) (cwV 0 hts (gV tw_1155 tw_1157 tw_32 tw_87 tw_1158) rfl rfl rfl (by decide +kernel) ⟨Nat.le_of_ble_eq_true rfl, Nat.le_of_ble_eq_true rfl⟩) (pV hS hAlo hlo hP hK (va_Dlo hD hAlo) hZ [3, 4, 0, 1] (by decide) rfl (ci := 8) (q := (RX8, TX8, 44)) (q0 := 0) rfl rfl) rfl rfl hl.1 rfl (lv_room (Nat.le_of_ble_eq_true rfl)) dX8_takeClause_90 ⟨Nat.le_of_ble_eq_true rfl, Nat.le_of_ble_eq_true rfl⟩) hS hA hP hD [3, 4, 0, 1] [2] rfl rfl (by decide) (by decide) (fun r_33 u H locs hw_33 hP hD hS => ?_)
          obtain ⟨t0__33, wd__33, we__33, fp__33, nu__33, na__33, rd__33, freadFree__33, freadPrice__33, er_33⟩ := u
          replace hP : va_P D classes [(aI k (a 16) 9 freadSingle), ((a 0), .inr (8, (fX8 a (nI tx) fp__33 (nI t0__33) wd__33 (nI we__33) nu__33 na__33 (nI rd__33) x_25 (nI ru) (nI rw) (nI ca) df db sd))), (aI k (a 5) 240 ftext), (aI k (a 14) 24 freadFree__33), (aI k (a 15) 24 freadPrice__33)] H := hP
          replace hD : va_D A [(aI k (a 16) 9 freadSingle), ((a 0), .inr (8, (fX8 a (nI tx) fp__33 (nI t0__33) wd__33 (nI we__33) nu__33 na__33 (nI rd__33) x_25 (nI ru) (nI rw) (nI ca) df db sd))), (aI k (a 5) 240 ftext), (aI k (a 14) 24 freadFree__33), (aI k (a 15) 24 freadPrice__33)] := hD
          try dsimp only at hw_33
          obtain ⟨rfl, hw_33⟩ := hw_33
          refine lv_goto (tgt := 101) hx hb dX8_takeClause_93 (by decide) ?_
          refine lv_istore_n (lv' := [(3, .int (nI er_33)), (2, .int 0), (1, .int (nI cl_3)), (0, .ref (a 0))]) hx hb dX8_takeClause_101 rfl hl (by decide) rfl (fun ls hl => ?_)
          refine lv_iload_n hx hb dX8_takeClause_102 rfl (lv_at hl 0 rfl) ?_
          refine lv_if_le (tgt := 108) hx hb dX8_takeClause_103 (by decide) (fun c_34 => ?_) (fun c_34 => ?_)
          · have c_34 := (nI_leI (a := er_33) (b := 0) (by omega) (by omega)).mp c_34
            refine lv_aload_n hx hb dX8_takeClause_108 rfl (lv_at hl 3 rfl) ?_
            refine rw_i (D := D) (wr := [(aI k (a 16) 9 freadSingle), (aI k (a 14) 24 freadFree__33), (aI k (a 15) 24 freadPrice__33)]) (va_runV (As := []) (rest := []) ⟨hx, hb, hml, hown, hts⟩ ((m_here l D k st lo a tx t0__33 we__33 rd__33 ru rw ca fp__33 wd__33 nu__33 na__33 x_25 df db sd ftext (by omega) (by omega)) H.size) (cwV 0 hts (gV tw_1120 tw_1122 tw_27 tw_87 tw_1123) rfl rfl rfl (by decide +kernel) ⟨Nat.le_of_ble_eq_true rfl, Nat.le_of_ble_eq_true rfl⟩) (pV hS hAlo hlo hP hK (va_Dlo hD hAlo) hZ [1, 2] (by decide) rfl (ci := 8) (q := (RX8, TX8, 44)) (q0 := 0) rfl rfl) rfl rfl hl.1 rfl (lv_room (Nat.le_of_ble_eq_true rfl)) dX8_takeClause_109 ⟨Nat.le_of_ble_eq_true rfl, Nat.le_of_ble_eq_true rfl⟩) hS hA hP hD [1, 2] [0, 3, 4] rfl rfl (by decide) (by decide) (fun r_35 u H locs hw_35 hP hD hS => ?_)
            obtain ⟨t0__35, rfl⟩ : ∃ z, z = u := ⟨_, rfl⟩
            replace hP : va_P D classes [(aI k (a 16) 9 freadSingle), (aI k (a 14) 24 freadFree__33), (aI k (a 15) 24 freadPrice__33), ((a 0), .inr (8, (fX8 a (nI tx) fp__33 (nI t0__35) wd__33 (nI we__33) nu__33 na__33 (nI rd__33) x_25 (nI ru) (nI rw) (nI ca) df db sd))), (aI k (a 5) 240 ftext)] H := hP
            replace hD : va_D A [(aI k (a 16) 9 freadSingle), (aI k (a 14) 24 freadFree__33), (aI k (a 15) 24 freadPrice__33), ((a 0), .inr (8, (fX8 a (nI tx) fp__33 (nI t0__35) wd__33 (nI we__33) nu__33 na__33 (nI rd__33) x_25 (nI ru) (nI rw) (nI ca) df db sd))), (aI k (a 5) 240 ftext)] := hD
            try dsimp only at hw_35
            refine lv_bipush (v := 59) hx hb dX8_takeClause_112 (by decide) ?_
            refine lv_icmp_eq (tgt := 127) hx hb dX8_takeClause_114 (by decide) (fun c_36 => ?_) (fun c_36 => ?_)
            · have hlt_37 := hw_35.2.2.resolve_left (fun h => absurd (h.symm.trans c_36) (by decide))
              refine lv_aload_n hx hb dX8_takeClause_127 rfl (lv_at hl 3 rfl) ?_
              refine lv_dup hx hb dX8_takeClause_128 rfl ?_
              refine va_get (D := D) (ci := 8) (v := .int (nI t0__35)) (C := RX8) (T := TX8) (N := 44) hx hb hts inX8 hown hK hP 3 rfl rfl 7 (by decide) (hts _ tw_980) (fun _ h9 => h9) rfl dX8_takeClause_129 ?_
              refine lv_iconst (v := 1) hx hb dX8_takeClause_132 (by decide) ?_
              refine lv_iadd hx hb dX8_takeClause_133 ?_
              refine lv_ti (y := (nI (t0__35 + 1))) (nI_add t0__35 1) ?_
              refine va_put (D := D) (ci := 8) (v := .int (nI (t0__35 + 1))) (ty := .int) (C := RX8) (T := TX8) (N := 44) hx hb hts inX8 tyX8 tyX8_ok nmX8 hown hK hP hD hS 3 rfl rfl 7 (by decide) (hts _ tw_980) (fun _ h9 => h9) rfl (by decide +kernel) rfl rfl (Nat.le_of_ble_eq_true rfl) dX8_takeClause_134 (fun H locs hP hD hS => ?_)
              replace hP : va_P D classes [(aI k (a 16) 9 freadSingle), (aI k (a 14) 24 freadFree__33), (aI k (a 15) 24 freadPrice__33), ((a 0), .inr (8, (fX8 a (nI tx) fp__33 (nI (t0__35 + 1)) wd__33 (nI we__33) nu__33 na__33 (nI rd__33) x_25 (nI ru) (nI rw) (nI ca) df db sd))), (aI k (a 5) 240 ftext)] H := hP
              replace hD : va_D A [(aI k (a 16) 9 freadSingle), (aI k (a 14) 24 freadFree__33), (aI k (a 15) 24 freadPrice__33), ((a 0), .inr (8, (fX8 a (nI tx) fp__33 (nI (t0__35 + 1)) wd__33 (nI we__33) nu__33 na__33 (nI rd__33) x_25 (nI ru) (nI rw) (nI ca) df db sd))), (aI k (a 5) 240 ftext)] := hD
              refine lv_iconst (v := 0) hx hb dX8_takeClause_137 (by decide) ?_
              have hP9 := hP.sub (ws' := [((a 0), .inr (8, (fX8 a (nI tx) fp__33 (nI (t0__35 + 1)) wd__33 (nI we__33) nu__33 na__33 (nI rd__33) x_25 (nI ru) (nI rw) (nI ca) df db sd))), (aI k (a 5) 240 ftext), (aI k (a 14) 24 freadFree__33), (aI k (a 15) 24 freadPrice__33), (aI k (a 16) 9 freadSingle)]) [3, 4, 1, 2, 0] rfl
              have hD9 := hD.sub (ws' := [((a 0), .inr (8, (fX8 a (nI tx) fp__33 (nI (t0__35 + 1)) wd__33 (nI we__33) nu__33 na__33 (nI rd__33) x_25 (nI ru) (nI rw) (nI ca) df db sd))), (aI k (a 5) 240 ftext), (aI k (a 14) 24 freadFree__33), (aI k (a 15) 24 freadPrice__33), (aI k (a 16) 9 freadSingle)]) [3, 4, 1, 2, 0] (by decide) rfl
              exact W.iret (v := 0) hx hb hr (fun t ht hW => ⟨⟨0, ((t0__35 + 1), wd__33, we__33, fp__33, nu__33, na__33, rd__33, x_25, freadFree__33, freadPrice__33, freadSingle, 0), rfl, ⟨rfl, by omega, by omega, by omega, by omega, by omega, fun h => hrs⟩, by rw [ht]; exact hP9, hD9⟩, hS.F ht⟩) hS.2.2 dX8_takeClause_138
            · refine lv_aload_n hx hb dX8_takeClause_117 rfl (lv_at hl 3 rfl) ?_
              refine lv_iconst (v := 1) hx hb dX8_takeClause_118 (by decide) ?_
              refine lv_aload_n hx hb dX8_takeClause_119 rfl (lv_at hl 3 rfl) ?_
              refine va_get (D := D) (ci := 8) (v := .int (nI t0__35)) (C := RX8) (T := TX8) (N := 44) hx hb hts inX8 hown hK hP 3 rfl rfl 7 (by decide) (hts _ tw_980) (fun _ h9 => h9) rfl dX8_takeClause_120 ?_
              refine rw_i (D := D) (wr := [(aI k (a 16) 9 freadSingle), (aI k (a 14) 24 freadFree__33), (aI k (a 15) 24 freadPrice__33), (aI k (a 5) 240 ftext)]) (va_runV (As := [.int 1, .int (nI t0__35)]) (rest := []) ⟨hx, hb, hml, hown, hts⟩ ((m_fails l D k st lo a tx t0__35 we__33 rd__33 ru rw ca fp__33 wd__33 nu__33 na__33 x_25 df db sd 1 (nI t0__35)) H.size) (cwV 2 hts (gV tw_1151 tw_1153 tw_31 tw_87 tw_1154) rfl rfl rfl (by decide +kernel) ⟨Nat.le_of_ble_eq_true rfl, Nat.le_of_ble_eq_true rfl⟩) (pV hS hAlo hlo hP hK (va_Dlo hD hAlo) hZ [3] (by decide) rfl (ci := 8) (q := (RX8, TX8, 44)) (q0 := 0) rfl rfl) rfl rfl hl.1 rfl (lv_room (Nat.le_of_ble_eq_true rfl)) dX8_takeClause_123 ⟨Nat.le_of_ble_eq_true rfl, Nat.le_of_ble_eq_true rfl⟩) hS hA hP hD [3] [0, 1, 2, 4] rfl rfl (by decide) (by decide) (fun r_38 u H locs hw_38 hP hD hS => ?_)
              obtain ⟨fp__38, rfl⟩ : ∃ z, z = u := ⟨_, rfl⟩
              replace hP : va_P D classes [(aI k (a 16) 9 freadSingle), (aI k (a 14) 24 freadFree__33), (aI k (a 15) 24 freadPrice__33), (aI k (a 5) 240 ftext), ((a 0), .inr (8, (fX8 a (nI tx) fp__38 (nI t0__35) wd__33 (nI we__33) nu__33 na__33 (nI rd__33) x_25 (nI ru) (nI rw) (nI ca) df db sd)))] H := hP
              replace hD : va_D A [(aI k (a 16) 9 freadSingle), (aI k (a 14) 24 freadFree__33), (aI k (a 15) 24 freadPrice__33), (aI k (a 5) 240 ftext), ((a 0), .inr (8, (fX8 a (nI tx) fp__38 (nI t0__35) wd__33 (nI we__33) nu__33 na__33 (nI rd__33) x_25 (nI ru) (nI rw) (nI ca) df db sd)))] := hD
              try dsimp only at hw_38
              subst hw_38
              have hP9 := hP.sub (ws' := [((a 0), .inr (8, (fX8 a (nI tx) fp__38 (nI t0__35) wd__33 (nI we__33) nu__33 na__33 (nI rd__33) x_25 (nI ru) (nI rw) (nI ca) df db sd))), (aI k (a 5) 240 ftext), (aI k (a 14) 24 freadFree__33), (aI k (a 15) 24 freadPrice__33), (aI k (a 16) 9 freadSingle)]) [4, 3, 1, 2, 0] rfl
              have hD9 := hD.sub (ws' := [((a 0), .inr (8, (fX8 a (nI tx) fp__38 (nI t0__35) wd__33 (nI we__33) nu__33 na__33 (nI rd__33) x_25 (nI ru) (nI rw) (nI ca) df db sd))), (aI k (a 5) 240 ftext), (aI k (a 14) 24 freadFree__33), (aI k (a 15) 24 freadPrice__33), (aI k (a 16) 9 freadSingle)]) [4, 3, 1, 2, 0] (by decide) rfl
              exact W.iret (v := 1) hx hb hr (fun t ht hW => ⟨⟨1, (t0__35, wd__33, we__33, fp__38, nu__33, na__33, rd__33, x_25, freadFree__33, freadPrice__33, freadSingle, 1), rfl, ⟨rfl, by omega, by omega, by omega, by omega, by omega, fun h => absurd h (by omega)⟩, by rw [ht]; exact hP9, hD9⟩, hS.F ht⟩) hS.2.2 dX8_takeClause_126
          · have c_34 : ¬ (er_33 ≤ 0) := fun h => c_34 ((nI_leI (a := er_33) (b := 0) (by omega) (by omega)).mpr h)
            refine lv_iload_n hx hb dX8_takeClause_106 rfl (lv_at hl 0 rfl) ?_
            have hP9 := hP.sub (ws' := [((a 0), .inr (8, (fX8 a (nI tx) fp__33 (nI t0__33) wd__33 (nI we__33) nu__33 na__33 (nI rd__33) x_25 (nI ru) (nI rw) (nI ca) df db sd))), (aI k (a 5) 240 ftext), (aI k (a 14) 24 freadFree__33), (aI k (a 15) 24 freadPrice__33), (aI k (a 16) 9 freadSingle)]) [1, 2, 3, 4, 0] rfl
            have hD9 := hD.sub (ws' := [((a 0), .inr (8, (fX8 a (nI tx) fp__33 (nI t0__33) wd__33 (nI we__33) nu__33 na__33 (nI rd__33) x_25 (nI ru) (nI rw) (nI ca) df db sd))), (aI k (a 5) 240 ftext), (aI k (a 14) 24 freadFree__33), (aI k (a 15) 24 freadPrice__33), (aI k (a 16) 9 freadSingle)]) [1, 2, 3, 4, 0] (by decide) rfl
            exact W.iret (v := (nI er_33)) hx hb hr (fun t ht hW => ⟨⟨(nI er_33), (t0__33, wd__33, we__33, fp__33, nu__33, na__33, rd__33, x_25, freadFree__33, freadPrice__33, freadSingle, er_33), rfl, ⟨rfl, by omega, by omega, by omega, by omega, by omega, fun h => absurd h (by omega)⟩, by rw [ht]; exact hP9, hD9⟩, hS.F ht⟩) hS.2.2 dX8_takeClause_107
      · refine lv_iconst (v := 1) hx hb dX8_takeClause_31 (by decide) ?_
        refine lv_goto (tgt := 36) hx hb dX8_takeClause_32 (by decide) ?_
        refine lv_istore_n (lv' := [(2, .int 1), (1, .int (nI cl_3)), (0, .ref (a 0))]) hx hb dX8_takeClause_36 rfl hl (by decide) rfl (fun ls hl => ?_)
        refine lv_iload_n hx hb dX8_takeClause_37 rfl (lv_at hl 1 rfl) ?_
        refine lv_if_lt (tgt := 45) hx hb dX8_takeClause_38 (by decide) (fun h => absurd h (nI_pos0 (by omega))) (fun _ => ?_)
        refine lv_iload_n hx hb dX8_takeClause_41 rfl (lv_at hl 0 rfl) ?_
        refine lv_if_eq (tgt := 63) hx hb dX8_takeClause_42 (by decide) (fun h => absurd h (by decide)) (fun _ => ?_)
        refine lv_aload_n hx hb dX8_takeClause_45 rfl (lv_at hl 2 rfl) ?_
        refine lv_iload_n hx hb dX8_takeClause_46 rfl (lv_at hl 1 rfl) ?_
        refine lv_if_ge (tgt := 54) hx hb dX8_takeClause_47 (by decide) (fun _ => ?_) (fun h => absurd (nI_ge0 (by omega)) h)
        refine lv_iconst (v := 3) hx hb dX8_takeClause_54 (by decide) ?_
        refine lv_aload_n hx hb dX8_takeClause_55 rfl (lv_at hl 2 rfl) ?_
        refine va_get (D := D) (ci := 8) (v := .int (nI t0__1)) (C := RX8) (T := TX8) (N := 44) hx hb hts inX8 hown hK hP 3 rfl rfl 7 (by decide) (hts _ tw_980) (fun _ h9 => h9) rfl dX8_takeClause_56 ?_
        refine rw_i (D := D) (wr := [(aI k (a 14) 24 freadFree), (aI k (a 15) 24 freadPrice), (aI k (a 16) 9 freadSingle), (aI k (a 5) 240 ftext)]) (va_runV (As := [.int 3, .int (nI t0__1)]) (rest := []) ⟨hx, hb, hml, hown, hts⟩ ((m_fails l D k st lo a tx t0__1 we__1 rd ru rw ca fp wd__1 nu na ts df db sd 3 (nI t0__1)) H.size) (cwV 2 hts (gV tw_1151 tw_1153 tw_31 tw_87 tw_1154) rfl rfl rfl (by decide +kernel) ⟨Nat.le_of_ble_eq_true rfl, Nat.le_of_ble_eq_true rfl⟩) (pV hS hAlo hlo hP hK (va_Dlo hD hAlo) hZ [3] (by decide) rfl (ci := 8) (q := (RX8, TX8, 44)) (q0 := 0) rfl rfl) rfl rfl hl.1 rfl (lv_room (Nat.le_of_ble_eq_true rfl)) dX8_takeClause_59 ⟨Nat.le_of_ble_eq_true rfl, Nat.le_of_ble_eq_true rfl⟩) hS hA hP hD [3] [0, 1, 2, 4] rfl rfl (by decide) (by decide) (fun r_39 u H locs hw_39 hP hD hS => ?_)
        obtain ⟨fp__39, rfl⟩ : ∃ z, z = u := ⟨_, rfl⟩
        replace hP : va_P D classes [(aI k (a 14) 24 freadFree), (aI k (a 15) 24 freadPrice), (aI k (a 16) 9 freadSingle), (aI k (a 5) 240 ftext), ((a 0), .inr (8, (fX8 a (nI tx) fp__39 (nI t0__1) wd__1 (nI we__1) nu na (nI rd) ts (nI ru) (nI rw) (nI ca) df db sd)))] H := hP
        replace hD : va_D A [(aI k (a 14) 24 freadFree), (aI k (a 15) 24 freadPrice), (aI k (a 16) 9 freadSingle), (aI k (a 5) 240 ftext), ((a 0), .inr (8, (fX8 a (nI tx) fp__39 (nI t0__1) wd__1 (nI we__1) nu na (nI rd) ts (nI ru) (nI rw) (nI ca) df db sd)))] := hD
        try dsimp only at hw_39
        subst hw_39
        have hP9 := hP.sub (ws' := [((a 0), .inr (8, (fX8 a (nI tx) fp__39 (nI t0__1) wd__1 (nI we__1) nu na (nI rd) ts (nI ru) (nI rw) (nI ca) df db sd))), (aI k (a 5) 240 ftext), (aI k (a 14) 24 freadFree), (aI k (a 15) 24 freadPrice), (aI k (a 16) 9 freadSingle)]) [4, 3, 0, 1, 2] rfl
        have hD9 := hD.sub (ws' := [((a 0), .inr (8, (fX8 a (nI tx) fp__39 (nI t0__1) wd__1 (nI we__1) nu na (nI rd) ts (nI ru) (nI rw) (nI ca) df db sd))), (aI k (a 5) 240 ftext), (aI k (a 14) 24 freadFree), (aI k (a 15) 24 freadPrice), (aI k (a 16) 9 freadSingle)]) [4, 3, 0, 1, 2] (by decide) rfl
        exact W.iret (v := 3) hx hb hr (fun t ht hW => ⟨⟨3, (t0__1, wd__1, we__1, fp__39, nu, na, rd, ts, freadFree, freadPrice, freadSingle, 3), rfl, ⟨rfl, by omega, by omega, by omega, by omega, by omega, fun h => absurd h (by omega)⟩, by rw [ht]; exact hP9, hD9⟩, hS.F ht⟩) hS.2.2 dX8_takeClause_62


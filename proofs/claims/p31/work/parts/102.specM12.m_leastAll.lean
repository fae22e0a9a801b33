theorem dX8_leastAll_0 : decode cX8_leastAll 0 = .ok (.aload_n 0, 1) := by decide +kernel
theorem dX8_leastAll_1 : decode cX8_leastAll 1 = .ok (.getfield 7, 3) := by decide +kernel
theorem dX8_leastAll_4 : decode cX8_leastAll 4 = .ok (.iload_n 1, 1) := by decide +kernel
theorem dX8_leastAll_5 : decode cX8_leastAll 5 = .ok (.iaload, 1) := by decide +kernel
theorem dX8_leastAll_6 : decode cX8_leastAll 6 = .ok (.istore_n 3, 1) := by decide +kernel
theorem dX8_leastAll_7 : decode cX8_leastAll 7 = .ok (.iconst (-1), 1) := by decide +kernel
theorem dX8_leastAll_8 : decode cX8_leastAll 8 = .ok (.istore 4, 2) := by decide +kernel
theorem dX8_leastAll_10 : decode cX8_leastAll 10 = .ok (.iconst (-1), 1) := by decide +kernel
theorem dX8_leastAll_11 : decode cX8_leastAll 11 = .ok (.istore 5, 2) := by decide +kernel
theorem dX8_leastAll_13 : decode cX8_leastAll 13 = .ok (.iload 5, 2) := by decide +kernel
theorem dX8_leastAll_15 : decode cX8_leastAll 15 = .ok (.aload_n 0, 1) := by decide +kernel
theorem dX8_leastAll_16 : decode cX8_leastAll 16 = .ok (.getfield 315, 3) := by decide +kernel
theorem dX8_leastAll_19 : decode cX8_leastAll 19 = .ok (.ifCond .le 7, 3) := by decide +kernel
theorem dX8_leastAll_22 : decode cX8_leastAll 22 = .ok (.iload_n 3, 1) := by decide +kernel
theorem dX8_leastAll_23 : decode cX8_leastAll 23 = .ok (.goto 4, 3) := by decide +kernel
theorem dX8_leastAll_26 : decode cX8_leastAll 26 = .ok (.iconst 0, 1) := by decide +kernel
theorem dX8_leastAll_27 : decode cX8_leastAll 27 = .ok (.if_icmp .ge 150, 3) := by decide +kernel
theorem dX8_leastAll_30 : decode cX8_leastAll 30 = .ok (.iconst (-1), 1) := by decide +kernel
theorem dX8_leastAll_31 : decode cX8_leastAll 31 = .ok (.istore 6, 2) := by decide +kernel
theorem dX8_leastAll_33 : decode cX8_leastAll 33 = .ok (.iload 6, 2) := by decide +kernel
theorem dX8_leastAll_35 : decode cX8_leastAll 35 = .ok (.aload_n 0, 1) := by decide +kernel
theorem dX8_leastAll_36 : decode cX8_leastAll 36 = .ok (.getfield 315, 3) := by decide +kernel
theorem dX8_leastAll_39 : decode cX8_leastAll 39 = .ok (.iconst 1, 1) := by decide +kernel
theorem dX8_leastAll_40 : decode cX8_leastAll 40 = .ok (.if_icmp .le 7, 3) := by decide +kernel
theorem dX8_leastAll_43 : decode cX8_leastAll 43 = .ok (.iload_n 3, 1) := by decide +kernel
theorem dX8_leastAll_44 : decode cX8_leastAll 44 = .ok (.goto 4, 3) := by decide +kernel
theorem dX8_leastAll_47 : decode cX8_leastAll 47 = .ok (.iconst 0, 1) := by decide +kernel
theorem dX8_leastAll_48 : decode cX8_leastAll 48 = .ok (.if_icmp .ge 123, 3) := by decide +kernel
theorem dX8_leastAll_51 : decode cX8_leastAll 51 = .ok (.iconst (-1), 1) := by decide +kernel
theorem dX8_leastAll_52 : decode cX8_leastAll 52 = .ok (.istore 7, 2) := by decide +kernel
theorem dX8_leastAll_54 : decode cX8_leastAll 54 = .ok (.iload 7, 2) := by decide +kernel
theorem dX8_leastAll_56 : decode cX8_leastAll 56 = .ok (.aload_n 0, 1) := by decide +kernel
theorem dX8_leastAll_57 : decode cX8_leastAll 57 = .ok (.getfield 315, 3) := by decide +kernel
theorem dX8_leastAll_60 : decode cX8_leastAll 60 = .ok (.iconst 2, 1) := by decide +kernel
theorem dX8_leastAll_61 : decode cX8_leastAll 61 = .ok (.if_icmp .le 7, 3) := by decide +kernel
theorem dX8_leastAll_64 : decode cX8_leastAll 64 = .ok (.iload_n 3, 1) := by decide +kernel
theorem dX8_leastAll_65 : decode cX8_leastAll 65 = .ok (.goto 4, 3) := by decide +kernel
theorem dX8_leastAll_68 : decode cX8_leastAll 68 = .ok (.iconst 0, 1) := by decide +kernel
theorem dX8_leastAll_69 : decode cX8_leastAll 69 = .ok (.if_icmp .ge 96, 3) := by decide +kernel
theorem dX8_leastAll_72 : decode cX8_leastAll 72 = .ok (.iconst (-1), 1) := by decide +kernel
theorem dX8_leastAll_73 : decode cX8_leastAll 73 = .ok (.istore 8, 2) := by decide +kernel
theorem dX8_leastAll_75 : decode cX8_leastAll 75 = .ok (.iload 8, 2) := by decide +kernel
theorem dX8_leastAll_77 : decode cX8_leastAll 77 = .ok (.aload_n 0, 1) := by decide +kernel
theorem dX8_leastAll_78 : decode cX8_leastAll 78 = .ok (.getfield 315, 3) := by decide +kernel
theorem dX8_leastAll_81 : decode cX8_leastAll 81 = .ok (.iconst 3, 1) := by decide +kernel
theorem dX8_leastAll_82 : decode cX8_leastAll 82 = .ok (.if_icmp .le 7, 3) := by decide +kernel
theorem dX8_leastAll_85 : decode cX8_leastAll 85 = .ok (.iload_n 3, 1) := by decide +kernel
theorem dX8_leastAll_86 : decode cX8_leastAll 86 = .ok (.goto 4, 3) := by decide +kernel
theorem dX8_leastAll_89 : decode cX8_leastAll 89 = .ok (.iconst 0, 1) := by decide +kernel
theorem dX8_leastAll_90 : decode cX8_leastAll 90 = .ok (.if_icmp .ge 69, 3) := by decide +kernel
theorem dX8_leastAll_93 : decode cX8_leastAll 93 = .ok (.iload_n 2, 1) := by decide +kernel
theorem dX8_leastAll_94 : decode cX8_leastAll 94 = .ok (.iload 5, 2) := by decide +kernel
theorem dX8_leastAll_96 : decode cX8_leastAll 96 = .ok (.iload 6, 2) := by decide +kernel
theorem dX8_leastAll_98 : decode cX8_leastAll 98 = .ok (.iload 7, 2) := by decide +kernel
theorem dX8_leastAll_100 : decode cX8_leastAll 100 = .ok (.iload 8, 2) := by decide +kernel
theorem dX8_leastAll_102 : decode cX8_leastAll 102 = .ok (.invokestatic 354, 3) := by decide +kernel
theorem dX8_leastAll_105 : decode cX8_leastAll 105 = .ok (.ifCond .eq 19, 3) := by decide +kernel
theorem dX8_leastAll_108 : decode cX8_leastAll 108 = .ok (.aload_n 0, 1) := by decide +kernel
theorem dX8_leastAll_109 : decode cX8_leastAll 109 = .ok (.iload_n 1, 1) := by decide +kernel
theorem dX8_leastAll_110 : decode cX8_leastAll 110 = .ok (.iload 5, 2) := by decide +kernel
theorem dX8_leastAll_112 : decode cX8_leastAll 112 = .ok (.iload 6, 2) := by decide +kernel
theorem dX8_leastAll_114 : decode cX8_leastAll 114 = .ok (.iload 7, 2) := by decide +kernel
theorem dX8_leastAll_116 : decode cX8_leastAll 116 = .ok (.iload 8, 2) := by decide +kernel
theorem dX8_leastAll_118 : decode cX8_leastAll 118 = .ok (.invokevirtual 358, 3) := by decide +kernel
theorem dX8_leastAll_121 : decode cX8_leastAll 121 = .ok (.goto 4, 3) := by decide +kernel
theorem dX8_leastAll_124 : decode cX8_leastAll 124 = .ok (.iconst (-1), 1) := by decide +kernel
theorem dX8_leastAll_125 : decode cX8_leastAll 125 = .ok (.istore 9, 2) := by decide +kernel
theorem dX8_leastAll_127 : decode cX8_leastAll 127 = .ok (.iload 9, 2) := by decide +kernel
theorem dX8_leastAll_129 : decode cX8_leastAll 129 = .ok (.ifCond .lt 20, 3) := by decide +kernel
theorem dX8_leastAll_132 : decode cX8_leastAll 132 = .ok (.iload 4, 2) := by decide +kernel
theorem dX8_leastAll_134 : decode cX8_leastAll 134 = .ok (.ifCond .lt 10, 3) := by decide +kernel
theorem dX8_leastAll_137 : decode cX8_leastAll 137 = .ok (.iload 9, 2) := by decide +kernel
theorem dX8_leastAll_139 : decode cX8_leastAll 139 = .ok (.iload 4, 2) := by decide +kernel
theorem dX8_leastAll_141 : decode cX8_leastAll 141 = .ok (.if_icmp .ge 8, 3) := by decide +kernel
theorem dX8_leastAll_144 : decode cX8_leastAll 144 = .ok (.iload 9, 2) := by decide +kernel
theorem dX8_leastAll_146 : decode cX8_leastAll 146 = .ok (.goto 5, 3) := by decide +kernel
theorem dX8_leastAll_149 : decode cX8_leastAll 149 = .ok (.iload 4, 2) := by decide +kernel
theorem dX8_leastAll_151 : decode cX8_leastAll 151 = .ok (.istore 4, 2) := by decide +kernel
theorem dX8_leastAll_153 : decode cX8_leastAll 153 = .ok (.iinc 8 1, 3) := by decide +kernel
theorem dX8_leastAll_156 : decode cX8_leastAll 156 = .ok (.goto (-81), 3) := by decide +kernel
theorem dX8_leastAll_159 : decode cX8_leastAll 159 = .ok (.iinc 7 1, 3) := by decide +kernel
theorem dX8_leastAll_162 : decode cX8_leastAll 162 = .ok (.goto (-108), 3) := by decide +kernel
theorem dX8_leastAll_165 : decode cX8_leastAll 165 = .ok (.iinc 6 1, 3) := by decide +kernel
theorem dX8_leastAll_168 : decode cX8_leastAll 168 = .ok (.goto (-135), 3) := by decide +kernel
theorem dX8_leastAll_171 : decode cX8_leastAll 171 = .ok (.iinc 5 1, 3) := by decide +kernel
theorem dX8_leastAll_174 : decode cX8_leastAll 174 = .ok (.goto (-161), 3) := by decide +kernel
theorem dX8_leastAll_177 : decode cX8_leastAll 177 = .ok (.iload 4, 2) := by decide +kernel
theorem dX8_leastAll_179 : decode cX8_leastAll 179 = .ok (.ireturn, 1) := by decide +kernel
set_option maxHeartbeats 4000000 in
set_option maxRecDepth 100000 in
theorem m_leastAll (l : Launch) (D : va_G) (k : Nat → ClassId) (st : Nat → Nat) (lo : Nat) (a : Nat → Nat) (tx : Nat) (t0 : Nat) (we : Nat) (rd : Nat) (ru : Nat) (rw : Nat) (ca : Nat) (fp : Int32) (wd : Int64) (nu : Int32) (na : Int32) (ts : Int32) (df : Int32) (db : Int32) (sd : Int32) (dn : Nat → Nat) (se : Nat → Nat) (tm : Nat → Nat) (gs : Nat → Int32) (fprices : Nat → Int32) (fwalks : Nat → Int32) (sn : Nat) (p1 : Int32) (hdn : ∀ j, dn j ≤ 24) (hca : ca ≤ 4) (hs : sn < 3) : CRi l D k st lo yX8_leastAll cX8_leastAll 10 (some .int) ({ frames := 5, cells := 0, slots := 0, locals := 120 }) [.ref (a 0), .int (nI sn), .int p1] [((a 0), .inr (8, (fX8 a (nI tx) fp (nI t0) wd (nI we) nu na (nI rd) ts (nI ru) (nI rw) (nI ca) df db sd))), (aI k (a 1) 3 (nF dn)), (aI k (a 4) 27 (sg se tm gs)), (aI k (a 3) 72 fprices), (aI k (a 36) 4 fwalks)] (fun r => True) := by
  intro sz
  refine Met.ofW (cc := cX8_leastAll) (maxL := 10) (ret := (some .int)) (by decide) rfl ?_
  intro p e s m args below meth c s₁ B hml hv
  obtain ⟨rfl, hsz, hlo, hP, hK, hDL, hZ⟩ := hv
  have hx := B.exec
  have hb := B.bytes
  have hr := B.returns
  have hts := WS_ts B.pre
  have hown : s.vm.findClass RX8 = some m.cls := findClass_of_methodNamed B.named
  have hlocks := B.notSynchronized
  subst hsz
  have hA : ∀ q : Nat, s.heap.size ≤ q → (fun q : Nat => s.heap.size ≤ q) q := fun _ h => h
  have hAlo : ∀ q : Nat, (fun q : Nat => s.heap.size ≤ q) q → lo ≤ q := fun q h => Nat.le_trans hlo h
  have hS : va_S (fun q : Nat => s.heap.size ≤ q) s.heap s.heap [] := va_S.rf
  have hl := lv_entry ([.ref (a 0), .int (nI sn), .int p1]) (n := 10) (Nat.le_of_ble_eq_true rfl)
  rw [lg_entry_eq]
  generalize (lg_sl ([.ref (a 0), .int (nI sn), .int p1]) ++ List.replicate (10 - (lg_sl ([.ref (a 0), .int (nI sn), .int p1])).length) Slot.unset).toArray = ls at hl ⊢
  have hl : lv_has ls 10 [(0, .ref (a 0)), (1, .int (nI sn)), (2, .int p1)] := hl
  have hd_9 := hdn sn
  refine lv_aload_n hx hb dX8_leastAll_0 rfl (lv_at hl 0 rfl) ?_
  refine va_get (D := D) (ci := 8) (v := .ref (a 1)) (C := RX8) (T := TX8) (N := 44) hx hb hts inX8 hown hK hP 0 rfl rfl 0 (by decide) (hts _ tw_973) (fun _ h9 => h9) rfl dX8_leastAll_1 ?_
  refine lv_iload_n hx hb dX8_leastAll_4 rfl (lv_at hl 1 rfl) ?_
  refine va_iald hx hb hK hP 1 1 rfl rfl (vp_in_nI (by omega) (by decide)) dX8_leastAll_5 ?_
  refine lv_ti (y := (nI (dn sn))) (by rw [nI_clamp (by omega)]; rfl) ?_
  refine lv_istore_n (lv' := [(3, .int (nI (dn sn))), (0, .ref (a 0)), (1, .int (nI sn)), (2, .int p1)]) hx hb dX8_leastAll_6 rfl hl (by decide) rfl (fun ls hl => ?_)
  refine lv_iconst (v := (-1)) hx hb dX8_leastAll_7 (by decide) ?_
  refine lv_istore (lv' := [(4, .int (-1)), (3, .int (nI (dn sn))), (0, .ref (a 0)), (1, .int (nI sn)), (2, .int p1)]) hx hb dX8_leastAll_8 hl (by decide) rfl (fun ls hl => ?_)
  refine lv_iconst (v := (-1)) hx hb dX8_leastAll_10 (by decide) ?_
  refine lv_istore (lv' := [(5, .int (-1)), (4, .int (-1)), (3, .int (nI (dn sn))), (0, .ref (a 0)), (1, .int (nI sn)), (2, .int p1)]) hx hb dX8_leastAll_11 hl (by decide) rfl (fun ls hl => ?_)
  refine W_loop (σ := Nat × Int32) (fun (n_ : Nat) (x_ : Nat × Int32) (H : Heap) (locs : List Loc) (ls : Array Slot) => match x_ with | (q5_1, be_1) => n_ = 26 - q5_1 ∧ (q5_1 ≤ 25) ∧ va_P D classes [((a 0), .inr (8, (fX8 a (nI tx) fp (nI t0) wd (nI we) nu na (nI rd) ts (nI ru) (nI rw) (nI ca) df db sd))), (aI k (a 1) 3 (nF dn)), (aI k (a 4) 27 (sg se tm gs)), (aI k (a 3) 72 fprices), (aI k (a 36) 4 fwalks)] H ∧ va_S (fun q : Nat => s.heap.size ≤ q) s.heap H locs ∧ lv_has ls 10 [(5, .int (nI q5_1 - 1)), (4, .int be_1), (3, .int (nI (dn sn))), (0, .ref (a 0)), (1, .int (nI sn)), (2, .int p1)]) (fun n_1 x_1 H locs ls hI ih_1 => ?_) _ (0, (-1)) ⟨rfl, (by omega), hP, hS, (by rw [dn0]; exact lv_sub hl [0, 1, 2, 3, 4, 5] rfl)⟩
  obtain ⟨q5_1, be_1⟩ := x_1
  obtain ⟨hm_1, hv_1, hP, hS, hl⟩ := hI
  subst hm_1
  refine lv_iload hx hb dX8_leastAll_13 (lv_at hl 0 rfl) ?_
  refine lv_aload_n hx hb dX8_leastAll_15 rfl (lv_at hl 3 rfl) ?_
  refine va_get (D := D) (ci := 8) (v := .int (nI ca)) (C := RX8) (T := TX8) (N := 44) hx hb hts inX8 hown hK hP 0 rfl rfl 34 (by decide) (hts _ tw_1007) (fun _ h9 => h9) rfl dX8_leastAll_16 ?_
  refine lv_if_le (tgt := 26) hx hb dX8_leastAll_19 (by decide) (fun c_2 => ?_) (fun c_2 => ?_)
  · have c_2 := (nI_leI (a := ca) (b := 0) (by omega) (by omega)).mp c_2
    refine lv_iconst (v := 0) hx hb dX8_leastAll_26 (by decide) ?_
    refine lv_icmp_ge (tgt := 177) hx hb dX8_leastAll_27 (by decide) (fun c_3 => ?_) (fun c_3 => ?_)
    · refine lv_iload hx hb dX8_leastAll_177 (lv_at hl 1 rfl) ?_
      exact W.iret (v := be_1) hx hb hr (fun t ht hW => ⟨⟨be_1, (), rfl, trivial, trivial⟩, hS.F ht⟩) hS.2.2 dX8_leastAll_179
    · have hqn_4 := dn_lt (n := 0) (by omega) (by omega) c_3
      refine lv_iconst (v := (-1)) hx hb dX8_leastAll_30 (by decide) ?_
      refine lv_istore (lv' := [(6, .int (-1)), (5, .int (nI q5_1 - 1)), (4, .int be_1), (3, .int (nI (dn sn))), (0, .ref (a 0)), (1, .int (nI sn)), (2, .int p1)]) hx hb dX8_leastAll_31 hl (by decide) rfl (fun ls hl => ?_)
      refine W_loop (σ := Nat × Int32) (fun (n_ : Nat) (x_ : Nat × Int32) (H : Heap) (locs : List Loc) (ls : Array Slot) => match x_ with | (q6_5, be_5) => n_ = 26 - q6_5 ∧ (q6_5 ≤ 25) ∧ va_P D classes [((a 0), .inr (8, (fX8 a (nI tx) fp (nI t0) wd (nI we) nu na (nI rd) ts (nI ru) (nI rw) (nI ca) df db sd))), (aI k (a 1) 3 (nF dn)), (aI k (a 4) 27 (sg se tm gs)), (aI k (a 3) 72 fprices), (aI k (a 36) 4 fwalks)] H ∧ va_S (fun q : Nat => s.heap.size ≤ q) s.heap H locs ∧ lv_has ls 10 [(6, .int (nI q6_5 - 1)), (5, .int (nI q5_1 - 1)), (4, .int be_5), (3, .int (nI (dn sn))), (0, .ref (a 0)), (1, .int (nI sn)), (2, .int p1)]) (fun n_5 x_5 H locs ls hI ih_5 => ?_) _ (0, be_1) ⟨rfl, (by omega), hP, hS, (by rw [dn0]; exact lv_sub hl [0, 1, 2, 3, 4, 5, 6] rfl)⟩
      obtain ⟨q6_5, be_5⟩ := x_5
      obtain ⟨hm_5, hv_5, hP, hS, hl⟩ := hI
      subst hm_5
      refine lv_iload hx hb dX8_leastAll_33 (lv_at hl 0 rfl) ?_
      refine lv_aload_n hx hb dX8_leastAll_35 rfl (lv_at hl 4 rfl) ?_
      refine va_get (D := D) (ci := 8) (v := .int (nI ca)) (C := RX8) (T := TX8) (N := 44) hx hb hts inX8 hown hK hP 0 rfl rfl 34 (by decide) (hts _ tw_1007) (fun _ h9 => h9) rfl dX8_leastAll_36 ?_
      refine lv_iconst (v := 1) hx hb dX8_leastAll_39 (by decide) ?_
      refine lv_icmp_le (tgt := 47) hx hb dX8_leastAll_40 (by decide) (fun _ => ?_) (fun h => absurd ((nI_leI (a := ca) (b := 1) (by omega) (by omega)).mpr (by omega)) h)
      refine lv_iconst (v := 0) hx hb dX8_leastAll_47 (by decide) ?_
      refine lv_icmp_ge (tgt := 171) hx hb dX8_leastAll_48 (by decide) (fun c_7 => ?_) (fun c_7 => ?_)
      · refine lv_iinc (v := (nI q5_1)) (lv' := [(5, .int (nI q5_1)), (6, .int (nI q6_5 - 1)), (4, .int be_5), (3, .int (nI (dn sn))), (0, .ref (a 0)), (1, .int (nI sn)), (2, .int p1)]) hx hb dX8_leastAll_171 hl (k := 1) rfl (dn_inc _) (by decide) rfl (fun ls hl => ?_)
        refine lv_goto (tgt := 13) hx hb dX8_leastAll_174 (by decide) ?_
        exact ih_1 _ (q5_1 + 1, be_5) _ _ _ (by omega) ⟨rfl, (by omega), hP, hS, (by rw [nI_pred]; exact lv_sub hl [0, 2, 3, 4, 5, 6] rfl)⟩
      · have hqn_8 := dn_lt (n := 0) (by omega) (by omega) c_7
        refine lv_iconst (v := (-1)) hx hb dX8_leastAll_51 (by decide) ?_
        refine lv_istore (lv' := [(7, .int (-1)), (6, .int (nI q6_5 - 1)), (5, .int (nI q5_1 - 1)), (4, .int be_5), (3, .int (nI (dn sn))), (0, .ref (a 0)), (1, .int (nI sn)), (2, .int p1)]) hx hb dX8_leastAll_52 hl (by decide) rfl (fun ls hl => ?_)
        refine W_loop (σ := Nat × Int32) (fun (n_ : Nat) (x_ : Nat × Int32) (H : Heap) (locs : List Loc) (ls : Array Slot) => match x_ with | (q7_9, be_9) => n_ = 26 - q7_9 ∧ (q7_9 ≤ 25) ∧ va_P D classes [((a 0), .inr (8, (fX8 a (nI tx) fp (nI t0) wd (nI we) nu na (nI rd) ts (nI ru) (nI rw) (nI ca) df db sd))), (aI k (a 1) 3 (nF dn)), (aI k (a 4) 27 (sg se tm gs)), (aI k (a 3) 72 fprices), (aI k (a 36) 4 fwalks)] H ∧ va_S (fun q : Nat => s.heap.size ≤ q) s.heap H locs ∧ lv_has ls 10 [(7, .int (nI q7_9 - 1)), (6, .int (nI q6_5 - 1)), (5, .int (nI q5_1 - 1)), (4, .int be_9), (3, .int (nI (dn sn))), (0, .ref (a 0)), (1, .int (nI sn)), (2, .int p1)]) (fun n_9 x_9 H locs ls hI ih_9 => ?_) _ (0, be_5) ⟨rfl, (by omega), hP, hS, (by rw [dn0]; exact lv_sub hl [0, 1, 2, 3, 4, 5, 6, 7] rfl)⟩
        obtain ⟨q7_9, be_9⟩ := x_9
        obtain ⟨hm_9, hv_9, hP, hS, hl⟩ := hI
        subst hm_9
        refine lv_iload hx hb dX8_leastAll_54 (lv_at hl 0 rfl) ?_
        refine lv_aload_n hx hb dX8_leastAll_56 rfl (lv_at hl 5 rfl) ?_
        refine va_get (D := D) (ci := 8) (v := .int (nI ca)) (C := RX8) (T := TX8) (N := 44) hx hb hts inX8 hown hK hP 0 rfl rfl 34 (by decide) (hts _ tw_1007) (fun _ h9 => h9) rfl dX8_leastAll_57 ?_
        refine lv_iconst (v := 2) hx hb dX8_leastAll_60 (by decide) ?_
        refine lv_icmp_le (tgt := 68) hx hb dX8_leastAll_61 (by decide) (fun _ => ?_) (fun h => absurd ((nI_leI (a := ca) (b := 2) (by omega) (by omega)).mpr (by omega)) h)
        refine lv_iconst (v := 0) hx hb dX8_leastAll_68 (by decide) ?_
        refine lv_icmp_ge (tgt := 165) hx hb dX8_leastAll_69 (by decide) (fun c_11 => ?_) (fun c_11 => ?_)
        · refine lv_iinc (v := (nI q6_5)) (lv' := [(6, .int (nI q6_5)), (7, .int (nI q7_9 - 1)), (5, .int (nI q5_1 - 1)), (4, .int be_9), (3, .int (nI (dn sn))), (0, .ref (a 0)), (1, .int (nI sn)), (2, .int p1)]) hx hb dX8_leastAll_165 hl (k := 1) rfl (dn_inc _) (by decide) rfl (fun ls hl => ?_)
          refine lv_goto (tgt := 33) hx hb dX8_leastAll_168 (by decide) ?_
          exact ih_5 _ (q6_5 + 1, be_9) _ _ _ (by omega) ⟨rfl, (by omega), hP, hS, (by rw [nI_pred]; exact lv_sub hl [0, 2, 3, 4, 5, 6, 7] rfl)⟩
        · have hqn_12 := dn_lt (n := 0) (by omega) (by omega) c_11
          refine lv_iconst (v := (-1)) hx hb dX8_leastAll_72 (by decide) ?_
          refine lv_istore (lv' := [(8, .int (-1)), (7, .int (nI q7_9 - 1)), (6, .int (nI q6_5 - 1)), (5, .int (nI q5_1 - 1)), (4, .int be_9), (3, .int (nI (dn sn))), (0, .ref (a 0)), (1, .int (nI sn)), (2, .int p1)]) hx hb dX8_leastAll_73 hl (by decide) rfl (fun ls hl => ?_)
          refine W_loop (σ := Nat × Int32) (fun (n_ : Nat) (x_ : Nat × Int32) (H : Heap) (locs : List Loc) (ls : Array Slot) => match x_ with | (q8_13, be_13) => n_ = 26 - q8_13 ∧ (q8_13 ≤ 25) ∧ va_P D classes [((a 0), .inr (8, (fX8 a (nI tx) fp (nI t0) wd (nI we) nu na (nI rd) ts (nI ru) (nI rw) (nI ca) df db sd))), (aI k (a 1) 3 (nF dn)), (aI k (a 4) 27 (sg se tm gs)), (aI k (a 3) 72 fprices), (aI k (a 36) 4 fwalks)] H ∧ va_S (fun q : Nat => s.heap.size ≤ q) s.heap H locs ∧ lv_has ls 10 [(8, .int (nI q8_13 - 1)), (7, .int (nI q7_9 - 1)), (6, .int (nI q6_5 - 1)), (5, .int (nI q5_1 - 1)), (4, .int be_13), (3, .int (nI (dn sn))), (0, .ref (a 0)), (1, .int (nI sn)), (2, .int p1)]) (fun n_13 x_13 H locs ls hI ih_13 => ?_) _ (0, be_9) ⟨rfl, (by omega), hP, hS, (by rw [dn0]; exact lv_sub hl [0, 1, 2, 3, 4, 5, 6, 7, 8] rfl)⟩
          obtain ⟨q8_13, be_13⟩ := x_13
          obtain ⟨hm_13, hv_13, hP, hS, hl⟩ := hI
          subst hm_13
          refine lv_iload hx hb dX8_leastAll_75 (lv_at hl 0 rfl) ?_
          refine lv_aload_n hx hb dX8_leastAll_77 rfl (lv_at hl 6 rfl) ?_
          refine va_get (D := D) (ci := 8) (v := .int (nI ca)) (C := RX8) (T := TX8) (N := 44) hx hb hts inX8 hown hK hP 0 rfl rfl 34 (by decide) (hts _ tw_1007) (fun _ h9 => h9) rfl dX8_leastAll_78 ?_
          refine lv_iconst (v := 3) hx hb dX8_leastAll_81 (by decide) ?_
          refine lv_icmp_le (tgt := 89) hx hb dX8_leastAll_82 (by decide) (fun _ => ?_) (fun h => absurd ((nI_leI (a := ca) (b := 3) (by omega) (by omega)).mpr (by omega)) h)
          refine lv_iconst (v := 0) hx hb dX8_leastAll_89 (by decide) ?_
          refine lv_icmp_ge (tgt := 159) hx hb dX8_leastAll_90 (by decide) (fun c_15 => ?_) (fun c_15 => ?_)
          · refine lv_iinc (v := (nI q7_9)) (lv' := [(7, .int (nI q7_9)), (8, .int (nI q8_13 - 1)), (6, .int (nI q6_5 - 1)), (5, .int (nI q5_1 - 1)), (4, .int be_13), (3, .int (nI (dn sn))), (0, .ref (a 0)), (1, .int (nI sn)), (2, .int p1)]) hx hb dX8_leastAll_159 hl (k := 1) rfl (dn_inc _) (by decide) rfl (fun ls hl => ?_)
            refine lv_goto (tgt := 54) hx hb dX8_leastAll_162 (by decide) ?_
            exact ih_9 _ (q7_9 + 1, be_13) _ _ _ (by omega) ⟨rfl, (by omega), hP, hS, (by rw [nI_pred]; exact lv_sub hl [0, 2, 3, 4, 5, 6, 7, 8] rfl)⟩
          · have hqn_16 := dn_lt (n := 0) (by omega) (by omega) c_15
            refine lv_iload_n hx hb dX8_leastAll_93 rfl (lv_at hl 8 rfl) ?_
            refine lv_iload hx hb dX8_leastAll_94 (lv_at hl 3 rfl) ?_
            refine lv_iload hx hb dX8_leastAll_96 (lv_at hl 2 rfl) ?_
            refine lv_iload hx hb dX8_leastAll_98 (lv_at hl 1 rfl) ?_
            refine lv_iload hx hb dX8_leastAll_100 (lv_at hl 0 rfl) ?_
            refine ro_i (D := D) (va_runS (As := [.int p1, .int (nI q5_1 - 1), .int (nI q6_5 - 1), .int (nI q7_9 - 1), .int (nI q8_13 - 1)]) (rest := []) ⟨hx, hb, hml, hown, hts⟩ ((m_canAll l D k st lo p1 (nI q5_1 - 1) (nI q6_5 - 1) (nI q7_9 - 1) (nI q8_13 - 1)) H.size) (va_cwS 5 hts (gS tw_1450 tw_1451 tw_87 tw_1452) rfl rfl rfl (by decide +kernel) ⟨Nat.le_of_ble_eq_true rfl, Nat.le_of_ble_eq_true rfl⟩) (pS hS hAlo hlo hP hK hDL hZ [] (by decide) rfl) rfl rfl hl.1 rfl (lv_room (Nat.le_of_ble_eq_true rfl)) dX8_leastAll_102 ⟨Nat.le_of_ble_eq_true rfl, Nat.le_of_ble_eq_true rfl⟩) hS hA hP (fun r_17 H locs hw_17 hP hS => ?_)
            try dsimp only at hw_17
            refine lv_if_eq (tgt := 124) hx hb dX8_leastAll_105 (by decide) (fun c_18 => ?_) (fun c_18 => ?_)
            · refine lv_iconst (v := (-1)) hx hb dX8_leastAll_124 (by decide) ?_
              refine lv_istore (lv' := [(9, .int (-1)), (8, .int (nI q8_13 - 1)), (7, .int (nI q7_9 - 1)), (6, .int (nI q6_5 - 1)), (5, .int (nI q5_1 - 1)), (4, .int be_13), (3, .int (nI (dn sn))), (0, .ref (a 0)), (1, .int (nI sn)), (2, .int p1)]) hx hb dX8_leastAll_125 hl (by decide) rfl (fun ls hl => ?_)
              refine lv_iload hx hb dX8_leastAll_127 (lv_at hl 0 rfl) ?_
              refine lv_if_lt (tgt := 149) hx hb dX8_leastAll_129 (by decide) (fun _ => ?_) (fun h => absurd (by decide) h)
              refine lv_iload hx hb dX8_leastAll_149 (lv_at hl 5 rfl) ?_
              refine lv_istore (lv' := [(4, .int be_13), (9, .int (-1)), (8, .int (nI q8_13 - 1)), (7, .int (nI q7_9 - 1)), (6, .int (nI q6_5 - 1)), (5, .int (nI q5_1 - 1)), (3, .int (nI (dn sn))), (0, .ref (a 0)), (1, .int (nI sn)), (2, .int p1)]) hx hb dX8_leastAll_151 hl (by decide) rfl (fun ls hl => ?_)
              refine lv_iinc (v := (nI q8_13)) (lv' := [(8, .int (nI q8_13)), (4, .int be_13), (9, .int (-1)), (7, .int (nI q7_9 - 1)), (6, .int (nI q6_5 - 1)), (5, .int (nI q5_1 - 1)), (3, .int (nI (dn sn))), (0, .ref (a 0)), (1, .int (nI sn)), (2, .int p1)]) hx hb dX8_leastAll_153 hl (k := 2) rfl (dn_inc _) (by decide) rfl (fun ls hl => ?_)
              refine lv_goto (tgt := 75) hx hb dX8_leastAll_156 (by decide) ?_
              exact ih_13 _ (q8_13 + 1, be_13) _ _ _ (by omega) ⟨rfl, (by omega), hP, hS, (by rw [nI_pred]; exact lv_sub hl [0, 3, 4, 5, 1, 6, 7, 8, 9] rfl)⟩
            · refine lv_aload_n hx hb dX8_leastAll_108 rfl (lv_at hl 6 rfl) ?_
              refine lv_iload_n hx hb dX8_leastAll_109 rfl (lv_at hl 7 rfl) ?_
              refine lv_iload hx hb dX8_leastAll_110 (lv_at hl 3 rfl) ?_
              refine lv_iload hx hb dX8_leastAll_112 (lv_at hl 2 rfl) ?_
              refine lv_iload hx hb dX8_leastAll_114 (lv_at hl 1 rfl) ?_
              refine lv_iload hx hb dX8_leastAll_116 (lv_at hl 0 rfl) ?_
              refine ro_i (D := D) (va_runV (As := [.int (nI sn), .int (nI q5_1 - 1), .int (nI q6_5 - 1), .int (nI q7_9 - 1), .int (nI q8_13 - 1)]) (rest := []) ⟨hx, hb, hml, hown, hts⟩ ((m_sumAll l D k st lo a tx t0 we rd ru rw ca fp wd nu na ts df db sd dn se tm gs fprices fwalks sn (nI q5_1 - 1) (nI q6_5 - 1) (nI q7_9 - 1) (nI q8_13 - 1) (by first | assumption | omega) (by first | assumption | omega) (dn_hq (by omega)) (dn_hq (by omega)) (dn_hq (by omega)) (dn_hq (by omega))) H.size) (cwV 5 hts (gV tw_1459 tw_1461 tw_75 tw_87 tw_1462) rfl rfl rfl (by decide +kernel) ⟨Nat.le_of_ble_eq_true rfl, Nat.le_of_ble_eq_true rfl⟩) (pV hS hAlo hlo hP hK hDL hZ [0, 1, 2, 3, 4] (by decide) rfl (ci := 8) (q := (RX8, TX8, 44)) (q0 := 0) rfl rfl) rfl rfl hl.1 rfl (lv_room (Nat.le_of_ble_eq_true rfl)) dX8_leastAll_118 ⟨Nat.le_of_ble_eq_true rfl, Nat.le_of_ble_eq_true rfl⟩) hS hA hP (fun r_19 H locs hw_19 hP hS => ?_)
              try dsimp only at hw_19
              refine lv_goto (tgt := 125) hx hb dX8_leastAll_121 (by decide) ?_
              refine lv_istore (lv' := [(9, .int r_19), (8, .int (nI q8_13 - 1)), (7, .int (nI q7_9 - 1)), (6, .int (nI q6_5 - 1)), (5, .int (nI q5_1 - 1)), (4, .int be_13), (3, .int (nI (dn sn))), (0, .ref (a 0)), (1, .int (nI sn)), (2, .int p1)]) hx hb dX8_leastAll_125 hl (by decide) rfl (fun ls hl => ?_)
              refine lv_iload hx hb dX8_leastAll_127 (lv_at hl 0 rfl) ?_
              refine lv_if_lt (tgt := 149) hx hb dX8_leastAll_129 (by decide) (fun c_20 => ?_) (fun c_20 => ?_)
              · refine lv_iload hx hb dX8_leastAll_149 (lv_at hl 5 rfl) ?_
                refine lv_istore (lv' := [(4, .int be_13), (9, .int r_19), (8, .int (nI q8_13 - 1)), (7, .int (nI q7_9 - 1)), (6, .int (nI q6_5 - 1)), (5, .int (nI q5_1 - 1)), (3, .int (nI (dn sn))), (0, .ref (a 0)), (1, .int (nI sn)), (2, .int p1)]) hx hb dX8_leastAll_151 hl (by decide) rfl (fun ls hl => ?_)
                refine lv_iinc (v := (nI q8_13)) (lv' := [(8, .int (nI q8_13)), (4, .int be_13), (9, .int r_19), (7, .int (nI q7_9 - 1)), (6, .int (nI q6_5 - 1)), (5, .int (nI q5_1 - 1)), (3, .int (nI (dn sn))), (0, .ref (a 0)), (1, .int (nI sn)), (2, .int p1)]) hx hb dX8_leastAll_153 hl (k := 2) rfl (dn_inc _) (by decide) rfl (fun ls hl => ?_)
                refine lv_goto (tgt := 75) hx hb dX8_leastAll_156 (by decide) ?_
                exact ih_13 _ (q8_13 + 1, be_13) _ _ _ (by omega) ⟨rfl, (by omega), hP, hS, (by rw [nI_pred]; exact lv_sub hl [0, 3, 4, 5, 1, 6, 7, 8, 9] rfl)⟩
              · refine lv_iload hx hb dX8_leastAll_132 (lv_at hl 5 rfl) ?_
                refine lv_if_lt (tgt := 144) hx hb dX8_leastAll_134 (by decide) (fun c_21 => ?_) (fun c_21 => ?_)
                · refine lv_iload hx hb dX8_leastAll_144 (lv_at hl 0 rfl) ?_
                  refine lv_goto (tgt := 151) hx hb dX8_leastAll_146 (by decide) ?_
                  refine lv_istore (lv' := [(4, .int r_19), (9, .int r_19), (8, .int (nI q8_13 - 1)), (7, .int (nI q7_9 - 1)), (6, .int (nI q6_5 - 1)), (5, .int (nI q5_1 - 1)), (3, .int (nI (dn sn))), (0, .ref (a 0)), (1, .int (nI sn)), (2, .int p1)]) hx hb dX8_leastAll_151 hl (by decide) rfl (fun ls hl => ?_)
                  refine lv_iinc (v := (nI q8_13)) (lv' := [(8, .int (nI q8_13)), (4, .int r_19), (9, .int r_19), (7, .int (nI q7_9 - 1)), (6, .int (nI q6_5 - 1)), (5, .int (nI q5_1 - 1)), (3, .int (nI (dn sn))), (0, .ref (a 0)), (1, .int (nI sn)), (2, .int p1)]) hx hb dX8_leastAll_153 hl (k := 2) rfl (dn_inc _) (by decide) rfl (fun ls hl => ?_)
                  refine lv_goto (tgt := 75) hx hb dX8_leastAll_156 (by decide) ?_
                  exact ih_13 _ (q8_13 + 1, r_19) _ _ _ (by omega) ⟨rfl, (by omega), hP, hS, (by rw [nI_pred]; exact lv_sub hl [0, 3, 4, 5, 1, 6, 7, 8, 9] rfl)⟩
                · refine lv_iload hx hb dX8_leastAll_137 (lv_at hl 0 rfl) ?_
                  refine lv_iload hx hb dX8_leastAll_139 (lv_at hl 5 rfl) ?_
                  refine lv_icmp_ge (tgt := 149) hx hb dX8_leastAll_141 (by decide) (fun c_22 => ?_) (fun c_22 => ?_)
                  · refine lv_iload hx hb dX8_leastAll_149 (lv_at hl 5 rfl) ?_
                    refine lv_istore (lv' := [(4, .int be_13), (9, .int r_19), (8, .int (nI q8_13 - 1)), (7, .int (nI q7_9 - 1)), (6, .int (nI q6_5 - 1)), (5, .int (nI q5_1 - 1)), (3, .int (nI (dn sn))), (0, .ref (a 0)), (1, .int (nI sn)), (2, .int p1)]) hx hb dX8_leastAll_151 hl (by decide) rfl (fun ls hl => ?_)
                    refine lv_iinc (v := (nI q8_13)) (lv' := [(8, .int (nI q8_13)), (4, .int be_13), (9, .int r_19), (7, .int (nI q7_9 - 1)), (6, .int (nI q6_5 - 1)), (5, .int (nI q5_1 - 1)), (3, .int (nI (dn sn))), (0, .ref (a 0)), (1, .int (nI sn)), (2, .int p1)]) hx hb dX8_leastAll_153 hl (k := 2) rfl (dn_inc _) (by decide) rfl (fun ls hl => ?_)
                    refine lv_goto (tgt := 75) hx hb dX8_leastAll_156 (by decide) ?_
                    exact ih_13 _ (q8_13 + 1, be_13) _ _ _ (by omega) ⟨rfl, (by omega), hP, hS, (by rw [nI_pred]; exact lv_sub hl [0, 3, 4, 5, 1, 6, 7, 8, 9] rfl)⟩
                  · refine lv_iload hx hb dX8_leastAll_144 (lv_at hl 0 rfl) ?_
                    refine lv_goto (tgt := 151) hx hb dX8_leastAll_146 (by decide) ?_
                    refine lv_istore (lv' := [(4, .int r_19), (9, .int r_19), (8, .int (nI q8_13 - 1)), (7, .int (nI q7_9 - 1)), (6, .int (nI q6_5 - 1)), (5, .int (nI q5_1 - 1)), (3, .int (nI (dn sn))), (0, .ref (a 0)), (1, .int (nI sn)), (2, .int p1)]) hx hb dX8_leastAll_151 hl (by decide) rfl (fun ls hl => ?_)
                    refine lv_iinc (v := (nI q8_13)) (lv' := [(8, .int (nI q8_13)), (4, .int r_19), (9, .int r_19), (7, .int (nI q7_9 - 1)), (6, .int (nI q6_5 - 1)), (5, .int (nI q5_1 - 1)), (3, .int (nI (dn sn))), (0, .ref (a 0)), (1, .int (nI sn)), (2, .int p1)]) hx hb dX8_leastAll_153 hl (k := 2) rfl (dn_inc _) (by decide) rfl (fun ls hl => ?_)
                    refine lv_goto (tgt := 75) hx hb dX8_leastAll_156 (by decide) ?_
                    exact ih_13 _ (q8_13 + 1, r_19) _ _ _ (by omega) ⟨rfl, (by omega), hP, hS, (by rw [nI_pred]; exact lv_sub hl [0, 3, 4, 5, 1, 6, 7, 8, 9] rfl)⟩
  · have c_2 : ¬ (ca ≤ 0) := fun h => c_2 ((nI_leI (a := ca) (b := 0) (by omega) (by omega)).mpr h)
    refine lv_iload_n hx hb dX8_leastAll_22 rfl (lv_at hl 2 rfl) ?_
    refine lv_goto (tgt := 27) hx hb dX8_leastAll_23 (by decide) ?_
    refine lv_icmp_ge (tgt := 177) hx hb dX8_leastAll_27 (by decide) (fun c_23 => ?_) (fun c_23 => ?_)
    · refine lv_iload hx hb dX8_leastAll_177 (lv_at hl 1 rfl) ?_
      exact W.iret (v := be_1) hx hb hr (fun t ht hW => ⟨⟨be_1, (), rfl, trivial, trivial⟩, hS.F ht⟩) hS.2.2 dX8_leastAll_179
    · have hqn_24 := dn_lt (n := (dn sn)) (by omega) (by omega) c_23
      refine lv_iconst (v := (-1)) hx hb dX8_leastAll_30 (by decide) ?_
      refine lv_istore (lv' := [(6, .int (-1)), (5, .int (nI q5_1 - 1)), (4, .int be_1), (3, .int (nI (dn sn))), (0, .ref (a 0)), (1, .int (nI sn)), (2, .int p1)]) hx hb dX8_leastAll_31 hl (by decide) rfl (fun ls hl => ?_)
      refine W_loop (σ := Nat × Int32) (fun (n_ : Nat) (x_ : Nat × Int32) (H : Heap) (locs : List Loc) (ls : Array Slot) => match x_ with | (q6_25, be_25) => n_ = 26 - q6_25 ∧ (q6_25 ≤ 25) ∧ va_P D classes [((a 0), .inr (8, (fX8 a (nI tx) fp (nI t0) wd (nI we) nu na (nI rd) ts (nI ru) (nI rw) (nI ca) df db sd))), (aI k (a 1) 3 (nF dn)), (aI k (a 4) 27 (sg se tm gs)), (aI k (a 3) 72 fprices), (aI k (a 36) 4 fwalks)] H ∧ va_S (fun q : Nat => s.heap.size ≤ q) s.heap H locs ∧ lv_has ls 10 [(6, .int (nI q6_25 - 1)), (5, .int (nI q5_1 - 1)), (4, .int be_25), (3, .int (nI (dn sn))), (0, .ref (a 0)), (1, .int (nI sn)), (2, .int p1)]) (fun n_25 x_25 H locs ls hI ih_25 => ?_) _ (0, be_1) ⟨rfl, (by omega), hP, hS, (by rw [dn0]; exact lv_sub hl [0, 1, 2, 3, 4, 5, 6] rfl)⟩
      obtain ⟨q6_25, be_25⟩ := x_25
      obtain ⟨hm_25, hv_25, hP, hS, hl⟩ := hI
      subst hm_25
      refine lv_iload hx hb dX8_leastAll_33 (lv_at hl 0 rfl) ?_
      refine lv_aload_n hx hb dX8_leastAll_35 rfl (lv_at hl 4 rfl) ?_
      refine va_get (D := D) (ci := 8) (v := .int (nI ca)) (C := RX8) (T := TX8) (N := 44) hx hb hts inX8 hown hK hP 0 rfl rfl 34 (by decide) (hts _ tw_1007) (fun _ h9 => h9) rfl dX8_leastAll_36 ?_
      refine lv_iconst (v := 1) hx hb dX8_leastAll_39 (by decide) ?_
      refine lv_icmp_le (tgt := 47) hx hb dX8_leastAll_40 (by decide) (fun c_26 => ?_) (fun c_26 => ?_)
      · have c_26 := (nI_leI (a := ca) (b := 1) (by omega) (by omega)).mp c_26
        refine lv_iconst (v := 0) hx hb dX8_leastAll_47 (by decide) ?_
        refine lv_icmp_ge (tgt := 171) hx hb dX8_leastAll_48 (by decide) (fun c_27 => ?_) (fun c_27 => ?_)
        · refine lv_iinc (v := (nI q5_1)) (lv' := [(5, .int (nI q5_1)), (6, .int (nI q6_25 - 1)), (4, .int be_25), (3, .int (nI (dn sn))), (0, .ref (a 0)), (1, .int (nI sn)), (2, .int p1)]) hx hb dX8_leastAll_171 hl (k := 1) rfl (dn_inc _) (by decide) rfl (fun ls hl => ?_)
          refine lv_goto (tgt := 13) hx hb dX8_leastAll_174 (by decide) ?_
          exact ih_1 _ (q5_1 + 1, be_25) _ _ _ (by omega) ⟨rfl, (by omega), hP, hS, (by rw [nI_pred]; exact lv_sub hl [0, 2, 3, 4, 5, 6] rfl)⟩
        · have hqn_28 := dn_lt (n := 0) (by omega) (by omega) c_27
          refine lv_iconst (v := (-1)) hx hb dX8_leastAll_51 (by decide) ?_
          refine lv_istore (lv' := [(7, .int (-1)), (6, .int (nI q6_25 - 1)), (5, .int (nI q5_1 - 1)), (4, .int be_25), (3, .int (nI (dn sn))), (0, .ref (a 0)), (1, .int (nI sn)), (2, .int p1)]) hx hb dX8_leastAll_52 hl (by decide) rfl (fun ls hl => ?_)
          refine W_loop (σ := Nat × Int32) (fun (n_ : Nat) (x_ : Nat × Int32) (H : Heap) (locs : List Loc) (ls : Array Slot) => match x_ with | (q7_29, be_29) => n_ = 26 - q7_29 ∧ (q7_29 ≤ 25) ∧ va_P D classes [((a 0), .inr (8, (fX8 a (nI tx) fp (nI t0) wd (nI we) nu na (nI rd) ts (nI ru) (nI rw) (nI ca) df db sd))), (aI k (a 1) 3 (nF dn)), (aI k (a 4) 27 (sg se tm gs)), (aI k (a 3) 72 fprices), (aI k (a 36) 4 fwalks)] H ∧ va_S (fun q : Nat => s.heap.size ≤ q) s.heap H locs ∧ lv_has ls 10 [(7, .int (nI q7_29 - 1)), (6, .int (nI q6_25 - 1)), (5, .int (nI q5_1 - 1)), (4, .int be_29), (3, .int (nI (dn sn))), (0, .ref (a 0)), (1, .int (nI sn)), (2, .int p1)]) (fun n_29 x_29 H locs ls hI ih_29 => ?_) _ (0, be_25) ⟨rfl, (by omega), hP, hS, (by rw [dn0]; exact lv_sub hl [0, 1, 2, 3, 4, 5, 6, 7] rfl)⟩
          obtain ⟨q7_29, be_29⟩ := x_29
          obtain ⟨hm_29, hv_29, hP, hS, hl⟩ := hI
          subst hm_29
          refine lv_iload hx hb dX8_leastAll_54 (lv_at hl 0 rfl) ?_
          refine lv_aload_n hx hb dX8_leastAll_56 rfl (lv_at hl 5 rfl) ?_
          refine va_get (D := D) (ci := 8) (v := .int (nI ca)) (C := RX8) (T := TX8) (N := 44) hx hb hts inX8 hown hK hP 0 rfl rfl 34 (by decide) (hts _ tw_1007) (fun _ h9 => h9) rfl dX8_leastAll_57 ?_
          refine lv_iconst (v := 2) hx hb dX8_leastAll_60 (by decide) ?_
          refine lv_icmp_le (tgt := 68) hx hb dX8_leastAll_61 (by decide) (fun _ => ?_) (fun h => absurd ((nI_leI (a := ca) (b := 2) (by omega) (by omega)).mpr (by omega)) h)
          refine lv_iconst (v := 0) hx hb dX8_leastAll_68 (by decide) ?_
          refine lv_icmp_ge (tgt := 165) hx hb dX8_leastAll_69 (by decide) (fun c_31 => ?_) (fun c_31 => ?_)
          · refine lv_iinc (v := (nI q6_25)) (lv' := [(6, .int (nI q6_25)), (7, .int (nI q7_29 - 1)), (5, .int (nI q5_1 - 1)), (4, .int be_29), (3, .int (nI (dn sn))), (0, .ref (a 0)), (1, .int (nI sn)), (2, .int p1)]) hx hb dX8_leastAll_165 hl (k := 1) rfl (dn_inc _) (by decide) rfl (fun ls hl => ?_)
            refine lv_goto (tgt := 33) hx hb dX8_leastAll_168 (by decide) ?_
            exact ih_25 _ (q6_25 + 1, be_29) _ _ _ (by omega) ⟨rfl, (by omega), hP, hS, (by rw [nI_pred]; exact lv_sub hl [0, 2, 3, 4, 5, 6, 7] rfl)⟩
          · have hqn_32 := dn_lt (n := 0) (by omega) (by omega) c_31
            refine lv_iconst (v := (-1)) hx hb dX8_leastAll_72 (by decide) ?_
            refine lv_istore (lv' := [(8, .int (-1)), (7, .int (nI q7_29 - 1)), (6, .int (nI q6_25 - 1)), (5, .int (nI q5_1 - 1)), (4, .int be_29), (3, .int (nI (dn sn))), (0, .ref (a 0)), (1, .int (nI sn)), (2, .int p1)]) hx hb dX8_leastAll_73 hl (by decide) rfl (fun ls hl => ?_)
            refine W_loop (σ := Nat × Int32) (fun (n_ : Nat) (x_ : Nat × Int32) (H : Heap) (locs : List Loc) (ls : Array Slot) => match x_ with | (q8_33, be_33) => n_ = 26 - q8_33 ∧ (q8_33 ≤ 25) ∧ va_P D classes [((a 0), .inr (8, (fX8 a (nI tx) fp (nI t0) wd (nI we) nu na (nI rd) ts (nI ru) (nI rw) (nI ca) df db sd))), (aI k (a 1) 3 (nF dn)), (aI k (a 4) 27 (sg se tm gs)), (aI k (a 3) 72 fprices), (aI k (a 36) 4 fwalks)] H ∧ va_S (fun q : Nat => s.heap.size ≤ q) s.heap H locs ∧ lv_has ls 10 [(8, .int (nI q8_33 - 1)), (7, .int (nI q7_29 - 1)), (6, .int (nI q6_25 - 1)), (5, .int (nI q5_1 - 1)), (4, .int be_33), (3, .int (nI (dn sn))), (0, .ref (a 0)), (1, .int (nI sn)), (2, .int p1)]) (fun n_33 x_33 H locs ls hI ih_33 => ?_) _ (0, be_29) ⟨rfl, (by omega), hP, hS, (by rw [dn0]; exact lv_sub hl [0, 1, 2, 3, 4, 5, 6, 7, 8] rfl)⟩
            obtain ⟨q8_33, be_33⟩ := x_33
            obtain ⟨hm_33, hv_33, hP, hS, hl⟩ := hI
            subst hm_33
            refine lv_iload hx hb dX8_leastAll_75 (lv_at hl 0 rfl) ?_
            refine lv_aload_n hx hb dX8_leastAll_77 rfl (lv_at hl 6 rfl) ?_
            refine va_get (D := D) (ci := 8) (v := .int (nI ca)) (C := RX8) (T := TX8) (N := 44) hx hb hts inX8 hown hK hP 0 rfl rfl 34 (by decide) (hts _ tw_1007) (fun _ h9 => h9) rfl dX8_leastAll_78 ?_
            refine lv_iconst (v := 3) hx hb dX8_leastAll_81 (by decide) ?_
            refine lv_icmp_le (tgt := 89) hx hb dX8_leastAll_82 (by decide) (fun _ => ?_) (fun h => absurd ((nI_leI (a := ca) (b := 3) (by omega) (by omega)).mpr (by omega)) h)
            refine lv_iconst (v := 0) hx hb dX8_leastAll_89 (by decide) ?_
            refine lv_icmp_ge (tgt := 159) hx hb dX8_leastAll_90 (by decide) (fun c_35 => ?_) (fun c_35 => ?_)
            · refine lv_iinc (v := (nI q7_29)) (lv' := [(7, .int (nI q7_29)), (8, .int (nI q8_33 - 1)), (6, .int (nI q6_25 - 1)), (5, .int (nI q5_1 - 1)), (4, .int be_33), (3, .int (nI (dn sn))), (0, .ref (a 0)), (1, .int (nI sn)), (2, .int p1)]) hx hb dX8_leastAll_159 hl (k := 1) rfl (dn_inc _) (by decide) rfl (fun ls hl => ?_)
              refine lv_goto (tgt := 54) hx hb dX8_leastAll_162 (by decide) ?_
              exact ih_29 _ (q7_29 + 1, be_33) _ _ _ (by omega) ⟨rfl, (by omega), hP, hS, (by rw [nI_pred]; exact lv_sub hl [0, 2, 3, 4, 5, 6, 7, 8] rfl)⟩
            · have hqn_36 := dn_lt (n := 0) (by omega) (by omega) c_35
              refine lv_iload_n hx hb dX8_leastAll_93 rfl (lv_at hl 8 rfl) ?_
              refine lv_iload hx hb dX8_leastAll_94 (lv_at hl 3 rfl) ?_
              refine lv_iload hx hb dX8_leastAll_96 (lv_at hl 2 rfl) ?_
              refine lv_iload hx hb dX8_leastAll_98 (lv_at hl 1 rfl) ?_
              refine lv_iload hx hb dX8_leastAll_100 (lv_at hl 0 rfl) ?_
              refine ro_i (D := D) (va_runS (As := [.int p1, .int (nI q5_1 - 1), .int (nI q6_25 - 1), .int (nI q7_29 - 1), .int (nI q8_33 - 1)]) (rest := []) ⟨hx, hb, hml, hown, hts⟩ ((m_canAll l D k st lo p1 (nI q5_1 - 1) (nI q6_25 - 1) (nI q7_29 - 1) (nI q8_33 - 1)) H.size) (va_cwS 5 hts (gS tw_1450 tw_1451 tw_87 tw_1452) rfl rfl rfl (by decide +kernel) ⟨Nat.le_of_ble_eq_true rfl, Nat.le_of_ble_eq_true rfl⟩) (pS hS hAlo hlo hP hK hDL hZ [] (by decide) rfl) rfl rfl hl.1 rfl (lv_room (Nat.le_of_ble_eq_true rfl)) dX8_leastAll_102 ⟨Nat.le_of_ble_eq_true rfl, Nat.le_of_ble_eq_true rfl⟩) hS hA hP (fun r_37 H locs hw_37 hP hS => ?_)
              try dsimp only at hw_37
              refine lv_if_eq (tgt := 124) hx hb dX8_leastAll_105 (by decide) (fun c_38 => ?_) (fun c_38 => ?_)
              · refine lv_iconst (v := (-1)) hx hb dX8_leastAll_124 (by decide) ?_
                refine lv_istore (lv' := [(9, .int (-1)), (8, .int (nI q8_33 - 1)), (7, .int (nI q7_29 - 1)), (6, .int (nI q6_25 - 1)), (5, .int (nI q5_1 - 1)), (4, .int be_33), (3, .int (nI (dn sn))), (0, .ref (a 0)), (1, .int (nI sn)), (2, .int p1)]) hx hb dX8_leastAll_125 hl (by decide) rfl (fun ls hl => ?_)
                refine lv_iload hx hb dX8_leastAll_127 (lv_at hl 0 rfl) ?_
                refine lv_if_lt (tgt := 149) hx hb dX8_leastAll_129 (by decide) (fun _ => ?_) (fun h => absurd (by decide) h)
                refine lv_iload hx hb dX8_leastAll_149 (lv_at hl 5 rfl) ?_
                refine lv_istore (lv' := [(4, .int be_33), (9, .int (-1)), (8, .int (nI q8_33 - 1)), (7, .int (nI q7_29 - 1)), (6, .int (nI q6_25 - 1)), (5, .int (nI q5_1 - 1)), (3, .int (nI (dn sn))), (0, .ref (a 0)), (1, .int (nI sn)), (2, .int p1)]) hx hb dX8_leastAll_151 hl (by decide) rfl (fun ls hl => ?_)
                refine lv_iinc (v := (nI q8_33)) (lv' := [(8, .int (nI q8_33)), (4, .int be_33), (9, .int (-1)), (7, .int (nI q7_29 - 1)), (6, .int (nI q6_25 - 1)), (5, .int (nI q5_1 - 1)), (3, .int (nI (dn sn))), (0, .ref (a 0)), (1, .int (nI sn)), (2, .int p1)]) hx hb dX8_leastAll_153 hl (k := 2) rfl (dn_inc _) (by decide) rfl (fun ls hl => ?_)
                refine lv_goto (tgt := 75) hx hb dX8_leastAll_156 (by decide) ?_
                exact ih_33 _ (q8_33 + 1, be_33) _ _ _ (by omega) ⟨rfl, (by omega), hP, hS, (by rw [nI_pred]; exact lv_sub hl [0, 3, 4, 5, 1, 6, 7, 8, 9] rfl)⟩
              · refine lv_aload_n hx hb dX8_leastAll_108 rfl (lv_at hl 6 rfl) ?_
                refine lv_iload_n hx hb dX8_leastAll_109 rfl (lv_at hl 7 rfl) ?_
                refine lv_iload hx hb dX8_leastAll_110 (lv_at hl 3 rfl) ?_
                refine lv_iload hx hb dX8_leastAll_112 (lv_at hl 2 rfl) ?_
                refine lv_iload hx hb dX8_leastAll_114 (lv_at hl 1 rfl) ?_
                refine lv_iload hx hb dX8_leastAll_116 (lv_at hl 0 rfl) ?_
                refine ro_i (D := D) (va_runV (As := [.int (nI sn), .int (nI q5_1 - 1), .int (nI q6_25 - 1), .int (nI q7_29 - 1), .int (nI q8_33 - 1)]) (rest := []) ⟨hx, hb, hml, hown, hts⟩ ((m_sumAll l D k st lo a tx t0 we rd ru rw ca fp wd nu na ts df db sd dn se tm gs fprices fwalks sn (nI q5_1 - 1) (nI q6_25 - 1) (nI q7_29 - 1) (nI q8_33 - 1) (by first | assumption | omega) (by first | assumption | omega) (dn_hq (by omega)) (dn_hq (by omega)) (dn_hq (by omega)) (dn_hq (by omega))) H.size) (cwV 5 hts (gV tw_1459 tw_1461 tw_75 tw_87 tw_1462) rfl rfl rfl (by decide +kernel) ⟨Nat.le_of_ble_eq_true rfl, Nat.le_of_ble_eq_true rfl⟩) (pV hS hAlo hlo hP hK hDL hZ [0, 1, 2, 3, 4] (by decide) rfl (ci := 8) (q := (RX8, TX8, 44)) (q0 := 0) rfl rfl) rfl rfl hl.1 rfl (lv_room (Nat.le_of_ble_eq_true rfl)) dX8_leastAll_118 ⟨Nat.le_of_ble_eq_true rfl, Nat.le_of_ble_eq_true rfl⟩) hS hA hP (fun r_39 H locs hw_39 hP hS => ?_)
                try dsimp only at hw_39
                refine lv_goto (tgt := 125) hx hb dX8_leastAll_121 (by decide) ?_
                refine lv_istore (lv' := [(9, .int r_39), (8, .int (nI q8_33 - 1)), (7, .int (nI q7_29 - 1)), (6, .int (nI q6_25 - 1)), (5, .int (nI q5_1 - 1)), (4, .int be_33), (3, .int (nI (dn sn))), (0, .ref (a 0)), (1, .int (nI sn)), (2, .int p1)]) hx hb dX8_leastAll_125 hl (by decide) rfl (fun ls hl => ?_)
                refine lv_iload hx hb dX8_leastAll_127 (lv_at hl 0 rfl) ?_
                refine lv_if_lt (tgt := 149) hx hb dX8_leastAll_129 (by decide) (fun c_40 => ?_) (fun c_40 => ?_)
                · refine lv_iload hx hb dX8_leastAll_149 (lv_at hl 5 rfl) ?_
                  refine lv_istore (lv' := [(4, .int be_33), (9, .int r_39), (8, .int (nI q8_33 - 1)), (7, .int (nI q7_29 - 1)), (6, .int (nI q6_25 - 1)), (5, .int (nI q5_1 - 1)), (3, .int (nI (dn sn))), (0, .ref (a 0)), (1, .int (nI sn)), (2, .int p1)]) hx hb dX8_leastAll_151 hl (by decide) rfl (fun ls hl => ?_)
                  refine lv_iinc (v := (nI q8_33)) (lv' := [(8, .int (nI q8_33)), (4, .int be_33), (9, .int r_39), (7, .int (nI q7_29 - 1)), (6, .int (nI q6_25 - 1)), (5, .int (nI q5_1 - 1)), (3, .int (nI (dn sn))), (0, .ref (a 0)), (1, .int (nI sn)), (2, .int p1)]) hx hb dX8_leastAll_153 hl (k := 2) rfl (dn_inc _) (by decide) rfl (fun ls hl => ?_)
                  refine lv_goto (tgt := 75) hx hb dX8_leastAll_156 (by decide) ?_
                  exact ih_33 _ (q8_33 + 1, be_33) _ _ _ (by omega) ⟨rfl, (by omega), hP, hS, (by rw [nI_pred]; exact lv_sub hl [0, 3, 4, 5, 1, 6, 7, 8, 9] rfl)⟩
                · refine lv_iload hx hb dX8_leastAll_132 (lv_at hl 5 rfl) ?_
                  refine lv_if_lt (tgt := 144) hx hb dX8_leastAll_134 (by decide) (fun c_41 => ?_) (fun c_41 => ?_)
                  · refine lv_iload hx hb dX8_leastAll_144 (lv_at hl 0 rfl) ?_
                    refine lv_goto (tgt := 151) hx hb dX8_leastAll_146 (by decide) ?_
                    refine lv_istore (lv' := [(4, .int r_39), (9, .int r_39), (8, .int (nI q8_33 - 1)), (7, .int (nI q7_29 - 1)), (6, .int (nI q6_25 - 1)), (5, .int (nI q5_1 - 1)), (3, .int (nI (dn sn))), (0, .ref (a 0)), (1, .int (nI sn)), (2, .int p1)]) hx hb dX8_leastAll_151 hl (by decide) rfl (fun ls hl => ?_)
                    refine lv_iinc (v := (nI q8_33)) (lv' := [(8, .int (nI q8_33)), (4, .int r_39), (9, .int r_39), (7, .int (nI q7_29 - 1)), (6, .int (nI q6_25 - 1)), (5, .int (nI q5_1 - 1)), (3, .int (nI (dn sn))), (0, .ref (a 0)), (1, .int (nI sn)), (2, .int p1)]) hx hb dX8_leastAll_153 hl (k := 2) rfl (dn_inc _) (by decide) rfl (fun ls hl => ?_)
                    refine lv_goto (tgt := 75) hx hb dX8_leastAll_156 (by decide) ?_
                    exact ih_33 _ (q8_33 + 1, r_39) _ _ _ (by omega) ⟨rfl, (by omega), hP, hS, (by rw [nI_pred]; exact lv_sub hl [0, 3, 4, 5, 1, 6, 7, 8, 9] rfl)⟩
                  · refine lv_iload hx hb dX8_leastAll_137 (lv_at hl 0 rfl) ?_
                    refine lv_iload hx hb dX8_leastAll_139 (lv_at hl 5 rfl) ?_
                    refine lv_icmp_ge (tgt := 149) hx hb dX8_leastAll_141 (by decide) (fun c_42 => ?_) (fun c_42 => ?_)
                    · refine lv_iload hx hb dX8_leastAll_149 (lv_at hl 5 rfl) ?_
                      refine lv_istore (lv' := [(4, .int be_33), (9, .int r_39), (8, .int (nI q8_33 - 1)), (7, .int (nI q7_29 - 1)), (6, .int (nI q6_25 - 1)), (5, .int (nI q5_1 - 1)), (3, .int (nI (dn sn))), (0, .ref (a 0)), (1, .int (nI sn)), (2, .int p1)]) hx hb dX8_leastAll_151 hl (by decide) rfl (fun ls hl => ?_)
                      refine lv_iinc (v := (nI q8_33)) (lv' := [(8, .int (nI q8_33)), (4, .int be_33), (9, .int r_39), (7, .int (nI q7_29 - 1)), (6, .int (nI q6_25 - 1)), (5, .int (nI q5_1 - 1)), (3, .int (nI (dn sn))), (0, .ref (a 0)), (1, .int (nI sn)), (2, .int p1)]) hx hb dX8_leastAll_153 hl (k := 2) rfl (dn_inc _) (by decide) rfl (fun ls hl => ?_)
                      refine lv_goto (tgt := 75) hx hb dX8_leastAll_156 (by decide) ?_
                      exact ih_33 _ (q8_33 + 1, be_33) _ _ _ (by omega) ⟨rfl, (by omega), hP, hS, (by rw [nI_pred]; exact lv_sub hl [0, 3, 4, 5, 1, 6, 7, 8, 9] rfl)⟩
                    · refine lv_iload hx hb dX8_leastAll_144 (lv_at hl 0 rfl) ?_
                      refine lv_goto (tgt := 151) hx hb dX8_leastAll_146 (by decide) ?_
                      refine lv_istore (lv' := [(4, .int r_39), (9, .int r_39), (8, .int (nI q8_33 - 1)), (7, .int (nI q7_29 - 1)), (6, .int (nI q6_25 - 1)), (5, .int (nI q5_1 - 1)), (3, .int (nI (dn sn))), (0, .ref (a 0)), (1, .int (nI sn)), (2, .int p1)]) hx hb dX8_leastAll_151 hl (by decide) rfl (fun ls hl => ?_)
                      refine lv_iinc (v := (nI q8_33)) (lv' := [(8, .int (nI q8_33)), (4, .int r_39), (9, .int r_39), (7, .int (nI q7_29 - 1)), (6, .int (nI q6_25 - 1)), (5, .int (nI q5_1 - 1)), (3, .int (nI (dn sn))), (0, .ref (a 0)), (1, .int (nI sn)), (2, .int p1)]) hx hb dX8_leastAll_153 hl (k := 2) rfl (dn_inc _) (by decide) rfl (fun ls hl => ?_)
                      refine lv_goto (tgt := 75) hx hb dX8_leastAll_156 (by decide) ?_
                      exact ih_33 _ (q8_33 + 1, r_39) _ _ _ (by omega) ⟨rfl, (by omega), hP, hS, (by rw [nI_pred]; exact lv_sub hl [0, 3, 4, 5, 1, 6, 7, 8, 9] rfl)⟩
      · have c_26 : ¬ (ca ≤ 1) := fun h => c_26 ((nI_leI (a := ca) (b := 1) (by omega) (by omega)).mpr h)
        refine lv_iload_n hx hb dX8_leastAll_43 rfl (lv_at hl 3 rfl) ?_
        refine lv_goto (tgt := 48) hx hb dX8_leastAll_44 (by decide) ?_
        refine lv_icmp_ge (tgt := 171) hx hb dX8_leastAll_48 (by decide) (fun c_43 => ?_) (fun c_43 => ?_)
        · refine lv_iinc (v := (nI q5_1)) (lv' := [(5, .int (nI q5_1)), (6, .int (nI q6_25 - 1)), (4, .int be_25), (3, .int (nI (dn sn))), (0, .ref (a 0)), (1, .int (nI sn)), (2, .int p1)]) hx hb dX8_leastAll_171 hl (k := 1) rfl (dn_inc _) (by decide) rfl (fun ls hl => ?_)
          refine lv_goto (tgt := 13) hx hb dX8_leastAll_174 (by decide) ?_
          exact ih_1 _ (q5_1 + 1, be_25) _ _ _ (by omega) ⟨rfl, (by omega), hP, hS, (by rw [nI_pred]; exact lv_sub hl [0, 2, 3, 4, 5, 6] rfl)⟩
        · have hqn_44 := dn_lt (n := (dn sn)) (by omega) (by omega) c_43
          refine lv_iconst (v := (-1)) hx hb dX8_leastAll_51 (by decide) ?_
          refine lv_istore (lv' := [(7, .int (-1)), (6, .int (nI q6_25 - 1)), (5, .int (nI q5_1 - 1)), (4, .int be_25), (3, .int (nI (dn sn))), (0, .ref (a 0)), (1, .int (nI sn)), (2, .int p1)]) hx hb dX8_leastAll_52 hl (by decide) rfl (fun ls hl => ?_)
          refine W_loop (σ := Nat × Int32) (fun (n_ : Nat) (x_ : Nat × Int32) (H : Heap) (locs : List Loc) (ls : Array Slot) => match x_ with | (q7_45, be_45) => n_ = 26 - q7_45 ∧ (q7_45 ≤ 25) ∧ va_P D classes [((a 0), .inr (8, (fX8 a (nI tx) fp (nI t0) wd (nI we) nu na (nI rd) ts (nI ru) (nI rw) (nI ca) df db sd))), (aI k (a 1) 3 (nF dn)), (aI k (a 4) 27 (sg se tm gs)), (aI k (a 3) 72 fprices), (aI k (a 36) 4 fwalks)] H ∧ va_S (fun q : Nat => s.heap.size ≤ q) s.heap H locs ∧ lv_has ls 10 [(7, .int (nI q7_45 - 1)), (6, .int (nI q6_25 - 1)), (5, .int (nI q5_1 - 1)), (4, .int be_45), (3, .int (nI (dn sn))), (0, .ref (a 0)), (1, .int (nI sn)), (2, .int p1)]) (fun n_45 x_45 H locs ls hI ih_45 => ?_) _ (0, be_25) ⟨rfl, (by omega), hP, hS, (by rw [dn0]; exact lv_sub hl [0, 1, 2, 3, 4, 5, 6, 7] rfl)⟩
          obtain ⟨q7_45, be_45⟩ := x_45
          obtain ⟨hm_45, hv_45, hP, hS, hl⟩ := hI
          subst hm_45
          refine lv_iload hx hb dX8_leastAll_54 (lv_at hl 0 rfl) ?_
          refine lv_aload_n hx hb dX8_leastAll_56 rfl (lv_at hl 5 rfl) ?_
          refine va_get (D := D) (ci := 8) (v := .int (nI ca)) (C := RX8) (T := TX8) (N := 44) hx hb hts inX8 hown hK hP 0 rfl rfl 34 (by decide) (hts _ tw_1007) (fun _ h9 => h9) rfl dX8_leastAll_57 ?_
          refine lv_iconst (v := 2) hx hb dX8_leastAll_60 (by decide) ?_
          refine lv_icmp_le (tgt := 68) hx hb dX8_leastAll_61 (by decide) (fun c_46 => ?_) (fun c_46 => ?_)
          · have c_46 := (nI_leI (a := ca) (b := 2) (by omega) (by omega)).mp c_46
            refine lv_iconst (v := 0) hx hb dX8_leastAll_68 (by decide) ?_
            refine lv_icmp_ge (tgt := 165) hx hb dX8_leastAll_69 (by decide) (fun c_47 => ?_) (fun c_47 => ?_)
            · refine lv_iinc (v := (nI q6_25)) (lv' := [(6, .int (nI q6_25)), (7, .int (nI q7_45 - 1)), (5, .int (nI q5_1 - 1)), (4, .int be_45), (3, .int (nI (dn sn))), (0, .ref (a 0)), (1, .int (nI sn)), (2, .int p1)]) hx hb dX8_leastAll_165 hl (k := 1) rfl (dn_inc _) (by decide) rfl (fun ls hl => ?_)
              refine lv_goto (tgt := 33) hx hb dX8_leastAll_168 (by decide) ?_
              exact ih_25 _ (q6_25 + 1, be_45) _ _ _ (by omega) ⟨rfl, (by omega), hP, hS, (by rw [nI_pred]; exact lv_sub hl [0, 2, 3, 4, 5, 6, 7] rfl)⟩
            · have hqn_48 := dn_lt (n := 0) (by omega) (by omega) c_47
              refine lv_iconst (v := (-1)) hx hb dX8_leastAll_72 (by decide) ?_
              refine lv_istore (lv' := [(8, .int (-1)), (7, .int (nI q7_45 - 1)), (6, .int (nI q6_25 - 1)), (5, .int (nI q5_1 - 1)), (4, .int be_45), (3, .int (nI (dn sn))), (0, .ref (a 0)), (1, .int (nI sn)), (2, .int p1)]) hx hb dX8_leastAll_73 hl (by decide) rfl (fun ls hl => ?_)
              refine W_loop (σ := Nat × Int32) (fun (n_ : Nat) (x_ : Nat × Int32) (H : Heap) (locs : List Loc) (ls : Array Slot) => match x_ with | (q8_49, be_49) => n_ = 26 - q8_49 ∧ (q8_49 ≤ 25) ∧ va_P D classes [((a 0), .inr (8, (fX8 a (nI tx) fp (nI t0) wd (nI we) nu na (nI rd) ts (nI ru) (nI rw) (nI ca) df db sd))), (aI k (a 1) 3 (nF dn)), (aI k (a 4) 27 (sg se tm gs)), (aI k (a 3) 72 fprices), (aI k (a 36) 4 fwalks)] H ∧ va_S (fun q : Nat => s.heap.size ≤ q) s.heap H locs ∧ lv_has ls 10 [(8, .int (nI q8_49 - 1)), (7, .int (nI q7_45 - 1)), (6, .int (nI q6_25 - 1)), (5, .int (nI q5_1 - 1)), (4, .int be_49), (3, .int (nI (dn sn))), (0, .ref (a 0)), (1, .int (nI sn)), (2, .int p1)]) (fun n_49 x_49 H locs ls hI ih_49 => ?_) _ (0, be_45) ⟨rfl, (by omega), hP, hS, (by rw [dn0]; exact lv_sub hl [0, 1, 2, 3, 4, 5, 6, 7, 8] rfl)⟩
              obtain ⟨q8_49, be_49⟩ := x_49
              obtain ⟨hm_49, hv_49, hP, hS, hl⟩ := hI
              subst hm_49
              refine lv_iload hx hb dX8_leastAll_75 (lv_at hl 0 rfl) ?_
              refine lv_aload_n hx hb dX8_leastAll_77 rfl (lv_at hl 6 rfl) ?_
              refine va_get (D := D) (ci := 8) (v := .int (nI ca)) (C := RX8) (T := TX8) (N := 44) hx hb hts inX8 hown hK hP 0 rfl rfl 34 (by decide) (hts _ tw_1007) (fun _ h9 => h9) rfl dX8_leastAll_78 ?_
              refine lv_iconst (v := 3) hx hb dX8_leastAll_81 (by decide) ?_
              refine lv_icmp_le (tgt := 89) hx hb dX8_leastAll_82 (by decide) (fun _ => ?_) (fun h => absurd ((nI_leI (a := ca) (b := 3) (by omega) (by omega)).mpr (by omega)) h)
              refine lv_iconst (v := 0) hx hb dX8_leastAll_89 (by decide) ?_
              refine lv_icmp_ge (tgt := 159) hx hb dX8_leastAll_90 (by decide) (fun c_51 => ?_) (fun c_51 => ?_)
              · refine lv_iinc (v := (nI q7_45)) (lv' := [(7, .int (nI q7_45)), (8, .int (nI q8_49 - 1)), (6, .int (nI q6_25 - 1)), (5, .int (nI q5_1 - 1)), (4, .int be_49), (3, .int (nI (dn sn))), (0, .ref (a 0)), (1, .int (nI sn)), (2, .int p1)]) hx hb dX8_leastAll_159 hl (k := 1) rfl (dn_inc _) (by decide) rfl (fun ls hl => ?_)
                refine lv_goto (tgt := 54) hx hb dX8_leastAll_162 (by decide) ?_
                exact ih_45 _ (q7_45 + 1, be_49) _ _ _ (by omega) ⟨rfl, (by omega), hP, hS, (by rw [nI_pred]; exact lv_sub hl [0, 2, 3, 4, 5, 6, 7, 8] rfl)⟩
              · have hqn_52 := dn_lt (n := 0) (by omega) (by omega) c_51
                refine lv_iload_n hx hb dX8_leastAll_93 rfl (lv_at hl 8 rfl) ?_
                refine lv_iload hx hb dX8_leastAll_94 (lv_at hl 3 rfl) ?_
                refine lv_iload hx hb dX8_leastAll_96 (lv_at hl 2 rfl) ?_
                refine lv_iload hx hb dX8_leastAll_98 (lv_at hl 1 rfl) ?_
                refine lv_iload hx hb dX8_leastAll_100 (lv_at hl 0 rfl) ?_
                refine ro_i (D := D) (va_runS (As := [.int p1, .int (nI q5_1 - 1), .int (nI q6_25 - 1), .int (nI q7_45 - 1), .int (nI q8_49 - 1)]) (rest := []) ⟨hx, hb, hml, hown, hts⟩ ((m_canAll l D k st lo p1 (nI q5_1 - 1) (nI q6_25 - 1) (nI q7_45 - 1) (nI q8_49 - 1)) H.size) (va_cwS 5 hts (gS tw_1450 tw_1451 tw_87 tw_1452) rfl rfl rfl (by decide +kernel) ⟨Nat.le_of_ble_eq_true rfl, Nat.le_of_ble_eq_true rfl⟩) (pS hS hAlo hlo hP hK hDL hZ [] (by decide) rfl) rfl rfl hl.1 rfl (lv_room (Nat.le_of_ble_eq_true rfl)) dX8_leastAll_102 ⟨Nat.le_of_ble_eq_true rfl, Nat.le_of_ble_eq_true rfl⟩) hS hA hP (fun r_53 H locs hw_53 hP hS => ?_)
                try dsimp only at hw_53
                refine lv_if_eq (tgt := 124) hx hb dX8_leastAll_105 (by decide) (fun c_54 => ?_) (fun c_54 => ?_)
                · refine lv_iconst (v := (-1)) hx hb dX8_leastAll_124 (by decide) ?_
                  refine lv_istore (lv' := [(9, .int (-1)), (8, .int (nI q8_49 - 1)), (7, .int (nI q7_45 - 1)), (6, .int (nI q6_25 - 1)), (5, .int (nI q5_1 - 1)), (4, .int be_49), (3, .int (nI (dn sn))), (0, .ref (a 0)), (1, .int (nI sn)), (2, .int p1)]) hx hb dX8_leastAll_125 hl (by decide) rfl (fun ls hl => ?_)
                  refine lv_iload hx hb dX8_leastAll_127 (lv_at hl 0 rfl) ?_
                  refine lv_if_lt (tgt := 149) hx hb dX8_leastAll_129 (by decide) (fun _ => ?_) (fun h => absurd (by decide) h)
                  refine lv_iload hx hb dX8_leastAll_149 (lv_at hl 5 rfl) ?_
                  refine lv_istore (lv' := [(4, .int be_49), (9, .int (-1)), (8, .int (nI q8_49 - 1)), (7, .int (nI q7_45 - 1)), (6, .int (nI q6_25 - 1)), (5, .int (nI q5_1 - 1)), (3, .int (nI (dn sn))), (0, .ref (a 0)), (1, .int (nI sn)), (2, .int p1)]) hx hb dX8_leastAll_151 hl (by decide) rfl (fun ls hl => ?_)
                  refine lv_iinc (v := (nI q8_49)) (lv' := [(8, .int (nI q8_49)), (4, .int be_49), (9, .int (-1)), (7, .int (nI q7_45 - 1)), (6, .int (nI q6_25 - 1)), (5, .int (nI q5_1 - 1)), (3, .int (nI (dn sn))), (0, .ref (a 0)), (1, .int (nI sn)), (2, .int p1)]) hx hb dX8_leastAll_153 hl (k := 2) rfl (dn_inc _) (by decide) rfl (fun ls hl => ?_)
                  refine lv_goto (tgt := 75) hx hb dX8_leastAll_156 (by decide) ?_
                  exact ih_49 _ (q8_49 + 1, be_49) _ _ _ (by omega) ⟨rfl, (by omega), hP, hS, (by rw [nI_pred]; exact lv_sub hl [0, 3, 4, 5, 1, 6, 7, 8, 9] rfl)⟩
                · refine lv_aload_n hx hb dX8_leastAll_108 rfl (lv_at hl 6 rfl) ?_
                  refine lv_iload_n hx hb dX8_leastAll_109 rfl (lv_at hl 7 rfl) ?_
                  refine lv_iload hx hb dX8_leastAll_110 (lv_at hl 3 rfl) ?_
                  refine lv_iload hx hb dX8_leastAll_112 (lv_at hl 2 rfl) ?_
                  refine lv_iload hx hb dX8_leastAll_114 (lv_at hl 1 rfl) ?_
                  refine lv_iload hx hb dX8_leastAll_116 (lv_at hl 0 rfl) ?_
                  refine ro_i (D := D) (va_runV (As := [.int (nI sn), .int (nI q5_1 - 1), .int (nI q6_25 - 1), .int (nI q7_45 - 1), .int (nI q8_49 - 1)]) (rest := []) ⟨hx, hb, hml, hown, hts⟩ ((m_sumAll l D k st lo a tx t0 we rd ru rw ca fp wd nu na ts df db sd dn se tm gs fprices fwalks sn (nI q5_1 - 1) (nI q6_25 - 1) (nI q7_45 - 1) (nI q8_49 - 1) (by first | assumption | omega) (by first | assumption | omega) (dn_hq (by omega)) (dn_hq (by omega)) (dn_hq (by omega)) (dn_hq (by omega))) H.size) (cwV 5 hts (gV tw_1459 tw_1461 tw_75 tw_87 tw_1462) rfl rfl rfl (by decide +kernel) ⟨Nat.le_of_ble_eq_true rfl, Nat.le_of_ble_eq_true rfl⟩) (pV hS hAlo hlo hP hK hDL hZ [0, 1, 2, 3, 4] (by decide) rfl (ci := 8) (q := (RX8, TX8, 44)) (q0 := 0) rfl rfl) rfl rfl hl.1 rfl (lv_room (Nat.le_of_ble_eq_true rfl)) dX8_leastAll_118 ⟨Nat.le_of_ble_eq_true rfl, Nat.le_of_ble_eq_true rfl⟩) hS hA hP (fun r_55 H locs hw_55 hP hS => ?_)
                  try dsimp only at hw_55
                  refine lv_goto (tgt := 125) hx hb dX8_leastAll_121 (by decide) ?_
                  refine lv_istore (lv' := [(9, .int r_55), (8, .int (nI q8_49 - 1)), (7, .int (nI q7_45 - 1)), (6, .int (nI q6_25 - 1)), (5, .int (nI q5_1 - 1)), (4, .int be_49), (3, .int (nI (dn sn))), (0, .ref (a 0)), (1, .int (nI sn)), (2, .int p1)]) hx hb dX8_leastAll_125 hl (by decide) rfl (fun ls hl => ?_)
                  refine lv_iload hx hb dX8_leastAll_127 (lv_at hl 0 rfl) ?_
                  refine lv_if_lt (tgt := 149) hx hb dX8_leastAll_129 (by decide) (fun c_56 => ?_) (fun c_56 => ?_)
                  · refine lv_iload hx hb dX8_leastAll_149 (lv_at hl 5 rfl) ?_
                    refine lv_istore (lv' := [(4, .int be_49), (9, .int r_55), (8, .int (nI q8_49 - 1)), (7, .int (nI q7_45 - 1)), (6, .int (nI q6_25 - 1)), (5, .int (nI q5_1 - 1)), (3, .int (nI (dn sn))), (0, .ref (a 0)), (1, .int (nI sn)), (2, .int p1)]) hx hb dX8_leastAll_151 hl (by decide) rfl (fun ls hl => ?_)
                    refine lv_iinc (v := (nI q8_49)) (lv' := [(8, .int (nI q8_49)), (4, .int be_49), (9, .int r_55), (7, .int (nI q7_45 - 1)), (6, .int (nI q6_25 - 1)), (5, .int (nI q5_1 - 1)), (3, .int (nI (dn sn))), (0, .ref (a 0)), (1, .int (nI sn)), (2, .int p1)]) hx hb dX8_leastAll_153 hl (k := 2) rfl (dn_inc _) (by decide) rfl (fun ls hl => ?_)
                    refine lv_goto (tgt := 75) hx hb dX8_leastAll_156 (by decide) ?_
                    exact ih_49 _ (q8_49 + 1, be_49) _ _ _ (by omega) ⟨rfl, (by omega), hP, hS, (by rw [nI_pred]; exact lv_sub hl [0, 3, 4, 5, 1, 6, 7, 8, 9] rfl)⟩
                  · refine lv_iload hx hb dX8_leastAll_132 (lv_at hl 5 rfl) ?_
                    refine lv_if_lt (tgt := 144) hx hb dX8_leastAll_134 (by decide) (fun c_57 => ?_) (fun c_57 => ?_)
                    · refine lv_iload hx hb dX8_leastAll_144 (lv_at hl 0 rfl) ?_
                      refine lv_goto (tgt := 151) hx hb dX8_leastAll_146 (by decide) ?_
                      refine lv_istore (lv' := [(4, .int r_55), (9, .int r_55), (8, .int (nI q8_49 - 1)), (7, .int (nI q7_45 - 1)), (6, .int (nI q6_25 - 1)), (5, .int (nI q5_1 - 1)), (3, .int (nI (dn sn))), (0, .ref (a 0)), (1, .int (nI sn)), (2, .int p1)]) hx hb dX8_leastAll_151 hl (by decide) rfl (fun ls hl => ?_)
                      refine lv_iinc (v := (nI q8_49)) (lv' := [(8, .int (nI q8_49)), (4, .int r_55), (9, .int r_55), (7, .int (nI q7_45 - 1)), (6, .int (nI q6_25 - 1)), (5, .int (nI q5_1 - 1)), (3, .int (nI (dn sn))), (0, .ref (a 0)), (1, .int (nI sn)), (2, .int p1)]) hx hb dX8_leastAll_153 hl (k := 2) rfl (dn_inc _) (by decide) rfl (fun ls hl => ?_)
                      refine lv_goto (tgt := 75) hx hb dX8_leastAll_156 (by decide) ?_
                      exact ih_49 _ (q8_49 + 1, r_55) _ _ _ (by omega) ⟨rfl, (by omega), hP, hS, (by rw [nI_pred]; exact lv_sub hl [0, 3, 4, 5, 1, 6, 7, 8, 9] rfl)⟩
                    · refine lv_iload hx hb dX8_leastAll_137 (lv_at hl 0 rfl) ?_
                      refine lv_iload hx hb dX8_leastAll_139 (lv_at hl 5 rfl) ?_
                      refine lv_icmp_ge (tgt := 149) hx hb dX8_leastAll_141 (by decide) (fun c_58 => ?_) (fun c_58 => ?_)
                      · refine lv_iload hx hb dX8_leastAll_149 (lv_at hl 5 rfl) ?_
                        refine lv_istore (lv' := [(4, .int be_49), (9, .int r_55), (8, .int (nI q8_49 - 1)), (7, .int (nI q7_45 - 1)), (6, .int (nI q6_25 - 1)), (5, .int (nI q5_1 - 1)), (3, .int (nI (dn sn))), (0, .ref (a 0)), (1, .int (nI sn)), (2, .int p1)]) hx hb dX8_leastAll_151 hl (by decide) rfl (fun ls hl => ?_)
                        refine lv_iinc (v := (nI q8_49)) (lv' := [(8, .int (nI q8_49)), (4, .int be_49), (9, .int r_55), (7, .int (nI q7_45 - 1)), (6, .int (nI q6_25 - 1)), (5, .int (nI q5_1 - 1)), (3, .int (nI (dn sn))), (0, .ref (a 0)), (1, .int (nI sn)), (2, .int p1)]) hx hb dX8_leastAll_153 hl (k := 2) rfl (dn_inc _) (by decide) rfl (fun ls hl => ?_)
                        refine lv_goto (tgt := 75) hx hb dX8_leastAll_156 (by decide) ?_
                        exact ih_49 _ (q8_49 + 1, be_49) _ _ _ (by omega) ⟨rfl, (by omega), hP, hS, (by rw [nI_pred]; exact lv_sub hl [0, 3, 4, 5, 1, 6, 7, 8, 9] rfl)⟩
                      · refine lv_iload hx hb dX8_leastAll_144 (lv_at hl 0 rfl) ?_
                        refine lv_goto (tgt := 151) hx hb dX8_leastAll_146 (by decide) ?_
                        refine lv_istore (lv' := [(4, .int r_55), (9, .int r_55), (8, .int (nI q8_49 - 1)), (7, .int (nI q7_45 - 1)), (6, .int (nI q6_25 - 1)), (5, .int (nI q5_1 - 1)), (3, .int (nI (dn sn))), (0, .ref (a 0)), (1, .int (nI sn)), (2, .int p1)]) hx hb dX8_leastAll_151 hl (by decide) rfl (fun ls hl => ?_)
                        refine lv_iinc (v := (nI q8_49)) (lv' := [(8, .int (nI q8_49)), (4, .int r_55), (9, .int r_55), (7, .int (nI q7_45 - 1)), (6, .int (nI q6_25 - 1)), (5, .int (nI q5_1 - 1)), (3, .int (nI (dn sn))), (0, .ref (a 0)), (1, .int (nI sn)), (2, .int p1)]) hx hb dX8_leastAll_153 hl (k := 2) rfl (dn_inc _) (by decide) rfl (fun ls hl => ?_)
                        refine lv_goto (tgt := 75) hx hb dX8_leastAll_156 (by decide) ?_
                        exact ih_49 _ (q8_49 + 1, r_55) _ _ _ (by omega) ⟨rfl, (by omega), hP, hS, (by rw [nI_pred]; exact lv_sub hl [0, 3, 4, 5, 1, 6, 7, 8, 9] rfl)⟩
          · have c_46 : ¬ (ca ≤ 2) := fun h => c_46 ((nI_leI (a := ca) (b := 2) (by omega) (by omega)).mpr h)
            refine lv_iload_n hx hb dX8_leastAll_64 rfl (lv_at hl 4 rfl) ?_
            refine lv_goto (tgt := 69) hx hb dX8_leastAll_65 (by decide) ?_
            refine lv_icmp_ge (tgt := 165) hx hb dX8_leastAll_69 (by decide) (fun c_59 => ?_) (fun c_59 => ?_)
            · refine lv_iinc (v := (nI q6_25)) (lv' := [(6, .int (nI q6_25)), (7, .int (nI q7_45 - 1)), (5, .int (nI q5_1 - 1)), (4, .int be_45), (3, .int (nI (dn sn))), (0, .ref (a 0)), (1, .int (nI sn)), (2, .int p1)]) hx hb dX8_leastAll_165 hl (k := 1) rfl (dn_inc _) (by decide) rfl (fun ls hl => ?_)
              refine lv_goto (tgt := 33) hx hb dX8_leastAll_168 (by decide) ?_
              exact ih_25 _ (q6_25 + 1, be_45) _ _ _ (by omega) ⟨rfl, (by omega), hP, hS, (by rw [nI_pred]; exact lv_sub hl [0, 2, 3, 4, 5, 6, 7] rfl)⟩
            · have hqn_60 := dn_lt (n := (dn sn)) (by omega) (by omega) c_59
              refine lv_iconst (v := (-1)) hx hb dX8_leastAll_72 (by decide) ?_
              refine lv_istore (lv' := [(8, .int (-1)), (7, .int (nI q7_45 - 1)), (6, .int (nI q6_25 - 1)), (5, .int (nI q5_1 - 1)), (4, .int be_45), (3, .int (nI (dn sn))), (0, .ref (a 0)), (1, .int (nI sn)), (2, .int p1)]) hx hb dX8_leastAll_73 hl (by decide) rfl (fun ls hl => ?_)
              refine W_loop (σ := Nat × Int32) (fun (n_ : Nat) (x_ : Nat × Int32) (H : Heap) (locs : List Loc) (ls : Array Slot) => match x_ with | (q8_61, be_61) => n_ = 26 - q8_61 ∧ (q8_61 ≤ 25) ∧ va_P D classes [((a 0), .inr (8, (fX8 a (nI tx) fp (nI t0) wd (nI we) nu na (nI rd) ts (nI ru) (nI rw) (nI ca) df db sd))), (aI k (a 1) 3 (nF dn)), (aI k (a 4) 27 (sg se tm gs)), (aI k (a 3) 72 fprices), (aI k (a 36) 4 fwalks)] H ∧ va_S (fun q : Nat => s.heap.size ≤ q) s.heap H locs ∧ lv_has ls 10 [(8, .int (nI q8_61 - 1)), (7, .int (nI q7_45 - 1)), (6, .int (nI q6_25 - 1)), (5, .int (nI q5_1 - 1)), (4, .int be_61), (3, .int (nI (dn sn))), (0, .ref (a 0)), (1, .int (nI sn)), (2, .int p1)]) (fun n_61 x_61 H locs ls hI ih_61 => ?_) _ (0, be_45) ⟨rfl, (by omega), hP, hS, (by rw [dn0]; exact lv_sub hl [0, 1, 2, 3, 4, 5, 6, 7, 8] rfl)⟩
              obtain ⟨q8_61, be_61⟩ := x_61
              obtain ⟨hm_61, hv_61, hP, hS, hl⟩ := hI
              subst hm_61
              refine lv_iload hx hb dX8_leastAll_75 (lv_at hl 0 rfl) ?_
              refine lv_aload_n hx hb dX8_leastAll_77 rfl (lv_at hl 6 rfl) ?_
              refine va_get (D := D) (ci := 8) (v := .int (nI ca)) (C := RX8) (T := TX8) (N := 44) hx hb hts inX8 hown hK hP 0 rfl rfl 34 (by decide) (hts _ tw_1007) (fun _ h9 => h9) rfl dX8_leastAll_78 ?_
              refine lv_iconst (v := 3) hx hb dX8_leastAll_81 (by decide) ?_
              refine lv_icmp_le (tgt := 89) hx hb dX8_leastAll_82 (by decide) (fun c_62 => ?_) (fun c_62 => ?_)
              · have c_62 := (nI_leI (a := ca) (b := 3) (by omega) (by omega)).mp c_62
                refine lv_iconst (v := 0) hx hb dX8_leastAll_89 (by decide) ?_
                refine lv_icmp_ge (tgt := 159) hx hb dX8_leastAll_90 (by decide) (fun c_63 => ?_) (fun c_63 => ?_)
                · refine lv_iinc (v := (nI q7_45)) (lv' := [(7, .int (nI q7_45)), (8, .int (nI q8_61 - 1)), (6, .int (nI q6_25 - 1)), (5, .int (nI q5_1 - 1)), (4, .int be_61), (3, .int (nI (dn sn))), (0, .ref (a 0)), (1, .int (nI sn)), (2, .int p1)]) hx hb dX8_leastAll_159 hl (k := 1) rfl (dn_inc _) (by decide) rfl (fun ls hl => ?_)
                  refine lv_goto (tgt := 54) hx hb dX8_leastAll_162 (by decide) ?_
                  exact ih_45 _ (q7_45 + 1, be_61) _ _ _ (by omega) ⟨rfl, (by omega), hP, hS, (by rw [nI_pred]; exact lv_sub hl [0, 2, 3, 4, 5, 6, 7, 8] rfl)⟩
                · have hqn_64 := dn_lt (n := 0) (by omega) (by omega) c_63
                  refine lv_iload_n hx hb dX8_leastAll_93 rfl (lv_at hl 8 rfl) ?_
                  refine lv_iload hx hb dX8_leastAll_94 (lv_at hl 3 rfl) ?_
                  refine lv_iload hx hb dX8_leastAll_96 (lv_at hl 2 rfl) ?_
                  refine lv_iload hx hb dX8_leastAll_98 (lv_at hl 1 rfl) ?_
                  refine lv_iload hx hb dX8_leastAll_100 (lv_at hl 0 rfl) ?_
                  refine ro_i (D := D) (va_runS (As := [.int p1, .int (nI q5_1 - 1), .int (nI q6_25 - 1), .int (nI q7_45 - 1), .int (nI q8_61 - 1)]) (rest := []) ⟨hx, hb, hml, hown, hts⟩ ((m_canAll l D k st lo p1 (nI q5_1 - 1) (nI q6_25 - 1) (nI q7_45 - 1) (nI q8_61 - 1)) H.size) (va_cwS 5 hts (gS tw_1450 tw_1451 tw_87 tw_1452) rfl rfl rfl (by decide +kernel) ⟨Nat.le_of_ble_eq_true rfl, Nat.le_of_ble_eq_true rfl⟩) (pS hS hAlo hlo hP hK hDL hZ [] (by decide) rfl) rfl rfl hl.1 rfl (lv_room (Nat.le_of_ble_eq_true rfl)) dX8_leastAll_102 ⟨Nat.le_of_ble_eq_true rfl, Nat.le_of_ble_eq_true rfl⟩) hS hA hP (fun r_65 H locs hw_65 hP hS => ?_)
                  try dsimp only at hw_65
                  refine lv_if_eq (tgt := 124) hx hb dX8_leastAll_105 (by decide) (fun c_66 => ?_) (fun c_66 => ?_)
                  · refine lv_iconst (v := (-1)) hx hb dX8_leastAll_124 (by decide) ?_
                    refine lv_istore (lv' := [(9, .int (-1)), (8, .int (nI q8_61 - 1)), (7, .int (nI q7_45 - 1)), (6, .int (nI q6_25 - 1)), (5, .int (nI q5_1 - 1)), (4, .int be_61), (3, .int (nI (dn sn))), (0, .ref (a 0)), (1, .int (nI sn)), (2, .int p1)]) hx hb dX8_leastAll_125 hl (by decide) rfl (fun ls hl => ?_)
                    refine lv_iload hx hb dX8_leastAll_127 (lv_at hl 0 rfl) ?_
                    refine lv_if_lt (tgt := 149) hx hb dX8_leastAll_129 (by decide) (fun _ => ?_) (fun h => absurd (by decide) h)
                    refine lv_iload hx hb dX8_leastAll_149 (lv_at hl 5 rfl) ?_
                    refine lv_istore (lv' := [(4, .int be_61), (9, .int (-1)), (8, .int (nI q8_61 - 1)), (7, .int (nI q7_45 - 1)), (6, .int (nI q6_25 - 1)), (5, .int (nI q5_1 - 1)), (3, .int (nI (dn sn))), (0, .ref (a 0)), (1, .int (nI sn)), (2, .int p1)]) hx hb dX8_leastAll_151 hl (by decide) rfl (fun ls hl => ?_)
                    refine lv_iinc (v := (nI q8_61)) (lv' := [(8, .int (nI q8_61)), (4, .int be_61), (9, .int (-1)), (7, .int (nI q7_45 - 1)), (6, .int (nI q6_25 - 1)), (5, .int (nI q5_1 - 1)), (3, .int (nI (dn sn))), (0, .ref (a 0)), (1, .int (nI sn)), (2, .int p1)]) hx hb dX8_leastAll_153 hl (k := 2) rfl (dn_inc _) (by decide) rfl (fun ls hl => ?_)
                    refine lv_goto (tgt := 75) hx hb dX8_leastAll_156 (by decide) ?_
                    exact ih_61 _ (q8_61 + 1, be_61) _ _ _ (by omega) ⟨rfl, (by omega), hP, hS, (by rw [nI_pred]; exact lv_sub hl [0, 3, 4, 5, 1, 6, 7, 8, 9] rfl)⟩
                  · refine lv_aload_n hx hb dX8_leastAll_108 rfl (lv_at hl 6 rfl) ?_
                    refine lv_iload_n hx hb dX8_leastAll_109 rfl (lv_at hl 7 rfl) ?_
                    refine lv_iload hx hb dX8_leastAll_110 (lv_at hl 3 rfl) ?_
                    refine lv_iload hx hb dX8_leastAll_112 (lv_at hl 2 rfl) ?_
                    refine lv_iload hx hb dX8_leastAll_114 (lv_at hl 1 rfl) ?_
                    refine lv_iload hx hb dX8_leastAll_116 (lv_at hl 0 rfl) ?_
                    refine ro_i (D := D) (va_runV (As := [.int (nI sn), .int (nI q5_1 - 1), .int (nI q6_25 - 1), .int (nI q7_45 - 1), .int (nI q8_61 - 1)]) (rest := []) ⟨hx, hb, hml, hown, hts⟩ ((m_sumAll l D k st lo a tx t0 we rd ru rw ca fp wd nu na ts df db sd dn se tm gs fprices fwalks sn (nI q5_1 - 1) (nI q6_25 - 1) (nI q7_45 - 1) (nI q8_61 - 1) (by first | assumption | omega) (by first | assumption | omega) (dn_hq (by omega)) (dn_hq (by omega)) (dn_hq (by omega)) (dn_hq (by omega))) H.size) (cwV 5 hts (gV tw_1459 tw_1461 tw_75 tw_87 tw_1462) rfl rfl rfl (by decide +kernel) ⟨Nat.le_of_ble_eq_true rfl, Nat.le_of_ble_eq_true rfl⟩) (pV hS hAlo hlo hP hK hDL hZ [0, 1, 2, 3, 4] (by decide) rfl (ci := 8) (q := (RX8, TX8, 44)) (q0 := 0) rfl rfl) rfl rfl hl.1 rfl (lv_room (Nat.le_of_ble_eq_true rfl)) dX8_leastAll_118 ⟨Nat.le_of_ble_eq_true rfl, Nat.le_of_ble_eq_true rfl⟩) hS hA hP (fun r_67 H locs hw_67 hP hS => ?_)
                    try dsimp only at hw_67
                    refine lv_goto (tgt := 125) hx hb dX8_leastAll_121 (by decide) ?_
                    refine lv_istore (lv' := [(9, .int r_67), (8, .int (nI q8_61 - 1)), (7, .int (nI q7_45 - 1)), (6, .int (nI q6_25 - 1)), (5, .int (nI q5_1 - 1)), (4, .int be_61), (3, .int (nI (dn sn))), (0, .ref (a 0)), (1, .int (nI sn)), (2, .int p1)]) hx hb dX8_leastAll_125 hl (by decide) rfl (fun ls hl => ?_)
                    refine lv_iload hx hb dX8_leastAll_127 (lv_at hl 0 rfl) ?_
                    refine lv_if_lt (tgt := 149) hx hb dX8_leastAll_129 (by decide) (fun c_68 => ?_) (fun c_68 => ?_)
                    · refine lv_iload hx hb dX8_leastAll_149 (lv_at hl 5 rfl) ?_
                      refine lv_istore (lv' := [(4, .int be_61), (9, .int r_67), (8, .int (nI q8_61 - 1)), (7, .int (nI q7_45 - 1)), (6, .int (nI q6_25 - 1)), (5, .int (nI q5_1 - 1)), (3, .int (nI (dn sn))), (0, .ref (a 0)), (1, .int (nI sn)), (2, .int p1)]) hx hb dX8_leastAll_151 hl (by decide) rfl (fun ls hl => ?_)
                      refine lv_iinc (v := (nI q8_61)) (lv' := [(8, .int (nI q8_61)), (4, .int be_61), (9, .int r_67), (7, .int (nI q7_45 - 1)), (6, .int (nI q6_25 - 1)), (5, .int (nI q5_1 - 1)), (3, .int (nI (dn sn))), (0, .ref (a 0)), (1, .int (nI sn)), (2, .int p1)]) hx hb dX8_leastAll_153 hl (k := 2) rfl (dn_inc _) (by decide) rfl (fun ls hl => ?_)
                      refine lv_goto (tgt := 75) hx hb dX8_leastAll_156 (by decide) ?_
                      exact ih_61 _ (q8_61 + 1, be_61) _ _ _ (by omega) ⟨rfl, (by omega), hP, hS, (by rw [nI_pred]; exact lv_sub hl [0, 3, 4, 5, 1, 6, 7, 8, 9] rfl)⟩
                    · refine lv_iload hx hb dX8_leastAll_132 (lv_at hl 5 rfl) ?_
                      refine lv_if_lt (tgt := 144) hx hb dX8_leastAll_134 (by decide) (fun c_69 => ?_) (fun c_69 => ?_)
                      · refine lv_iload hx hb dX8_leastAll_144 (lv_at hl 0 rfl) ?_
                        refine lv_goto (tgt := 151) hx hb dX8_leastAll_146 (by decide) ?_
                        refine lv_istore (lv' := [(4, .int r_67), (9, .int r_67), (8, .int (nI q8_61 - 1)), (7, .int (nI q7_45 - 1)), (6, .int (nI q6_25 - 1)), (5, .int (nI q5_1 - 1)), (3, .int (nI (dn sn))), (0, .ref (a 0)), (1, .int (nI sn)), (2, .int p1)]) hx hb dX8_leastAll_151 hl (by decide) rfl (fun ls hl => ?_)
                        refine lv_iinc (v := (nI q8_61)) (lv' := [(8, .int (nI q8_61)), (4, .int r_67), (9, .int r_67), (7, .int (nI q7_45 - 1)), (6, .int (nI q6_25 - 1)), (5, .int (nI q5_1 - 1)), (3, .int (nI (dn sn))), (0, .ref (a 0)), (1, .int (nI sn)), (2, .int p1)]) hx hb dX8_leastAll_153 hl (k := 2) rfl (dn_inc _) (by decide) rfl (fun ls hl => ?_)
                        refine lv_goto (tgt := 75) hx hb dX8_leastAll_156 (by decide) ?_
                        exact ih_61 _ (q8_61 + 1, r_67) _ _ _ (by omega) ⟨rfl, (by omega), hP, hS, (by rw [nI_pred]; exact lv_sub hl [0, 3, 4, 5, 1, 6, 7, 8, 9] rfl)⟩
                      · refine lv_iload hx hb dX8_leastAll_137 (lv_at hl 0 rfl) ?_
                        refine lv_iload hx hb dX8_leastAll_139 (lv_at hl 5 rfl) ?_
                        refine lv_icmp_ge (tgt := 149) hx hb dX8_leastAll_141 (by decide) (fun c_70 => ?_) (fun c_70 => ?_)
                        · refine lv_iload hx hb dX8_leastAll_149 (lv_at hl 5 rfl) ?_
                          refine lv_istore (lv' := [(4, .int be_61), (9, .int r_67), (8, .int (nI q8_61 - 1)), (7, .int (nI q7_45 - 1)), (6, .int (nI q6_25 - 1)), (5, .int (nI q5_1 - 1)), (3, .int (nI (dn sn))), (0, .ref (a 0)), (1, .int (nI sn)), (2, .int p1)]) hx hb dX8_leastAll_151 hl (by decide) rfl (fun ls hl => ?_)
                          refine lv_iinc (v := (nI q8_61)) (lv' := [(8, .int (nI q8_61)), (4, .int be_61), (9, .int r_67), (7, .int (nI q7_45 - 1)), (6, .int (nI q6_25 - 1)), (5, .int (nI q5_1 - 1)), (3, .int (nI (dn sn))), (0, .ref (a 0)), (1, .int (nI sn)), (2, .int p1)]) hx hb dX8_leastAll_153 hl (k := 2) rfl (dn_inc _) (by decide) rfl (fun ls hl => ?_)
                          refine lv_goto (tgt := 75) hx hb dX8_leastAll_156 (by decide) ?_
                          exact ih_61 _ (q8_61 + 1, be_61) _ _ _ (by omega) ⟨rfl, (by omega), hP, hS, (by rw [nI_pred]; exact lv_sub hl [0, 3, 4, 5, 1, 6, 7, 8, 9] rfl)⟩
                        · refine lv_iload hx hb dX8_leastAll_144 (lv_at hl 0 rfl) ?_
                          refine lv_goto (tgt := 151) hx hb dX8_leastAll_146 (by decide) ?_
                          refine lv_istore (lv' := [(4, .int r_67), (9, .int r_67), (8, .int (nI q8_61 - 1)), (7, .int (nI q7_45 - 1)), (6, .int (nI q6_25 - 1)), (5, .int (nI q5_1 - 1)), (3, .int (nI (dn sn))), (0, .ref (a 0)), (1, .int (nI sn)), (2, .int p1)]) hx hb dX8_leastAll_151 hl (by decide) rfl (fun ls hl => ?_)
                          refine lv_iinc (v := (nI q8_61)) (lv' := [(8, .int (nI q8_61)), (4, .int r_67), (9, .int r_67), (7, .int (nI q7_45 - 1)), (6, .int (nI q6_25 - 1)), (5, .int (nI q5_1 - 1)), (3, .int (nI (dn sn))), (0, .ref (a 0)), (1, .int (nI sn)), (2, .int p1)]) hx hb dX8_leastAll_153 hl (k := 2) rfl (dn_inc _) (by decide) rfl (fun ls hl => ?_)
                          refine lv_goto (tgt := 75) hx hb dX8_leastAll_156 (by decide) ?_
                          exact ih_61 _ (q8_61 + 1, r_67) _ _ _ (by omega) ⟨rfl, (by omega), hP, hS, (by rw [nI_pred]; exact lv_sub hl [0, 3, 4, 5, 1, 6, 7, 8, 9] rfl)⟩
              · have c_62 : ¬ (ca ≤ 3) := fun h => c_62 ((nI_leI (a := ca) (b := 3) (by omega) (by omega)).mpr h)
                refine lv_iload_n hx hb dX8_leastAll_85 rfl (lv_at hl 5 rfl) ?_
                refine lv_goto (tgt := 90) hx hb dX8_leastAll_86 (by decide) ?_
                refine lv_icmp_ge (tgt := 159) hx hb dX8_leastAll_90 (by decide) (fun c_71 => ?_) (fun c_71 => ?_)
                · refine lv_iinc (v := (nI q7_45)) (lv' := [(7, .int (nI q7_45)), (8, .int (nI q8_61 - 1)), (6, .int (nI q6_25 - 1)), (5, .int (nI q5_1 - 1)), (4, .int be_61), (3, .int (nI (dn sn))), (0, .ref (a 0)), (1, .int (nI sn)), (2, .int p1)]) hx hb dX8_leastAll_159 hl (k := 1) rfl (dn_inc _) (by decide) rfl (fun ls hl => ?_)
                  refine lv_goto (tgt := 54) hx hb dX8_leastAll_162 (by decide) ?_
                  exact ih_45 _ (q7_45 + 1, be_61) _ _ _ (by omega) ⟨rfl, (by omega), hP, hS, (by rw [nI_pred]; exact lv_sub hl [0, 2, 3, 4, 5, 6, 7, 8] rfl)⟩
                · have hqn_72 := dn_lt (n := (dn sn)) (by omega) (by omega) c_71
                  refine lv_iload_n hx hb dX8_leastAll_93 rfl (lv_at hl 8 rfl) ?_
                  refine lv_iload hx hb dX8_leastAll_94 (lv_at hl 3 rfl) ?_
                  refine lv_iload hx hb dX8_leastAll_96 (lv_at hl 2 rfl) ?_
                  refine lv_iload hx hb dX8_leastAll_98 (lv_at hl 1 rfl) ?_
                  refine lv_iload hx hb dX8_leastAll_100 (lv_at hl 0 rfl) ?_
                  refine ro_i (D := D) (va_runS (As := [.int p1, .int (nI q5_1 - 1), .int (nI q6_25 - 1), .int (nI q7_45 - 1), .int (nI q8_61 - 1)]) (rest := []) ⟨hx, hb, hml, hown, hts⟩ ((m_canAll l D k st lo p1 (nI q5_1 - 1) (nI q6_25 - 1) (nI q7_45 - 1) (nI q8_61 - 1)) H.size) (va_cwS 5 hts (gS tw_1450 tw_1451 tw_87 tw_1452) rfl rfl rfl (by decide +kernel) ⟨Nat.le_of_ble_eq_true rfl, Nat.le_of_ble_eq_true rfl⟩) (pS hS hAlo hlo hP hK hDL hZ [] (by decide) rfl) rfl rfl hl.1 rfl (lv_room (Nat.le_of_ble_eq_true rfl)) dX8_leastAll_102 ⟨Nat.le_of_ble_eq_true rfl, Nat.le_of_ble_eq_true rfl⟩) hS hA hP (fun r_73 H locs hw_73 hP hS => ?_)
                  try dsimp only at hw_73
                  refine lv_if_eq (tgt := 124) hx hb dX8_leastAll_105 (by decide) (fun c_74 => ?_) (fun c_74 => ?_)
                  · refine lv_iconst (v := (-1)) hx hb dX8_leastAll_124 (by decide) ?_
                    refine lv_istore (lv' := [(9, .int (-1)), (8, .int (nI q8_61 - 1)), (7, .int (nI q7_45 - 1)), (6, .int (nI q6_25 - 1)), (5, .int (nI q5_1 - 1)), (4, .int be_61), (3, .int (nI (dn sn))), (0, .ref (a 0)), (1, .int (nI sn)), (2, .int p1)]) hx hb dX8_leastAll_125 hl (by decide) rfl (fun ls hl => ?_)
                    refine lv_iload hx hb dX8_leastAll_127 (lv_at hl 0 rfl) ?_
                    refine lv_if_lt (tgt := 149) hx hb dX8_leastAll_129 (by decide) (fun _ => ?_) (fun h => absurd (by decide) h)
                    refine lv_iload hx hb dX8_leastAll_149 (lv_at hl 5 rfl) ?_
                    refine lv_istore (lv' := [(4, .int be_61), (9, .int (-1)), (8, .int (nI q8_61 - 1)), (7, .int (nI q7_45 - 1)), (6, .int (nI q6_25 - 1)), (5, .int (nI q5_1 - 1)), (3, .int (nI (dn sn))), (0, .ref (a 0)), (1, .int (nI sn)), (2, .int p1)]) hx hb dX8_leastAll_151 hl (by decide) rfl (fun ls hl => ?_)
                    refine lv_iinc (v := (nI q8_61)) (lv' := [(8, .int (nI q8_61)), (4, .int be_61), (9, .int (-1)), (7, .int (nI q7_45 - 1)), (6, .int (nI q6_25 - 1)), (5, .int (nI q5_1 - 1)), (3, .int (nI (dn sn))), (0, .ref (a 0)), (1, .int (nI sn)), (2, .int p1)]) hx hb dX8_leastAll_153 hl (k := 2) rfl (dn_inc _) (by decide) rfl (fun ls hl => ?_)
                    refine lv_goto (tgt := 75) hx hb dX8_leastAll_156 (by decide) ?_
                    exact ih_61 _ (q8_61 + 1, be_61) _ _ _ (by omega) ⟨rfl, (by omega), hP, hS, (by rw [nI_pred]; exact lv_sub hl [0, 3, 4, 5, 1, 6, 7, 8, 9] rfl)⟩
                  · refine lv_aload_n hx hb dX8_leastAll_108 rfl (lv_at hl 6 rfl) ?_
                    refine lv_iload_n hx hb dX8_leastAll_109 rfl (lv_at hl 7 rfl) ?_
                    refine lv_iload hx hb dX8_leastAll_110 (lv_at hl 3 rfl) ?_
                    refine lv_iload hx hb dX8_leastAll_112 (lv_at hl 2 rfl) ?_
                    refine lv_iload hx hb dX8_leastAll_114 (lv_at hl 1 rfl) ?_
                    refine lv_iload hx hb dX8_leastAll_116 (lv_at hl 0 rfl) ?_
                    refine ro_i (D := D) (va_runV (As := [.int (nI sn), .int (nI q5_1 - 1), .int (nI q6_25 - 1), .int (nI q7_45 - 1), .int (nI q8_61 - 1)]) (rest := []) ⟨hx, hb, hml, hown, hts⟩ ((m_sumAll l D k st lo a tx t0 we rd ru rw ca fp wd nu na ts df db sd dn se tm gs fprices fwalks sn (nI q5_1 - 1) (nI q6_25 - 1) (nI q7_45 - 1) (nI q8_61 - 1) (by first | assumption | omega) (by first | assumption | omega) (dn_hq (by omega)) (dn_hq (by omega)) (dn_hq (by omega)) (dn_hq (by omega))) H.size) (cwV 5 hts (gV tw_1459 tw_1461 tw_75 tw_87 tw_1462) rfl rfl rfl (by decide +kernel) ⟨Nat.le_of_ble_eq_true rfl, Nat.le_of_ble_eq_true rfl⟩) (pV hS hAlo hlo hP hK hDL hZ [0, 1, 2, 3, 4] (by decide) rfl (ci := 8) (q := (RX8, TX8, 44)) (q0 := 0) rfl rfl) rfl rfl hl.1 rfl (lv_room (Nat.le_of_ble_eq_true rfl)) dX8_leastAll_118 ⟨Nat.le_of_ble_eq_true rfl, Nat.le_of_ble_eq_true rfl⟩) hS hA hP (fun r_75 H locs hw_75 hP hS => ?_)
                    try dsimp only at hw_75
                    refine lv_goto (tgt := 125) hx hb dX8_leastAll_121 (by decide) ?_
                    refine lv_istore (lv' := [(9, .int r_75), (8, .int (nI q8_61 - 1)), (7, .int (nI q7_45 - 1)), (6, .int (nI q6_25 - 1)), (5, .int (nI q5_1 - 1)), (4, .int be_61), (3, .int (nI (dn sn))), (0, .ref (a 0)), (1, .int (nI sn)), (2, .int p1)]) hx hb dX8_leastAll_125 hl (by decide) rfl (fun ls hl => ?_)
                    refine lv_iload hx hb dX8_leastAll_127 (lv_at hl 0 rfl) ?_
                    refine lv_if_lt (tgt := 149) hx hb dX8_leastAll_129 (by decide) (fun c_76 => ?_) (fun c_76 => ?_)
                    · refine lv_iload hx hb dX8_leastAll_149 (lv_at hl 5 rfl) ?_
                      refine lv_istore (lv' := [(4, .int be_61), (9, .int r_75), (8, .int (nI q8_61 - 1)), (7, .int (nI q7_45 - 1)), (6, .int (nI q6_25 - 1)), (5, .int (nI q5_1 - 1)), (3, .int (nI (dn sn))), (0, .ref (a 0)), (1, .int (nI sn)), (2, .int p1)]) hx hb dX8_leastAll_151 hl (by decide) rfl (fun ls hl => ?_)
                      refine lv_iinc (v := (nI q8_61)) (lv' := [(8, .int (nI q8_61)), (4, .int be_61), (9, .int r_75), (7, .int (nI q7_45 - 1)), (6, .int (nI q6_25 - 1)), (5, .int (nI q5_1 - 1)), (3, .int (nI (dn sn))), (0, .ref (a 0)), (1, .int (nI sn)), (2, .int p1)]) hx hb dX8_leastAll_153 hl (k := 2) rfl (dn_inc _) (by decide) rfl (fun ls hl => ?_)
                      refine lv_goto (tgt := 75) hx hb dX8_leastAll_156 (by decide) ?_
                      exact ih_61 _ (q8_61 + 1, be_61) _ _ _ (by omega) ⟨rfl, (by omega), hP, hS, (by rw [nI_pred]; exact lv_sub hl [0, 3, 4, 5, 1, 6, 7, 8, 9] rfl)⟩
                    · refine lv_iload hx hb dX8_leastAll_132 (lv_at hl 5 rfl) ?_
                      refine lv_if_lt (tgt := 144) hx hb dX8_leastAll_134 (by decide) (fun c_77 => ?_) (fun c_77 => ?_)
                      · refine lv_iload hx hb dX8_leastAll_144 (lv_at hl 0 rfl) ?_
                        refine lv_goto (tgt := 151) hx hb dX8_leastAll_146 (by decide) ?_
                        refine lv_istore (lv' := [(4, .int r_75), (9, .int r_75), (8, .int (nI q8_61 - 1)), (7, .int (nI q7_45 - 1)), (6, .int (nI q6_25 - 1)), (5, .int (nI q5_1 - 1)), (3, .int (nI (dn sn))), (0, .ref (a 0)), (1, .int (nI sn)), (2, .int p1)]) hx hb dX8_leastAll_151 hl (by decide) rfl (fun ls hl => ?_)
                        refine lv_iinc (v := (nI q8_61)) (lv' := [(8, .int (nI q8_61)), (4, .int r_75), (9, .int r_75), (7, .int (nI q7_45 - 1)), (6, .int (nI q6_25 - 1)), (5, .int (nI q5_1 - 1)), (3, .int (nI (dn sn))), (0, .ref (a 0)), (1, .int (nI sn)), (2, .int p1)]) hx hb dX8_leastAll_153 hl (k := 2) rfl (dn_inc _) (by decide) rfl (fun ls hl => ?_)
                        refine lv_goto (tgt := 75) hx hb dX8_leastAll_156 (by decide) ?_
                        exact ih_61 _ (q8_61 + 1, r_75) _ _ _ (by omega) ⟨rfl, (by omega), hP, hS, (by rw [nI_pred]; exact lv_sub hl [0, 3, 4, 5, 1, 6, 7, 8, 9] rfl)⟩
                      · refine lv_iload hx hb dX8_leastAll_137 (lv_at hl 0 rfl) ?_
                        refine lv_iload hx hb dX8_leastAll_139 (lv_at hl 5 rfl) ?_
                        refine lv_icmp_ge (tgt := 149) hx hb dX8_leastAll_141 (by decide) (fun c_78 => ?_) (fun c_78 => ?_)
                        · refine lv_iload hx hb dX8_leastAll_149 (lv_at hl 5 rfl) ?_
                          refine lv_istore (lv' := [(4, .int be_61), (9, .int r_75), (8, .int (nI q8_61 - 1)), (7, .int (nI q7_45 - 1)), (6, .int (nI q6_25 - 1)), (5, .int (nI q5_1 - 1)), (3, .int (nI (dn sn))), (0, .ref (a 0)), (1, .int (nI sn)), (2, .int p1)]) hx hb dX8_leastAll_151 hl (by decide) rfl (fun ls hl => ?_)
                          refine lv_iinc (v := (nI q8_61)) (lv' := [(8, .int (nI q8_61)), (4, .int be_61), (9, .int r_75), (7, .int (nI q7_45 - 1)), (6, .int (nI q6_25 - 1)), (5, .int (nI q5_1 - 1)), (3, .int (nI (dn sn))), (0, .ref (a 0)), (1, .int (nI sn)), (2, .int p1)]) hx hb dX8_leastAll_153 hl (k := 2) rfl (dn_inc _) (by decide) rfl (fun ls hl => ?_)
                          refine lv_goto (tgt := 75) hx hb dX8_leastAll_156 (by decide) ?_
                          exact ih_61 _ (q8_61 + 1, be_61) _ _ _ (by omega) ⟨rfl, (by omega), hP, hS, (by rw [nI_pred]; exact lv_sub hl [0, 3, 4, 5, 1, 6, 7, 8, 9] rfl)⟩
                        · refine lv_iload hx hb dX8_leastAll_144 (lv_at hl 0 rfl) ?_
                          refine lv_goto (tgt := 151) hx hb dX8_leastAll_146 (by decide) ?_
                          refine lv_istore (lv' := [(4, .int r_75), (9, .int r_75), (8, .int (nI q8_61 - 1)), (7, .int (nI q7_45 - 1)), (6, .int (nI q6_25 - 1)), (5, .int (nI q5_1 - 1)), (3, .int (nI (dn sn))), (0, .ref (a 0)), (1, .int (nI sn)), (2, .int p1)]) hx hb dX8_leastAll_151 hl (by decide) rfl (fun ls hl => ?_)
                          refine lv_iinc (v := (nI q8_61)) (lv' := [(8, .int (nI q8_61)), (4, .int r_75), (9, .int r_75), (7, .int (nI q7_45 - 1)), (6, .int (nI q6_25 - 1)), (5, .int (nI q5_1 - 1)), (3, .int (nI (dn sn))), (0, .ref (a 0)), (1, .int (nI sn)), (2, .int p1)]) hx hb dX8_leastAll_153 hl (k := 2) rfl (dn_inc _) (by decide) rfl (fun ls hl => ?_)
                          refine lv_goto (tgt := 75) hx hb dX8_leastAll_156 (by decide) ?_
                          exact ih_61 _ (q8_61 + 1, r_75) _ _ _ (by omega) ⟨rfl, (by omega), hP, hS, (by rw [nI_pred]; exact lv_sub hl [0, 3, 4, 5, 1, 6, 7, 8, 9] rfl)⟩

theorem dX8_lost_0 : decode cX8_lost 0 = .ok (.aload_n 0, 1) := by decide +kernel
theorem dX8_lost_1 : decode cX8_lost 1 = .ok (.iload_n 1, 1) := by decide +kernel
theorem dX8_lost_2 : decode cX8_lost 2 = .ok (.invokevirtual 206, 3) := by decide +kernel
theorem dX8_lost_5 : decode cX8_lost 5 = .ok (.ifCond .ne 7, 3) := by decide +kernel
theorem dX8_lost_8 : decode cX8_lost 8 = .ok (.sipush (-1001), 3) := by decide +kernel
theorem dX8_lost_11 : decode cX8_lost 11 = .ok (.ireturn, 1) := by decide +kernel
theorem dX8_lost_12 : decode cX8_lost 12 = .ok (.aload_n 0, 1) := by decide +kernel
theorem dX8_lost_13 : decode cX8_lost 13 = .ok (.iload_n 1, 1) := by decide +kernel
theorem dX8_lost_14 : decode cX8_lost 14 = .ok (.iload_n 2, 1) := by decide +kernel
theorem dX8_lost_15 : decode cX8_lost 15 = .ok (.invokevirtual 333, 3) := by decide +kernel
theorem dX8_lost_18 : decode cX8_lost 18 = .ok (.ifCond .eq 19, 3) := by decide +kernel
theorem dX8_lost_21 : decode cX8_lost 21 = .ok (.aload_n 0, 1) := by decide +kernel
theorem dX8_lost_22 : decode cX8_lost 22 = .ok (.iload_n 1, 1) := by decide +kernel
theorem dX8_lost_23 : decode cX8_lost 23 = .ok (.iload_n 2, 1) := by decide +kernel
theorem dX8_lost_24 : decode cX8_lost 24 = .ok (.invokevirtual 368, 3) := by decide +kernel
theorem dX8_lost_27 : decode cX8_lost 27 = .ok (.aload_n 0, 1) := by decide +kernel
theorem dX8_lost_28 : decode cX8_lost 28 = .ok (.iload_n 1, 1) := by decide +kernel
theorem dX8_lost_29 : decode cX8_lost 29 = .ok (.iload_n 2, 1) := by decide +kernel
theorem dX8_lost_30 : decode cX8_lost 30 = .ok (.invokevirtual 371, 3) := by decide +kernel
theorem dX8_lost_33 : decode cX8_lost 33 = .ok (.isub, 1) := by decide +kernel
theorem dX8_lost_34 : decode cX8_lost 34 = .ok (.goto 6, 3) := by decide +kernel
theorem dX8_lost_37 : decode cX8_lost 37 = .ok (.sipush (-1002), 3) := by decide +kernel
theorem dX8_lost_40 : decode cX8_lost 40 = .ok (.ireturn, 1) := by decide +kernel
set_option maxHeartbeats 4000000 in
set_option maxRecDepth 100000 in
theorem m_lost (l : Launch) (D : va_G) (k : Nat → ClassId) (st : Nat → Nat) (lo : Nat) (a : Nat → Nat) (tx : Nat) (t0 : Nat) (we : Nat) (rd : Nat) (ru : Nat) (rw : Nat) (ca : Nat) (fp : Int32) (wd : Int64) (nu : Int32) (na : Int32) (ts : Int32) (df : Int32) (db : Int32) (sd : Int32) (dn : Nat → Nat) (se : Nat → Nat) (tm : Nat → Nat) (gs : Nat → Int32) (fprices : Nat → Int32) (fwalks : Nat → Int32) (br : Nat → Nat) (fdoorsOf : Nat → Int32) (p0 : Int32) (p1 : Int32) (hdn : ∀ j, dn j ≤ 24) (hca : ca ≤ 4) (hbr : ∀ j, br j ≤ 24) (hdv : dvOK fdoorsOf) : CWi l D k st lo yX8_lost cX8_lost 3 (some .int) ({ frames := 6, cells := 0, slots := 0, locals := 149 }) 0 0 [.ref (a 0), .int p0, .int p1] [((a 0), .inr (8, (fX8 a (nI tx) fp (nI t0) wd (nI we) nu na (nI rd) ts (nI ru) (nI rw) (nI ca) df db sd))), (aI k (a 1) 3 (nF dn)), (aI k (a 4) 27 (sg se tm gs)), (aI k (a 3) 72 fprices), (aI k (a 36) 4 fwalks), (aI k (a 37) 4 (nF br)), (aI k (a 40) 4 fdoorsOf)] (fun (r : Int32) (fdoorsOf_ : (Nat → Int32)) => dvOK fdoorsOf_) (fun (fdoorsOf_ : (Nat → Int32)) => [((a 0), .inr (8, (fX8 a (nI tx) fp (nI t0) wd (nI we) nu na (nI rd) ts (nI ru) (nI rw) (nI ca) df db sd))), (aI k (a 1) 3 (nF dn)), (aI k (a 4) 27 (sg se tm gs)), (aI k (a 3) 72 fprices), (aI k (a 36) 4 fwalks), (aI k (a 37) 4 (nF br)), (aI k (a 40) 4 fdoorsOf_)]) := by
  intro sz
  refine Met.ofW (cc := cX8_lost) (maxL := 3) (ret := (some .int)) (by decide) rfl ?_
  intro p e s m args below meth c s₁ B hml hv
  obtain ⟨rfl, hsz, hlo, hP, hK, hDL, hZ⟩ := hv
  have hx := B.exec
  have hb := B.bytes
  have hr := B.returns
  have hts := WS_ts B.pre
  have hown : s.vm.findClass RX8 = some m.cls := findClass_of_methodNamed B.named
  have hlocks := B.notSynchronized
  subst hsz
  have hD := hDL.self (sz := s.heap.size)
  have hAlo := A_lo hDL hlo
  generalize hAe : va_A [((a 0), .inr (8, (fX8 a (nI tx) fp (nI t0) wd (nI we) nu na (nI rd) ts (nI ru) (nI rw) (nI ca) df db sd))), (aI k (a 1) 3 (nF dn)), (aI k (a 4) 27 (sg se tm gs)), (aI k (a 3) 72 fprices), (aI k (a 36) 4 fwalks), (aI k (a 37) 4 (nF br)), (aI k (a 40) 4 fdoorsOf)] s.heap.size = A at hD hAlo ⊢
  have hA : ∀ q : Nat, s.heap.size ≤ q → A q := fun q h => by rw [← hAe]; exact Or.inr h
  have hS : va_S A s.heap s.heap [] := va_S.rf
  have hl := lv_entry ([.ref (a 0), .int p0, .int p1]) (n := 3) (Nat.le_of_ble_eq_true rfl)
  rw [lg_entry_eq]
  generalize (lg_sl ([.ref (a 0), .int p0, .int p1]) ++ List.replicate (3 - (lg_sl ([.ref (a 0), .int p0, .int p1])).length) Slot.unset).toArray = ls at hl ⊢
  have hl : lv_has ls 3 [(0, .ref (a 0)), (1, .int p0), (2, .int p1)] := hl
  refine lv_aload_n hx hb dX8_lost_0 rfl (lv_at hl 0 rfl) ?_
  refine lv_iload_n hx hb dX8_lost_1 rfl (lv_at hl 1 rfl) ?_
  refine ro_i (D := D) (va_runV (As := [.int p0]) (rest := []) ⟨hx, hb, hml, hown, hts⟩ ((m_isStreet l D k st lo a tx t0 we rd ru rw ca fp wd nu na ts df db sd dn p0 hdn) s.heap.size) (cwV 1 hts (gV tw_1189 tw_1191 tw_38 tw_87 tw_1192) rfl rfl rfl (by decide +kernel) ⟨Nat.le_of_ble_eq_true rfl, Nat.le_of_ble_eq_true rfl⟩) (pV hS hAlo hlo hP hK (va_Dlo hD hAlo) hZ [0, 1] (by decide) rfl (ci := 8) (q := (RX8, TX8, 44)) (q0 := 0) rfl rfl) rfl rfl hl.1 rfl (lv_room (Nat.le_of_ble_eq_true rfl)) dX8_lost_2 ⟨Nat.le_of_ble_eq_true rfl, Nat.le_of_ble_eq_true rfl⟩) hS hA hP (fun r_1 H locs hw_1 hP hS => ?_)
  try dsimp only at hw_1
  rcases hw_1 with ⟨rfl, j_2, hj_2, rfl, hw_1⟩ | rfl
  · have hdj_2 := hdn j_2
    refine lv_if_ne (tgt := 12) hx hb dX8_lost_5 (by decide) (fun _ => ?_) (fun h => absurd h (by decide))
    refine lv_aload_n hx hb dX8_lost_12 rfl (lv_at hl 0 rfl) ?_
    refine lv_iload_n hx hb dX8_lost_13 rfl (lv_at hl 1 rfl) ?_
    refine lv_iload_n hx hb dX8_lost_14 rfl (lv_at hl 2 rfl) ?_
    refine ro_i (D := D) (va_runV (As := [.int (nI j_2), .int p1]) (rest := []) ⟨hx, hb, hml, hown, hts⟩ ((m_isSet l D k st lo a tx t0 we rd ru rw ca fp wd nu na ts df db sd dn j_2 p1 hdn (by first | assumption | omega)) H.size) (cwV 2 hts (gV tw_1390 tw_1392 tw_64 tw_87 tw_1393) rfl rfl rfl (by decide +kernel) ⟨Nat.le_of_ble_eq_true rfl, Nat.le_of_ble_eq_true rfl⟩) (pV hS hAlo hlo hP hK (va_Dlo hD hAlo) hZ [0, 1] (by decide) rfl (ci := 8) (q := (RX8, TX8, 44)) (q0 := 0) rfl rfl) rfl rfl hl.1 rfl (lv_room (Nat.le_of_ble_eq_true rfl)) dX8_lost_15 ⟨Nat.le_of_ble_eq_true rfl, Nat.le_of_ble_eq_true rfl⟩) hS hA hP (fun r_3 H locs hw_3 hP hS => ?_)
    try dsimp only at hw_3
    refine lv_if_eq (tgt := 37) hx hb dX8_lost_18 (by decide) (fun c_4 => ?_) (fun c_4 => ?_)
    · refine lv_sipush (v := (-1002)) hx hb dX8_lost_37 (by decide) ?_
      obtain ⟨hP9, hD9⟩ := pd_sub [((a 0), .inr (8, (fX8 a (nI tx) fp (nI t0) wd (nI we) nu na (nI rd) ts (nI ru) (nI rw) (nI ca) df db sd))), (aI k (a 1) 3 (nF dn)), (aI k (a 4) 27 (sg se tm gs)), (aI k (a 3) 72 fprices), (aI k (a 36) 4 fwalks), (aI k (a 37) 4 (nF br)), (aI k (a 40) 4 fdoorsOf)] [0, 1, 2, 3, 4, 5, 6] hP hD (by decide) rfl
      exact W.iret (v := (-1002)) hx hb hr (fun t ht hW => ⟨⟨(-1002), fdoorsOf, rfl, hdv, by rw [ht]; exact hP9, hD9⟩, hS.F ht⟩) hS.2.2 dX8_lost_40
    · refine lv_aload_n hx hb dX8_lost_21 rfl (lv_at hl 0 rfl) ?_
      refine lv_iload_n hx hb dX8_lost_22 rfl (lv_at hl 1 rfl) ?_
      refine lv_iload_n hx hb dX8_lost_23 rfl (lv_at hl 2 rfl) ?_
      refine rw_i (D := D) (wr := []) (va_runV (As := [.int (nI j_2), .int p1]) (rest := []) ⟨hx, hb, hml, hown, hts⟩ ((m_allCosts l D k st lo a tx t0 we rd ru rw ca fp wd nu na ts df db sd dn se tm gs fprices fwalks br fdoorsOf j_2 p1 hdn (by first | assumption | omega) hbr (by first | assumption | omega) hdv) H.size) (cwV 2 hts (gV tw_1442 tw_1444 tw_73 tw_87 tw_1445) rfl rfl rfl (by decide +kernel) ⟨Nat.le_of_ble_eq_true rfl, Nat.le_of_ble_eq_true rfl⟩) (pV hS hAlo hlo hP hK (va_Dlo hD hAlo) hZ [0, 1, 2, 3, 4, 5, 6] (by decide) rfl (ci := 8) (q := (RX8, TX8, 44)) (q0 := 0) rfl rfl) rfl rfl hl.1 rfl (lv_room (Nat.le_of_ble_eq_true rfl)) dX8_lost_24 ⟨Nat.le_of_ble_eq_true rfl, Nat.le_of_ble_eq_true rfl⟩) hS hA hP hD [0, 1, 2, 3, 4, 5, 6] [] rfl rfl (by decide) (by decide) (fun r_5 u H locs hw_5 hP hD hS => ?_)
      obtain ⟨fdoorsOf__5, rfl⟩ : ∃ z, z = u := ⟨_, rfl⟩
      have hQ9 := pd_mk [((a 0), .inr (8, (fX8 a (nI tx) fp (nI t0) wd (nI we) nu na (nI rd) ts (nI ru) (nI rw) (nI ca) df db sd))), (aI k (a 1) 3 (nF dn)), (aI k (a 4) 27 (sg se tm gs)), (aI k (a 3) 72 fprices), (aI k (a 36) 4 fwalks), (aI k (a 37) 4 (nF br)), (aI k (a 40) 4 fdoorsOf__5)] hP hD
      clear hP hD
      obtain ⟨hP, hD⟩ := hQ9
      try dsimp only at hw_5
      refine lv_aload_n hx hb dX8_lost_27 rfl (lv_at hl 0 rfl) ?_
      refine lv_iload_n hx hb dX8_lost_28 rfl (lv_at hl 1 rfl) ?_
      refine lv_iload_n hx hb dX8_lost_29 rfl (lv_at hl 2 rfl) ?_
      refine ro_i (D := D) (va_runV (As := [.int (nI j_2), .int p1]) (rest := [.int r_5]) ⟨hx, hb, hml, hown, hts⟩ ((m_leastAll l D k st lo a tx t0 we rd ru rw ca fp wd nu na ts df db sd dn se tm gs fprices fwalks j_2 p1 hdn (by first | assumption | omega) (by first | assumption | omega)) H.size) (cwV 2 hts (gV tw_1446 tw_1448 tw_74 tw_87 tw_1449) rfl rfl rfl (by decide +kernel) ⟨Nat.le_of_ble_eq_true rfl, Nat.le_of_ble_eq_true rfl⟩) (pV hS hAlo hlo hP hK (va_Dlo hD hAlo) hZ [0, 1, 2, 3, 4] (by decide) rfl (ci := 8) (q := (RX8, TX8, 44)) (q0 := 0) rfl rfl) rfl rfl hl.1 rfl (lv_room (Nat.le_of_ble_eq_true rfl)) dX8_lost_30 ⟨Nat.le_of_ble_eq_true rfl, Nat.le_of_ble_eq_true rfl⟩) hS hA hP (fun r_6 H locs hw_6 hP hS => ?_)
      try dsimp only at hw_6
      refine lv_isub hx hb dX8_lost_33 ?_
      refine lv_topi (fun x_7 ex_7 => ?_)
      refine lv_goto (tgt := 40) hx hb dX8_lost_34 (by decide) ?_
      obtain ⟨hP9, hD9⟩ := pd_sub [((a 0), .inr (8, (fX8 a (nI tx) fp (nI t0) wd (nI we) nu na (nI rd) ts (nI ru) (nI rw) (nI ca) df db sd))), (aI k (a 1) 3 (nF dn)), (aI k (a 4) 27 (sg se tm gs)), (aI k (a 3) 72 fprices), (aI k (a 36) 4 fwalks), (aI k (a 37) 4 (nF br)), (aI k (a 40) 4 fdoorsOf__5)] [0, 1, 2, 3, 4, 5, 6] hP hD (by decide) rfl
      exact W.iret (v := x_7) hx hb hr (fun t ht hW => ⟨⟨x_7, fdoorsOf__5, rfl, hw_5, by rw [ht]; exact hP9, hD9⟩, hS.F ht⟩) hS.2.2 dX8_lost_40
  · refine lv_if_ne (tgt := 12) hx hb dX8_lost_5 (by decide) (fun h => absurd (by decide) h) (fun _ => ?_)
    refine lv_sipush (v := (-1001)) hx hb dX8_lost_8 (by decide) ?_
    obtain ⟨hP9, hD9⟩ := pd_sub [((a 0), .inr (8, (fX8 a (nI tx) fp (nI t0) wd (nI we) nu na (nI rd) ts (nI ru) (nI rw) (nI ca) df db sd))), (aI k (a 1) 3 (nF dn)), (aI k (a 4) 27 (sg se tm gs)), (aI k (a 3) 72 fprices), (aI k (a 36) 4 fwalks), (aI k (a 37) 4 (nF br)), (aI k (a 40) 4 fdoorsOf)] [0, 1, 2, 3, 4, 5, 6] hP hD (by decide) rfl
    exact W.iret (v := (-1001)) hx hb hr (fun t ht hW => ⟨⟨(-1001), fdoorsOf, rfl, hdv, by rw [ht]; exact hP9, hD9⟩, hS.F ht⟩) hS.2.2 dX8_lost_11

theorem tw_55 : Cond.selects RX8 yX8_takeRule yX8_takeRule ∈ LW := LWm (i := 55) (by decide +kernel) rfl
theorem tw_56 : Cond.selects RX8 yX8_takeSeen yX8_takeSeen ∈ LW := LWm (i := 56) (by decide +kernel) rfl
theorem tw_1015 : Cond.fieldLink RX8 96 "LastPlaceModel" "isKept" "[Z" ∈ LW := LWm4 (i := 217) (by decide +kernel) rfl
theorem tw_1016 : Cond.fieldLink RX8 99 "LastPlaceModel" "images" "[I" ∈ LW := LWm4 (i := 218) (by decide +kernel) rfl
theorem tw_1309 : Cond.methodLink RX8 282 yX8_takeRule ∈ LW := LWm6 (i := 31) (by decide +kernel) rfl
theorem tw_1311 : Cond.instanceMethod yX8_takeRule ∈ LW := LWm6 (i := 33) (by decide +kernel) rfl
set_option maxRecDepth 100000 in theorem tw_1312 : Cond.code yX8_takeRule cX8_takeRule 5 (some .int) ∈ LW := LWm6 (i := 34) rfl rfl
theorem tw_1313 : Cond.methodLink RX8 279 yX8_takeSeen ∈ LW := LWm6 (i := 35) (by decide +kernel) rfl
theorem tw_1315 : Cond.instanceMethod yX8_takeSeen ∈ LW := LWm6 (i := 37) (by decide +kernel) rfl
set_option maxRecDepth 100000 in theorem tw_1316 : Cond.code yX8_takeSeen cX8_takeSeen 5 (some .int) ∈ LW := LWm6 (i := 38) rfl rfl
theorem m_glue13 : True := trivial
theorem lgc0 {x y : Int64} (h : lg_cmp x y = 0) : x = y :=
  Int64.le_antisymm (Int64.not_lt.mp (fun q => absurd ((lg_cmp_gt x y).mpr q) (by rw [h]; decide))) (Int64.not_lt.mp (fun q => absurd ((lg_cmp_lt x y).mpr q) (by rw [h]; decide)))
/-- a word of fewer than three letters is small -/
def wB (n : Nat) (w : Int64) : Prop := n < 3 → ∃ v : Nat, v < 27 ^ n ∧ w = Int64.ofNat v
abbrev bigW (q : Int64) : Prop := ∀ v, v < 729 → q ≠ Int64.ofNat v
theorem wB0 (t : Nat) : wB (t - t) 0 := fun _ => ⟨0, by rw [Nat.sub_self]; decide, rfl⟩
theorem wB_key : ∀ v, v < 27 → ∀ d, d < 26 → ((27 : Int32).toInt64) * Int64.ofNat v + (nI (97 + d)).toInt64 - ((96 : Int32).toInt64) = Int64.ofNat (27 * v + d + 1) := by decide +kernel
theorem wB_lt {n v : Nat} (hn : n < 2) (h : v < 27 ^ n) : v < 27 ∧ 27 * v + 26 < 27 ^ (n + 1) := by
  rcases (show n = 0 ∨ n = 1 by omega) with rfl | rfl
  · have h2 : v < 1 := h
    exact ⟨by omega, by show 27 * v + 26 < 27; omega⟩
  · have h2 : v < 27 := h
    exact ⟨by omega, by show 27 * v + 26 < 729; omega⟩
theorem wB_step {t e2 : Nat} {w : Int64} {x : Int32} (ht : t ≤ e2) (h : wB (e2 - t) w) (hc : inB x 97 122) : wB (e2 + 1 - t) (((27 : Int32).toInt64) * w + x.toInt64 - ((96 : Int32).toInt64)) := by
  intro hn
  obtain ⟨v, hv, rfl⟩ := h (by omega)
  obtain ⟨j, h1, h2, rfl⟩ := inB_ofc (a := 97) (b := 122) (by omega) (by omega) hc
  obtain ⟨d, rfl⟩ : ∃ d, j = 97 + d := ⟨j - 97, by omega⟩
  have h3 := wB_lt (by omega) hv
  refine ⟨27 * v + d + 1, ?_, wB_key v h3.1 d (by omega)⟩
  have e : e2 + 1 - t = e2 - t + 1 := by omega
  rw [e]
  omega
theorem wB_far_key : ∀ v, v < 27 → lg_cmp (Int64.ofNat v) 1000000000000 ≤ 0 := by decide +kernel
theorem wB_far {t e2 : Nat} {w : Int64} (ht : t ≤ e2) (h : wB (e2 - t) w) (hc : ¬ lg_cmp w 1000000000000 ≤ 0) (y : Int64) : wB (e2 + 1 - t) y := by
  intro hn
  obtain ⟨v, hv, rfl⟩ := h (by omega)
  exact absurd (wB_far_key v (wB_lt (by omega) hv).1) hc
theorem wB_big {n : Nat} {w : Int64} (h : wB n w) (hb : bigW w) : 3 ≤ n := by
  rcases Nat.lt_or_ge n 3 with hn | hn
  · obtain ⟨v, hv, e⟩ := h hn
    have h2 : 27 ^ n ≤ 27 ^ 2 := Nat.pow_le_pow_right (by omega) (by omega)
    exact absurd e (hb v (by have : (27 : Nat) ^ 2 = 729 := rfl; omega))
  · exact hn
/-- what images keep: row's size, cars, bars -/
def imP (k : Nat) (v : Int32) : Prop := (k = 0 → ∃ a : Nat, a ≤ 24 ∧ v = nI a) ∧ (k = 1 → ∃ a : Nat, a ≤ 4 ∧ v = nI a) ∧ (31 ≤ k → ∃ a : Nat, a ≤ 24 ∧ v = nI a)
def imOK (f : Nat → Int32) : Prop := ∀ j, imP (j % 35) (f j)
theorem imOK_upd {f : Nat → Int32} (h : imOK f) (i : Nat) (x : Int32) (hx : imP (i % 35) x) : imOK (upd f i x) := by
  intro j
  unfold upd
  by_cases hj : j = i
  · rw [if_pos hj, hj]
    exact hx
  · rw [if_neg hj]
    exact h j
theorem imOK_0 : imOK (fun _ => 0) := fun _ => ⟨fun _ => ⟨0, by omega, rfl⟩, fun _ => ⟨0, by omega, rfl⟩, fun _ => ⟨0, by omega, rfl⟩⟩

theorem f_m_takeSeen_rows : True := trivial
theorem dX8_takeSeen_0 : decode cX8_takeSeen 0 = .ok (.aload_n 0, 1) := by decide +kernel
theorem dX8_takeSeen_1 : decode cX8_takeSeen 1 = .ok (.bipush 115, 2) := by decide +kernel
theorem dX8_takeSeen_3 : decode cX8_takeSeen 3 = .ok (.bipush 101, 2) := by decide +kernel
theorem dX8_takeSeen_5 : decode cX8_takeSeen 5 = .ok (.bipush 101, 2) := by decide +kernel
theorem dX8_takeSeen_7 : decode cX8_takeSeen 7 = .ok (.invokestatic 148, 3) := by decide +kernel
theorem dX8_takeSeen_10 : decode cX8_takeSeen 10 = .ok (.bipush 110, 2) := by decide +kernel
theorem dX8_takeSeen_12 : decode cX8_takeSeen 12 = .ok (.invokestatic 144, 3) := by decide +kernel
theorem dX8_takeSeen_15 : decode cX8_takeSeen 15 = .ok (.invokevirtual 186, 3) := by decide +kernel
theorem dX8_takeSeen_18 : decode cX8_takeSeen 18 = .ok (.istore_n 3, 1) := by decide +kernel
theorem dX8_takeSeen_19 : decode cX8_takeSeen 19 = .ok (.iload_n 3, 1) := by decide +kernel
theorem dX8_takeSeen_20 : decode cX8_takeSeen 20 = .ok (.ifCond .le 7, 3) := by decide +kernel
theorem dX8_takeSeen_23 : decode cX8_takeSeen 23 = .ok (.iload_n 3, 1) := by decide +kernel
theorem dX8_takeSeen_24 : decode cX8_takeSeen 24 = .ok (.goto 10, 3) := by decide +kernel
theorem dX8_takeSeen_27 : decode cX8_takeSeen 27 = .ok (.aload_n 0, 1) := by decide +kernel
theorem dX8_takeSeen_28 : decode cX8_takeSeen 28 = .ok (.iconst 1, 1) := by decide +kernel
theorem dX8_takeSeen_29 : decode cX8_takeSeen 29 = .ok (.bipush 24, 2) := by decide +kernel
theorem dX8_takeSeen_31 : decode cX8_takeSeen 31 = .ok (.invokevirtual 183, 3) := by decide +kernel
theorem dX8_takeSeen_34 : decode cX8_takeSeen 34 = .ok (.istore_n 3, 1) := by decide +kernel
theorem dX8_takeSeen_35 : decode cX8_takeSeen 35 = .ok (.bipush 12, 2) := by decide +kernel
theorem dX8_takeSeen_37 : decode cX8_takeSeen 37 = .ok (.aload_n 0, 1) := by decide +kernel
theorem dX8_takeSeen_38 : decode cX8_takeSeen 38 = .ok (.getfield 276, 3) := by decide +kernel
theorem dX8_takeSeen_41 : decode cX8_takeSeen 41 = .ok (.imul, 1) := by decide +kernel
theorem dX8_takeSeen_42 : decode cX8_takeSeen 42 = .ok (.aload_n 0, 1) := by decide +kernel
theorem dX8_takeSeen_43 : decode cX8_takeSeen 43 = .ok (.getfield 57, 3) := by decide +kernel
theorem dX8_takeSeen_46 : decode cX8_takeSeen 46 = .ok (.aload_n 0, 1) := by decide +kernel
theorem dX8_takeSeen_47 : decode cX8_takeSeen 47 = .ok (.getfield 276, 3) := by decide +kernel
theorem dX8_takeSeen_50 : decode cX8_takeSeen 50 = .ok (.iaload, 1) := by decide +kernel
theorem dX8_takeSeen_51 : decode cX8_takeSeen 51 = .ok (.iadd, 1) := by decide +kernel
theorem dX8_takeSeen_52 : decode cX8_takeSeen 52 = .ok (.istore 4, 2) := by decide +kernel
theorem dX8_takeSeen_54 : decode cX8_takeSeen 54 = .ok (.iload_n 3, 1) := by decide +kernel
theorem dX8_takeSeen_55 : decode cX8_takeSeen 55 = .ok (.ifCond .ne 29, 3) := by decide +kernel
theorem dX8_takeSeen_58 : decode cX8_takeSeen 58 = .ok (.aload_n 0, 1) := by decide +kernel
theorem dX8_takeSeen_59 : decode cX8_takeSeen 59 = .ok (.getfield 163, 3) := by decide +kernel
theorem dX8_takeSeen_62 : decode cX8_takeSeen 62 = .ok (.aload_n 0, 1) := by decide +kernel
theorem dX8_takeSeen_63 : decode cX8_takeSeen 63 = .ok (.getfield 60, 3) := by decide +kernel
theorem dX8_takeSeen_66 : decode cX8_takeSeen 66 = .ok (.iload 4, 2) := by decide +kernel
theorem dX8_takeSeen_68 : decode cX8_takeSeen 68 = .ok (.iconst 1, 1) := by decide +kernel
theorem dX8_takeSeen_69 : decode cX8_takeSeen 69 = .ok (.isub, 1) := by decide +kernel
theorem dX8_takeSeen_70 : decode cX8_takeSeen 70 = .ok (.iaload, 1) := by decide +kernel
theorem dX8_takeSeen_71 : decode cX8_takeSeen 71 = .ok (.if_icmp .gt 13, 3) := by decide +kernel
theorem dX8_takeSeen_74 : decode cX8_takeSeen 74 = .ok (.aload_n 0, 1) := by decide +kernel
theorem dX8_takeSeen_75 : decode cX8_takeSeen 75 = .ok (.iconst 3, 1) := by decide +kernel
theorem dX8_takeSeen_76 : decode cX8_takeSeen 76 = .ok (.aload_n 0, 1) := by decide +kernel
theorem dX8_takeSeen_77 : decode cX8_takeSeen 77 = .ok (.getfield 170, 3) := by decide +kernel
theorem dX8_takeSeen_80 : decode cX8_takeSeen 80 = .ok (.invokevirtual 159, 3) := by decide +kernel
theorem dX8_takeSeen_83 : decode cX8_takeSeen 83 = .ok (.istore_n 3, 1) := by decide +kernel
theorem dX8_takeSeen_84 : decode cX8_takeSeen 84 = .ok (.iload_n 3, 1) := by decide +kernel
theorem dX8_takeSeen_85 : decode cX8_takeSeen 85 = .ok (.ifCond .le 5, 3) := by decide +kernel
theorem dX8_takeSeen_88 : decode cX8_takeSeen 88 = .ok (.iload_n 3, 1) := by decide +kernel
theorem dX8_takeSeen_89 : decode cX8_takeSeen 89 = .ok (.ireturn, 1) := by decide +kernel
theorem dX8_takeSeen_90 : decode cX8_takeSeen 90 = .ok (.aload_n 0, 1) := by decide +kernel
theorem dX8_takeSeen_91 : decode cX8_takeSeen 91 = .ok (.getfield 60, 3) := by decide +kernel
theorem dX8_takeSeen_94 : decode cX8_takeSeen 94 = .ok (.iload 4, 2) := by decide +kernel
theorem dX8_takeSeen_96 : decode cX8_takeSeen 96 = .ok (.aload_n 0, 1) := by decide +kernel
theorem dX8_takeSeen_97 : decode cX8_takeSeen 97 = .ok (.getfield 163, 3) := by decide +kernel
theorem dX8_takeSeen_100 : decode cX8_takeSeen 100 = .ok (.iastore, 1) := by decide +kernel
theorem dX8_takeSeen_101 : decode cX8_takeSeen 101 = .ok (.aload_n 0, 1) := by decide +kernel
theorem dX8_takeSeen_102 : decode cX8_takeSeen 102 = .ok (.lload_n 1, 1) := by decide +kernel
theorem dX8_takeSeen_103 : decode cX8_takeSeen 103 = .ok (.invokevirtual 186, 3) := by decide +kernel
theorem dX8_takeSeen_106 : decode cX8_takeSeen 106 = .ok (.istore_n 3, 1) := by decide +kernel
theorem dX8_takeSeen_107 : decode cX8_takeSeen 107 = .ok (.iload_n 3, 1) := by decide +kernel
theorem dX8_takeSeen_108 : decode cX8_takeSeen 108 = .ok (.ifCond .le 7, 3) := by decide +kernel
theorem dX8_takeSeen_111 : decode cX8_takeSeen 111 = .ok (.iload_n 3, 1) := by decide +kernel
theorem dX8_takeSeen_112 : decode cX8_takeSeen 112 = .ok (.goto 10, 3) := by decide +kernel
theorem dX8_takeSeen_115 : decode cX8_takeSeen 115 = .ok (.aload_n 0, 1) := by decide +kernel
theorem dX8_takeSeen_116 : decode cX8_takeSeen 116 = .ok (.iconst 0, 1) := by decide +kernel
theorem dX8_takeSeen_117 : decode cX8_takeSeen 117 = .ok (.bipush 24, 2) := by decide +kernel
theorem dX8_takeSeen_119 : decode cX8_takeSeen 119 = .ok (.invokevirtual 183, 3) := by decide +kernel
theorem dX8_takeSeen_122 : decode cX8_takeSeen 122 = .ok (.istore_n 3, 1) := by decide +kernel
theorem dX8_takeSeen_123 : decode cX8_takeSeen 123 = .ok (.aload_n 0, 1) := by decide +kernel
theorem dX8_takeSeen_124 : decode cX8_takeSeen 124 = .ok (.getfield 63, 3) := by decide +kernel
theorem dX8_takeSeen_127 : decode cX8_takeSeen 127 = .ok (.iload 4, 2) := by decide +kernel
theorem dX8_takeSeen_129 : decode cX8_takeSeen 129 = .ok (.aload_n 0, 1) := by decide +kernel
theorem dX8_takeSeen_130 : decode cX8_takeSeen 130 = .ok (.getfield 163, 3) := by decide +kernel
theorem dX8_takeSeen_133 : decode cX8_takeSeen 133 = .ok (.iastore, 1) := by decide +kernel
theorem dX8_takeSeen_134 : decode cX8_takeSeen 134 = .ok (.aload_n 0, 1) := by decide +kernel
theorem dX8_takeSeen_135 : decode cX8_takeSeen 135 = .ok (.getfield 57, 3) := by decide +kernel
theorem dX8_takeSeen_138 : decode cX8_takeSeen 138 = .ok (.aload_n 0, 1) := by decide +kernel
theorem dX8_takeSeen_139 : decode cX8_takeSeen 139 = .ok (.getfield 276, 3) := by decide +kernel
theorem dX8_takeSeen_142 : decode cX8_takeSeen 142 = .ok (.dup2, 1) := by decide +kernel
theorem dX8_takeSeen_143 : decode cX8_takeSeen 143 = .ok (.iaload, 1) := by decide +kernel
theorem dX8_takeSeen_144 : decode cX8_takeSeen 144 = .ok (.iconst 1, 1) := by decide +kernel
theorem dX8_takeSeen_145 : decode cX8_takeSeen 145 = .ok (.iadd, 1) := by decide +kernel
theorem dX8_takeSeen_146 : decode cX8_takeSeen 146 = .ok (.iastore, 1) := by decide +kernel
theorem dX8_takeSeen_147 : decode cX8_takeSeen 147 = .ok (.iload_n 3, 1) := by decide +kernel
theorem dX8_takeSeen_148 : decode cX8_takeSeen 148 = .ok (.ireturn, 1) := by decide +kernel
theorem f_m_takeRule_rows : True := trivial
theorem dX8_takeRule_0 : decode cX8_takeRule 0 = .ok (.bipush 102, 2) := by decide +kernel
theorem dX8_takeRule_2 : decode cX8_takeRule 2 = .ok (.bipush 114, 2) := by decide +kernel
theorem dX8_takeRule_4 : decode cX8_takeRule 4 = .ok (.bipush 111, 2) := by decide +kernel
theorem dX8_takeRule_6 : decode cX8_takeRule 6 = .ok (.invokestatic 148, 3) := by decide +kernel
theorem dX8_takeRule_9 : decode cX8_takeRule 9 = .ok (.bipush 109, 2) := by decide +kernel
theorem dX8_takeRule_11 : decode cX8_takeRule 11 = .ok (.invokestatic 144, 3) := by decide +kernel
theorem dX8_takeRule_14 : decode cX8_takeRule 14 = .ok (.lstore_n 1, 1) := by decide +kernel
theorem dX8_takeRule_15 : decode cX8_takeRule 15 = .ok (.aload_n 0, 1) := by decide +kernel
theorem dX8_takeRule_16 : decode cX8_takeRule 16 = .ok (.lload_n 1, 1) := by decide +kernel
theorem dX8_takeRule_17 : decode cX8_takeRule 17 = .ok (.invokevirtual 186, 3) := by decide +kernel
theorem dX8_takeRule_20 : decode cX8_takeRule 20 = .ok (.istore_n 3, 1) := by decide +kernel
theorem dX8_takeRule_21 : decode cX8_takeRule 21 = .ok (.iload_n 3, 1) := by decide +kernel
theorem dX8_takeRule_22 : decode cX8_takeRule 22 = .ok (.ifCond .le 7, 3) := by decide +kernel
theorem dX8_takeRule_25 : decode cX8_takeRule 25 = .ok (.iload_n 3, 1) := by decide +kernel
theorem dX8_takeRule_26 : decode cX8_takeRule 26 = .ok (.goto 10, 3) := by decide +kernel
theorem dX8_takeRule_29 : decode cX8_takeRule 29 = .ok (.aload_n 0, 1) := by decide +kernel
theorem dX8_takeRule_30 : decode cX8_takeRule 30 = .ok (.iconst 0, 1) := by decide +kernel
theorem dX8_takeRule_31 : decode cX8_takeRule 31 = .ok (.bipush 24, 2) := by decide +kernel
theorem dX8_takeRule_33 : decode cX8_takeRule 33 = .ok (.invokevirtual 183, 3) := by decide +kernel
theorem dX8_takeRule_36 : decode cX8_takeRule 36 = .ok (.istore_n 3, 1) := by decide +kernel
theorem dX8_takeRule_37 : decode cX8_takeRule 37 = .ok (.aload_n 0, 1) := by decide +kernel
theorem dX8_takeRule_38 : decode cX8_takeRule 38 = .ok (.getfield 60, 3) := by decide +kernel
theorem dX8_takeRule_41 : decode cX8_takeRule 41 = .ok (.bipush 12, 2) := by decide +kernel
theorem dX8_takeRule_43 : decode cX8_takeRule 43 = .ok (.aload_n 0, 1) := by decide +kernel
theorem dX8_takeRule_44 : decode cX8_takeRule 44 = .ok (.getfield 276, 3) := by decide +kernel
theorem dX8_takeRule_47 : decode cX8_takeRule 47 = .ok (.imul, 1) := by decide +kernel
theorem dX8_takeRule_48 : decode cX8_takeRule 48 = .ok (.iconst 0, 1) := by decide +kernel
theorem dX8_takeRule_49 : decode cX8_takeRule 49 = .ok (.iastore, 1) := by decide +kernel
theorem dX8_takeRule_50 : decode cX8_takeRule 50 = .ok (.aload_n 0, 1) := by decide +kernel
theorem dX8_takeRule_51 : decode cX8_takeRule 51 = .ok (.getfield 63, 3) := by decide +kernel
theorem dX8_takeRule_54 : decode cX8_takeRule 54 = .ok (.bipush 12, 2) := by decide +kernel
theorem dX8_takeRule_56 : decode cX8_takeRule 56 = .ok (.aload_n 0, 1) := by decide +kernel
theorem dX8_takeRule_57 : decode cX8_takeRule 57 = .ok (.getfield 276, 3) := by decide +kernel
theorem dX8_takeRule_60 : decode cX8_takeRule 60 = .ok (.imul, 1) := by decide +kernel
theorem dX8_takeRule_61 : decode cX8_takeRule 61 = .ok (.aload_n 0, 1) := by decide +kernel
theorem dX8_takeRule_62 : decode cX8_takeRule 62 = .ok (.getfield 163, 3) := by decide +kernel
theorem dX8_takeRule_65 : decode cX8_takeRule 65 = .ok (.iastore, 1) := by decide +kernel
theorem dX8_takeRule_66 : decode cX8_takeRule 66 = .ok (.aload_n 0, 1) := by decide +kernel
theorem dX8_takeRule_67 : decode cX8_takeRule 67 = .ok (.getfield 57, 3) := by decide +kernel
theorem dX8_takeRule_70 : decode cX8_takeRule 70 = .ok (.aload_n 0, 1) := by decide +kernel
theorem dX8_takeRule_71 : decode cX8_takeRule 71 = .ok (.getfield 276, 3) := by decide +kernel
theorem dX8_takeRule_74 : decode cX8_takeRule 74 = .ok (.iconst 1, 1) := by decide +kernel
theorem dX8_takeRule_75 : decode cX8_takeRule 75 = .ok (.iastore, 1) := by decide +kernel
theorem dX8_takeRule_76 : decode cX8_takeRule 76 = .ok (.aload_n 0, 1) := by decide +kernel
theorem dX8_takeRule_77 : decode cX8_takeRule 77 = .ok (.getfield 66, 3) := by decide +kernel
theorem dX8_takeRule_80 : decode cX8_takeRule 80 = .ok (.aload_n 0, 1) := by decide +kernel
theorem dX8_takeRule_81 : decode cX8_takeRule 81 = .ok (.getfield 276, 3) := by decide +kernel
theorem dX8_takeRule_84 : decode cX8_takeRule 84 = .ok (.iconst 0, 1) := by decide +kernel
theorem dX8_takeRule_85 : decode cX8_takeRule 85 = .ok (.iastore, 1) := by decide +kernel
theorem dX8_takeRule_86 : decode cX8_takeRule 86 = .ok (.iload_n 3, 1) := by decide +kernel
theorem dX8_takeRule_87 : decode cX8_takeRule 87 = .ok (.ifCond .ne 14, 3) := by decide +kernel
theorem dX8_takeRule_90 : decode cX8_takeRule 90 = .ok (.aload_n 0, 1) := by decide +kernel
theorem dX8_takeRule_91 : decode cX8_takeRule 91 = .ok (.invokevirtual 121, 3) := by decide +kernel
theorem dX8_takeRule_94 : decode cX8_takeRule 94 = .ok (.ifCond .lt 7, 3) := by decide +kernel
theorem dX8_takeRule_97 : decode cX8_takeRule 97 = .ok (.iconst 1, 1) := by decide +kernel
theorem dX8_takeRule_98 : decode cX8_takeRule 98 = .ok (.goto 4, 3) := by decide +kernel
theorem dX8_takeRule_101 : decode cX8_takeRule 101 = .ok (.iconst 0, 1) := by decide +kernel
theorem dX8_takeRule_102 : decode cX8_takeRule 102 = .ok (.istore 4, 2) := by decide +kernel
theorem dX8_takeRule_104 : decode cX8_takeRule 104 = .ok (.iload 4, 2) := by decide +kernel
theorem dX8_takeRule_106 : decode cX8_takeRule 106 = .ok (.ifCond .eq 92, 3) := by decide +kernel
theorem dX8_takeRule_109 : decode cX8_takeRule 109 = .ok (.aload_n 0, 1) := by decide +kernel
theorem dX8_takeRule_110 : decode cX8_takeRule 110 = .ok (.invokevirtual 156, 3) := by decide +kernel
theorem dX8_takeRule_113 : decode cX8_takeRule 113 = .ok (.aload_n 0, 1) := by decide +kernel
theorem dX8_takeRule_114 : decode cX8_takeRule 114 = .ok (.getfield 125, 3) := by decide +kernel
theorem dX8_takeRule_117 : decode cX8_takeRule 117 = .ok (.bipush 114, 2) := by decide +kernel
theorem dX8_takeRule_119 : decode cX8_takeRule 119 = .ok (.bipush 111, 2) := by decide +kernel
theorem dX8_takeRule_121 : decode cX8_takeRule 121 = .ok (.bipush 117, 2) := by decide +kernel
theorem dX8_takeRule_123 : decode cX8_takeRule 123 = .ok (.invokestatic 148, 3) := by decide +kernel
theorem dX8_takeRule_126 : decode cX8_takeRule 126 = .ok (.bipush 110, 2) := by decide +kernel
theorem dX8_takeRule_128 : decode cX8_takeRule 128 = .ok (.bipush 100, 2) := by decide +kernel
theorem dX8_takeRule_130 : decode cX8_takeRule 130 = .ok (.invokestatic 152, 3) := by decide +kernel
theorem dX8_takeRule_133 : decode cX8_takeRule 133 = .ok (.lcmp, 1) := by decide +kernel
theorem dX8_takeRule_134 : decode cX8_takeRule 134 = .ok (.ifCond .ne 37, 3) := by decide +kernel
theorem dX8_takeRule_137 : decode cX8_takeRule 137 = .ok (.aload_n 0, 1) := by decide +kernel
theorem dX8_takeRule_138 : decode cX8_takeRule 138 = .ok (.aload_n 0, 1) := by decide +kernel
theorem dX8_takeRule_139 : decode cX8_takeRule 139 = .ok (.getfield 129, 3) := by decide +kernel
theorem dX8_takeRule_142 : decode cX8_takeRule 142 = .ok (.putfield 118, 3) := by decide +kernel
theorem dX8_takeRule_145 : decode cX8_takeRule 145 = .ok (.aload_n 0, 1) := by decide +kernel
theorem dX8_takeRule_146 : decode cX8_takeRule 146 = .ok (.iconst 0, 1) := by decide +kernel
theorem dX8_takeRule_147 : decode cX8_takeRule 147 = .ok (.iconst 3, 1) := by decide +kernel
theorem dX8_takeRule_148 : decode cX8_takeRule 148 = .ok (.invokevirtual 183, 3) := by decide +kernel
theorem dX8_takeRule_151 : decode cX8_takeRule 151 = .ok (.istore_n 3, 1) := by decide +kernel
theorem dX8_takeRule_152 : decode cX8_takeRule 152 = .ok (.aload_n 0, 1) := by decide +kernel
theorem dX8_takeRule_153 : decode cX8_takeRule 153 = .ok (.getfield 66, 3) := by decide +kernel
theorem dX8_takeRule_156 : decode cX8_takeRule 156 = .ok (.aload_n 0, 1) := by decide +kernel
theorem dX8_takeRule_157 : decode cX8_takeRule 157 = .ok (.getfield 276, 3) := by decide +kernel
theorem dX8_takeRule_160 : decode cX8_takeRule 160 = .ok (.aload_n 0, 1) := by decide +kernel
theorem dX8_takeRule_161 : decode cX8_takeRule 161 = .ok (.getfield 163, 3) := by decide +kernel
theorem dX8_takeRule_164 : decode cX8_takeRule 164 = .ok (.iastore, 1) := by decide +kernel
theorem dX8_takeRule_165 : decode cX8_takeRule 165 = .ok (.iconst 0, 1) := by decide +kernel
theorem dX8_takeRule_166 : decode cX8_takeRule 166 = .ok (.istore 4, 2) := by decide +kernel
theorem dX8_takeRule_168 : decode cX8_takeRule 168 = .ok (.goto (-64), 3) := by decide +kernel
theorem dX8_takeRule_171 : decode cX8_takeRule 171 = .ok (.aload_n 0, 1) := by decide +kernel
theorem dX8_takeRule_172 : decode cX8_takeRule 172 = .ok (.lload_n 1, 1) := by decide +kernel
theorem dX8_takeRule_173 : decode cX8_takeRule 173 = .ok (.invokevirtual 279, 3) := by decide +kernel
theorem dX8_takeRule_176 : decode cX8_takeRule 176 = .ok (.istore_n 3, 1) := by decide +kernel
theorem dX8_takeRule_177 : decode cX8_takeRule 177 = .ok (.iload_n 3, 1) := by decide +kernel
theorem dX8_takeRule_178 : decode cX8_takeRule 178 = .ok (.ifCond .ne 14, 3) := by decide +kernel
theorem dX8_takeRule_181 : decode cX8_takeRule 181 = .ok (.aload_n 0, 1) := by decide +kernel
theorem dX8_takeRule_182 : decode cX8_takeRule 182 = .ok (.invokevirtual 121, 3) := by decide +kernel
theorem dX8_takeRule_185 : decode cX8_takeRule 185 = .ok (.ifCond .lt 7, 3) := by decide +kernel
theorem dX8_takeRule_188 : decode cX8_takeRule 188 = .ok (.iconst 1, 1) := by decide +kernel
theorem dX8_takeRule_189 : decode cX8_takeRule 189 = .ok (.goto 4, 3) := by decide +kernel
theorem dX8_takeRule_192 : decode cX8_takeRule 192 = .ok (.iconst 0, 1) := by decide +kernel
theorem dX8_takeRule_193 : decode cX8_takeRule 193 = .ok (.istore 4, 2) := by decide +kernel
theorem dX8_takeRule_195 : decode cX8_takeRule 195 = .ok (.goto (-91), 3) := by decide +kernel
theorem dX8_takeRule_198 : decode cX8_takeRule 198 = .ok (.iload_n 3, 1) := by decide +kernel
theorem dX8_takeRule_199 : decode cX8_takeRule 199 = .ok (.ifCond .le 7, 3) := by decide +kernel
theorem dX8_takeRule_202 : decode cX8_takeRule 202 = .ok (.iload_n 3, 1) := by decide +kernel
theorem dX8_takeRule_203 : decode cX8_takeRule 203 = .ok (.goto 23, 3) := by decide +kernel
theorem dX8_takeRule_206 : decode cX8_takeRule 206 = .ok (.aload_n 0, 1) := by decide +kernel
theorem dX8_takeRule_207 : decode cX8_takeRule 207 = .ok (.invokevirtual 121, 3) := by decide +kernel
theorem dX8_takeRule_210 : decode cX8_takeRule 210 = .ok (.ifCond .lt 15, 3) := by decide +kernel
theorem dX8_takeRule_213 : decode cX8_takeRule 213 = .ok (.aload_n 0, 1) := by decide +kernel
theorem dX8_takeRule_214 : decode cX8_takeRule 214 = .ok (.iconst 1, 1) := by decide +kernel
theorem dX8_takeRule_215 : decode cX8_takeRule 215 = .ok (.aload_n 0, 1) := by decide +kernel
theorem dX8_takeRule_216 : decode cX8_takeRule 216 = .ok (.getfield 118, 3) := by decide +kernel
theorem dX8_takeRule_219 : decode cX8_takeRule 219 = .ok (.invokevirtual 159, 3) := by decide +kernel
theorem dX8_takeRule_222 : decode cX8_takeRule 222 = .ok (.goto 4, 3) := by decide +kernel
theorem dX8_takeRule_225 : decode cX8_takeRule 225 = .ok (.iconst 0, 1) := by decide +kernel
theorem dX8_takeRule_226 : decode cX8_takeRule 226 = .ok (.ireturn, 1) := by decide +kernel
theorem f_m_rule_rows : True := trivial
theorem dX8_rule_0 : decode cX8_rule 0 = .ok (.aload_n 0, 1) := by decide +kernel
theorem dX8_rule_1 : decode cX8_rule 1 = .ok (.getfield 113, 3) := by decide +kernel
theorem dX8_rule_4 : decode cX8_rule 4 = .ok (.bipush 80, 2) := by decide +kernel
theorem dX8_rule_6 : decode cX8_rule 6 = .ok (.if_icmp .le 7, 3) := by decide +kernel
theorem dX8_rule_9 : decode cX8_rule 9 = .ok (.sipush (-1003), 3) := by decide +kernel
theorem dX8_rule_12 : decode cX8_rule 12 = .ok (.ireturn, 1) := by decide +kernel
theorem dX8_rule_13 : decode cX8_rule 13 = .ok (.aload_n 0, 1) := by decide +kernel
theorem dX8_rule_14 : decode cX8_rule 14 = .ok (.getfield 276, 3) := by decide +kernel
theorem dX8_rule_17 : decode cX8_rule 17 = .ok (.iconst 4, 1) := by decide +kernel
theorem dX8_rule_18 : decode cX8_rule 18 = .ok (.if_icmp .ne 7, 3) := by decide +kernel
theorem dX8_rule_21 : decode cX8_rule 21 = .ok (.sipush (-1004), 3) := by decide +kernel
theorem dX8_rule_24 : decode cX8_rule 24 = .ok (.ireturn, 1) := by decide +kernel
theorem dX8_rule_25 : decode cX8_rule 25 = .ok (.aload_n 0, 1) := by decide +kernel
theorem dX8_rule_26 : decode cX8_rule 26 = .ok (.iconst (-1), 1) := by decide +kernel
theorem dX8_rule_27 : decode cX8_rule 27 = .ok (.putfield 25, 3) := by decide +kernel
theorem dX8_rule_30 : decode cX8_rule 30 = .ok (.aload_n 0, 1) := by decide +kernel
theorem dX8_rule_31 : decode cX8_rule 31 = .ok (.iconst 0, 1) := by decide +kernel
theorem dX8_rule_32 : decode cX8_rule 32 = .ok (.putfield 118, 3) := by decide +kernel
theorem dX8_rule_35 : decode cX8_rule 35 = .ok (.aload_n 0, 1) := by decide +kernel
theorem dX8_rule_36 : decode cX8_rule 36 = .ok (.invokevirtual 282, 3) := by decide +kernel
theorem dX8_rule_39 : decode cX8_rule 39 = .ok (.istore_n 1, 1) := by decide +kernel
theorem dX8_rule_40 : decode cX8_rule 40 = .ok (.aload_n 0, 1) := by decide +kernel
theorem dX8_rule_41 : decode cX8_rule 41 = .ok (.iconst 0, 1) := by decide +kernel
theorem dX8_rule_42 : decode cX8_rule 42 = .ok (.putfield 113, 3) := by decide +kernel
theorem dX8_rule_45 : decode cX8_rule 45 = .ok (.iload_n 1, 1) := by decide +kernel
theorem dX8_rule_46 : decode cX8_rule 46 = .ok (.ifCond .le 8, 3) := by decide +kernel
theorem dX8_rule_49 : decode cX8_rule 49 = .ok (.bipush (-10), 2) := by decide +kernel
theorem dX8_rule_51 : decode cX8_rule 51 = .ok (.iload_n 1, 1) := by decide +kernel
theorem dX8_rule_52 : decode cX8_rule 52 = .ok (.isub, 1) := by decide +kernel
theorem dX8_rule_53 : decode cX8_rule 53 = .ok (.ireturn, 1) := by decide +kernel
theorem dX8_rule_54 : decode cX8_rule 54 = .ok (.aload_n 0, 1) := by decide +kernel
theorem dX8_rule_55 : decode cX8_rule 55 = .ok (.dup, 1) := by decide +kernel
theorem dX8_rule_56 : decode cX8_rule 56 = .ok (.getfield 276, 3) := by decide +kernel
theorem dX8_rule_59 : decode cX8_rule 59 = .ok (.iconst 1, 1) := by decide +kernel
theorem dX8_rule_60 : decode cX8_rule 60 = .ok (.iadd, 1) := by decide +kernel
theorem dX8_rule_61 : decode cX8_rule 61 = .ok (.putfield 276, 3) := by decide +kernel
theorem dX8_rule_64 : decode cX8_rule 64 = .ok (.aload_n 0, 1) := by decide +kernel
theorem dX8_rule_65 : decode cX8_rule 65 = .ok (.getfield 276, 3) := by decide +kernel
theorem dX8_rule_68 : decode cX8_rule 68 = .ok (.iconst 1, 1) := by decide +kernel
theorem dX8_rule_69 : decode cX8_rule 69 = .ok (.isub, 1) := by decide +kernel
theorem dX8_rule_70 : decode cX8_rule 70 = .ok (.ireturn, 1) := by decide +kernel
theorem f_m_keep_rows : True := trivial
theorem dX8_keep_0 : decode cX8_keep 0 = .ok (.iload_n 1, 1) := by decide +kernel
theorem dX8_keep_1 : decode cX8_keep 1 = .ok (.i2l, 1) := by decide +kernel
theorem dX8_keep_2 : decode cX8_keep 2 = .ok (.lconst 0, 1) := by decide +kernel
theorem dX8_keep_3 : decode cX8_keep 3 = .ok (.lconst 1, 1) := by decide +kernel
theorem dX8_keep_4 : decode cX8_keep 4 = .ok (.invokestatic 107, 3) := by decide +kernel
theorem dX8_keep_7 : decode cX8_keep 7 = .ok (.ifCond .ne 7, 3) := by decide +kernel
theorem dX8_keep_10 : decode cX8_keep 10 = .ok (.sipush (-1001), 3) := by decide +kernel
theorem dX8_keep_13 : decode cX8_keep 13 = .ok (.ireturn, 1) := by decide +kernel
theorem dX8_keep_14 : decode cX8_keep 14 = .ok (.bipush 35, 2) := by decide +kernel
theorem dX8_keep_16 : decode cX8_keep 16 = .ok (.iload_n 1, 1) := by decide +kernel
theorem dX8_keep_17 : decode cX8_keep 17 = .ok (.imul, 1) := by decide +kernel
theorem dX8_keep_18 : decode cX8_keep 18 = .ok (.istore_n 2, 1) := by decide +kernel
theorem dX8_keep_19 : decode cX8_keep 19 = .ok (.aload_n 0, 1) := by decide +kernel
theorem dX8_keep_20 : decode cX8_keep 20 = .ok (.getfield 99, 3) := by decide +kernel
theorem dX8_keep_23 : decode cX8_keep 23 = .ok (.iload_n 2, 1) := by decide +kernel
theorem dX8_keep_24 : decode cX8_keep 24 = .ok (.aload_n 0, 1) := by decide +kernel
theorem dX8_keep_25 : decode cX8_keep 25 = .ok (.getfield 304, 3) := by decide +kernel
theorem dX8_keep_28 : decode cX8_keep 28 = .ok (.iastore, 1) := by decide +kernel
theorem dX8_keep_29 : decode cX8_keep 29 = .ok (.aload_n 0, 1) := by decide +kernel
theorem dX8_keep_30 : decode cX8_keep 30 = .ok (.getfield 99, 3) := by decide +kernel
theorem dX8_keep_33 : decode cX8_keep 33 = .ok (.iload_n 2, 1) := by decide +kernel
theorem dX8_keep_34 : decode cX8_keep 34 = .ok (.iconst 1, 1) := by decide +kernel
theorem dX8_keep_35 : decode cX8_keep 35 = .ok (.iadd, 1) := by decide +kernel
theorem dX8_keep_36 : decode cX8_keep 36 = .ok (.aload_n 0, 1) := by decide +kernel
theorem dX8_keep_37 : decode cX8_keep 37 = .ok (.getfield 315, 3) := by decide +kernel
theorem dX8_keep_40 : decode cX8_keep 40 = .ok (.iastore, 1) := by decide +kernel
theorem dX8_keep_41 : decode cX8_keep 41 = .ok (.aload_n 0, 1) := by decide +kernel
theorem dX8_keep_42 : decode cX8_keep 42 = .ok (.getfield 99, 3) := by decide +kernel
theorem dX8_keep_45 : decode cX8_keep 45 = .ok (.iload_n 2, 1) := by decide +kernel
theorem dX8_keep_46 : decode cX8_keep 46 = .ok (.iconst 2, 1) := by decide +kernel
theorem dX8_keep_47 : decode cX8_keep 47 = .ok (.iadd, 1) := by decide +kernel
theorem dX8_keep_48 : decode cX8_keep 48 = .ok (.aload_n 0, 1) := by decide +kernel
theorem dX8_keep_49 : decode cX8_keep 49 = .ok (.getfield 374, 3) := by decide +kernel
theorem dX8_keep_52 : decode cX8_keep 52 = .ok (.iastore, 1) := by decide +kernel
theorem dX8_keep_53 : decode cX8_keep 53 = .ok (.iconst 0, 1) := by decide +kernel
theorem dX8_keep_54 : decode cX8_keep 54 = .ok (.istore_n 3, 1) := by decide +kernel
theorem dX8_keep_55 : decode cX8_keep 55 = .ok (.iload_n 3, 1) := by decide +kernel
theorem dX8_keep_56 : decode cX8_keep 56 = .ok (.bipush 24, 2) := by decide +kernel
theorem dX8_keep_58 : decode cX8_keep 58 = .ok (.if_icmp .ge 33, 3) := by decide +kernel
theorem dX8_keep_61 : decode cX8_keep 61 = .ok (.aload_n 0, 1) := by decide +kernel
theorem dX8_keep_62 : decode cX8_keep 62 = .ok (.getfield 99, 3) := by decide +kernel
theorem dX8_keep_65 : decode cX8_keep 65 = .ok (.iload_n 2, 1) := by decide +kernel
theorem dX8_keep_66 : decode cX8_keep 66 = .ok (.iconst 3, 1) := by decide +kernel
theorem dX8_keep_67 : decode cX8_keep 67 = .ok (.iadd, 1) := by decide +kernel
theorem dX8_keep_68 : decode cX8_keep 68 = .ok (.iload_n 3, 1) := by decide +kernel
theorem dX8_keep_69 : decode cX8_keep 69 = .ok (.iadd, 1) := by decide +kernel
theorem dX8_keep_70 : decode cX8_keep 70 = .ok (.aload_n 0, 1) := by decide +kernel
theorem dX8_keep_71 : decode cX8_keep 71 = .ok (.getfield 75, 3) := by decide +kernel
theorem dX8_keep_74 : decode cX8_keep 74 = .ok (.iload_n 3, 1) := by decide +kernel
theorem dX8_keep_75 : decode cX8_keep 75 = .ok (.baload, 1) := by decide +kernel
theorem dX8_keep_76 : decode cX8_keep 76 = .ok (.ifCond .eq 7, 3) := by decide +kernel
theorem dX8_keep_79 : decode cX8_keep 79 = .ok (.iconst 1, 1) := by decide +kernel
theorem dX8_keep_80 : decode cX8_keep 80 = .ok (.goto 4, 3) := by decide +kernel
theorem dX8_keep_83 : decode cX8_keep 83 = .ok (.iconst 0, 1) := by decide +kernel
theorem dX8_keep_84 : decode cX8_keep 84 = .ok (.iastore, 1) := by decide +kernel
theorem dX8_keep_85 : decode cX8_keep 85 = .ok (.iinc 3 1, 3) := by decide +kernel
theorem dX8_keep_88 : decode cX8_keep 88 = .ok (.goto (-33), 3) := by decide +kernel
theorem dX8_keep_91 : decode cX8_keep 91 = .ok (.iconst 0, 1) := by decide +kernel
theorem dX8_keep_92 : decode cX8_keep 92 = .ok (.istore_n 3, 1) := by decide +kernel
theorem dX8_keep_93 : decode cX8_keep 93 = .ok (.iload_n 3, 1) := by decide +kernel
theorem dX8_keep_94 : decode cX8_keep 94 = .ok (.iconst 4, 1) := by decide +kernel
theorem dX8_keep_95 : decode cX8_keep 95 = .ok (.if_icmp .ge 43, 3) := by decide +kernel
theorem dX8_keep_98 : decode cX8_keep 98 = .ok (.aload_n 0, 1) := by decide +kernel
theorem dX8_keep_99 : decode cX8_keep 99 = .ok (.getfield 99, 3) := by decide +kernel
theorem dX8_keep_102 : decode cX8_keep 102 = .ok (.iload_n 2, 1) := by decide +kernel
theorem dX8_keep_103 : decode cX8_keep 103 = .ok (.bipush 27, 2) := by decide +kernel
theorem dX8_keep_105 : decode cX8_keep 105 = .ok (.iadd, 1) := by decide +kernel
theorem dX8_keep_106 : decode cX8_keep 106 = .ok (.iload_n 3, 1) := by decide +kernel
theorem dX8_keep_107 : decode cX8_keep 107 = .ok (.iadd, 1) := by decide +kernel
theorem dX8_keep_108 : decode cX8_keep 108 = .ok (.aload_n 0, 1) := by decide +kernel
theorem dX8_keep_109 : decode cX8_keep 109 = .ok (.getfield 84, 3) := by decide +kernel
theorem dX8_keep_112 : decode cX8_keep 112 = .ok (.iload_n 3, 1) := by decide +kernel
theorem dX8_keep_113 : decode cX8_keep 113 = .ok (.iaload, 1) := by decide +kernel
theorem dX8_keep_114 : decode cX8_keep 114 = .ok (.iastore, 1) := by decide +kernel
theorem dX8_keep_115 : decode cX8_keep 115 = .ok (.aload_n 0, 1) := by decide +kernel
theorem dX8_keep_116 : decode cX8_keep 116 = .ok (.getfield 99, 3) := by decide +kernel
theorem dX8_keep_119 : decode cX8_keep 119 = .ok (.iload_n 2, 1) := by decide +kernel
theorem dX8_keep_120 : decode cX8_keep 120 = .ok (.bipush 31, 2) := by decide +kernel
theorem dX8_keep_122 : decode cX8_keep 122 = .ok (.iadd, 1) := by decide +kernel
theorem dX8_keep_123 : decode cX8_keep 123 = .ok (.iload_n 3, 1) := by decide +kernel
theorem dX8_keep_124 : decode cX8_keep 124 = .ok (.iadd, 1) := by decide +kernel
theorem dX8_keep_125 : decode cX8_keep 125 = .ok (.aload_n 0, 1) := by decide +kernel
theorem dX8_keep_126 : decode cX8_keep 126 = .ok (.getfield 87, 3) := by decide +kernel
theorem dX8_keep_129 : decode cX8_keep 129 = .ok (.iload_n 3, 1) := by decide +kernel
theorem dX8_keep_130 : decode cX8_keep 130 = .ok (.iaload, 1) := by decide +kernel
theorem dX8_keep_131 : decode cX8_keep 131 = .ok (.iastore, 1) := by decide +kernel
theorem dX8_keep_132 : decode cX8_keep 132 = .ok (.iinc 3 1, 3) := by decide +kernel
theorem dX8_keep_135 : decode cX8_keep 135 = .ok (.goto (-42), 3) := by decide +kernel
theorem dX8_keep_138 : decode cX8_keep 138 = .ok (.aload_n 0, 1) := by decide +kernel
theorem dX8_keep_139 : decode cX8_keep 139 = .ok (.getfield 96, 3) := by decide +kernel
theorem dX8_keep_142 : decode cX8_keep 142 = .ok (.iload_n 1, 1) := by decide +kernel
theorem dX8_keep_143 : decode cX8_keep 143 = .ok (.iconst 1, 1) := by decide +kernel
theorem dX8_keep_144 : decode cX8_keep 144 = .ok (.bastore, 1) := by decide +kernel
theorem dX8_keep_145 : decode cX8_keep 145 = .ok (.iconst 1, 1) := by decide +kernel
theorem dX8_keep_146 : decode cX8_keep 146 = .ok (.ireturn, 1) := by decide +kernel
theorem f_m_goBack_rows : True := trivial
theorem dX8_goBack_0 : decode cX8_goBack 0 = .ok (.iload_n 1, 1) := by decide +kernel
theorem dX8_goBack_1 : decode cX8_goBack 1 = .ok (.i2l, 1) := by decide +kernel
theorem dX8_goBack_2 : decode cX8_goBack 2 = .ok (.lconst 0, 1) := by decide +kernel
theorem dX8_goBack_3 : decode cX8_goBack 3 = .ok (.lconst 1, 1) := by decide +kernel
theorem dX8_goBack_4 : decode cX8_goBack 4 = .ok (.invokestatic 107, 3) := by decide +kernel
theorem dX8_goBack_7 : decode cX8_goBack 7 = .ok (.ifCond .ne 7, 3) := by decide +kernel
theorem dX8_goBack_10 : decode cX8_goBack 10 = .ok (.sipush (-1001), 3) := by decide +kernel
theorem dX8_goBack_13 : decode cX8_goBack 13 = .ok (.ireturn, 1) := by decide +kernel
theorem dX8_goBack_14 : decode cX8_goBack 14 = .ok (.aload_n 0, 1) := by decide +kernel
theorem dX8_goBack_15 : decode cX8_goBack 15 = .ok (.getfield 96, 3) := by decide +kernel
theorem dX8_goBack_18 : decode cX8_goBack 18 = .ok (.iload_n 1, 1) := by decide +kernel
theorem dX8_goBack_19 : decode cX8_goBack 19 = .ok (.baload, 1) := by decide +kernel
theorem dX8_goBack_20 : decode cX8_goBack 20 = .ok (.ifCond .ne 7, 3) := by decide +kernel
theorem dX8_goBack_23 : decode cX8_goBack 23 = .ok (.sipush (-1003), 3) := by decide +kernel
theorem dX8_goBack_26 : decode cX8_goBack 26 = .ok (.ireturn, 1) := by decide +kernel
theorem dX8_goBack_27 : decode cX8_goBack 27 = .ok (.bipush 35, 2) := by decide +kernel
theorem dX8_goBack_29 : decode cX8_goBack 29 = .ok (.iload_n 1, 1) := by decide +kernel
theorem dX8_goBack_30 : decode cX8_goBack 30 = .ok (.imul, 1) := by decide +kernel
theorem dX8_goBack_31 : decode cX8_goBack 31 = .ok (.istore_n 2, 1) := by decide +kernel
theorem dX8_goBack_32 : decode cX8_goBack 32 = .ok (.aload_n 0, 1) := by decide +kernel
theorem dX8_goBack_33 : decode cX8_goBack 33 = .ok (.aload_n 0, 1) := by decide +kernel
theorem dX8_goBack_34 : decode cX8_goBack 34 = .ok (.getfield 99, 3) := by decide +kernel
theorem dX8_goBack_37 : decode cX8_goBack 37 = .ok (.iload_n 2, 1) := by decide +kernel
theorem dX8_goBack_38 : decode cX8_goBack 38 = .ok (.iaload, 1) := by decide +kernel
theorem dX8_goBack_39 : decode cX8_goBack 39 = .ok (.putfield 304, 3) := by decide +kernel
theorem dX8_goBack_42 : decode cX8_goBack 42 = .ok (.aload_n 0, 1) := by decide +kernel
theorem dX8_goBack_43 : decode cX8_goBack 43 = .ok (.aload_n 0, 1) := by decide +kernel
theorem dX8_goBack_44 : decode cX8_goBack 44 = .ok (.getfield 99, 3) := by decide +kernel
theorem dX8_goBack_47 : decode cX8_goBack 47 = .ok (.iload_n 2, 1) := by decide +kernel
theorem dX8_goBack_48 : decode cX8_goBack 48 = .ok (.iconst 1, 1) := by decide +kernel
theorem dX8_goBack_49 : decode cX8_goBack 49 = .ok (.iadd, 1) := by decide +kernel
theorem dX8_goBack_50 : decode cX8_goBack 50 = .ok (.iaload, 1) := by decide +kernel
theorem dX8_goBack_51 : decode cX8_goBack 51 = .ok (.putfield 315, 3) := by decide +kernel
theorem dX8_goBack_54 : decode cX8_goBack 54 = .ok (.aload_n 0, 1) := by decide +kernel
theorem dX8_goBack_55 : decode cX8_goBack 55 = .ok (.aload_n 0, 1) := by decide +kernel
theorem dX8_goBack_56 : decode cX8_goBack 56 = .ok (.getfield 99, 3) := by decide +kernel
theorem dX8_goBack_59 : decode cX8_goBack 59 = .ok (.iload_n 2, 1) := by decide +kernel
theorem dX8_goBack_60 : decode cX8_goBack 60 = .ok (.iconst 2, 1) := by decide +kernel
theorem dX8_goBack_61 : decode cX8_goBack 61 = .ok (.iadd, 1) := by decide +kernel
theorem dX8_goBack_62 : decode cX8_goBack 62 = .ok (.iaload, 1) := by decide +kernel
theorem dX8_goBack_63 : decode cX8_goBack 63 = .ok (.putfield 374, 3) := by decide +kernel
theorem dX8_goBack_66 : decode cX8_goBack 66 = .ok (.iconst 0, 1) := by decide +kernel
theorem dX8_goBack_67 : decode cX8_goBack 67 = .ok (.istore_n 3, 1) := by decide +kernel
theorem dX8_goBack_68 : decode cX8_goBack 68 = .ok (.iload_n 3, 1) := by decide +kernel
theorem dX8_goBack_69 : decode cX8_goBack 69 = .ok (.bipush 24, 2) := by decide +kernel
theorem dX8_goBack_71 : decode cX8_goBack 71 = .ok (.if_icmp .ge 34, 3) := by decide +kernel
theorem dX8_goBack_74 : decode cX8_goBack 74 = .ok (.aload_n 0, 1) := by decide +kernel
theorem dX8_goBack_75 : decode cX8_goBack 75 = .ok (.getfield 75, 3) := by decide +kernel
theorem dX8_goBack_78 : decode cX8_goBack 78 = .ok (.iload_n 3, 1) := by decide +kernel
theorem dX8_goBack_79 : decode cX8_goBack 79 = .ok (.aload_n 0, 1) := by decide +kernel
theorem dX8_goBack_80 : decode cX8_goBack 80 = .ok (.getfield 99, 3) := by decide +kernel
theorem dX8_goBack_83 : decode cX8_goBack 83 = .ok (.iload_n 2, 1) := by decide +kernel
theorem dX8_goBack_84 : decode cX8_goBack 84 = .ok (.iconst 3, 1) := by decide +kernel
theorem dX8_goBack_85 : decode cX8_goBack 85 = .ok (.iadd, 1) := by decide +kernel
theorem dX8_goBack_86 : decode cX8_goBack 86 = .ok (.iload_n 3, 1) := by decide +kernel
theorem dX8_goBack_87 : decode cX8_goBack 87 = .ok (.iadd, 1) := by decide +kernel
theorem dX8_goBack_88 : decode cX8_goBack 88 = .ok (.iaload, 1) := by decide +kernel
theorem dX8_goBack_89 : decode cX8_goBack 89 = .ok (.iconst 1, 1) := by decide +kernel
theorem dX8_goBack_90 : decode cX8_goBack 90 = .ok (.if_icmp .ne 7, 3) := by decide +kernel
theorem dX8_goBack_93 : decode cX8_goBack 93 = .ok (.iconst 1, 1) := by decide +kernel
theorem dX8_goBack_94 : decode cX8_goBack 94 = .ok (.goto 4, 3) := by decide +kernel
theorem dX8_goBack_97 : decode cX8_goBack 97 = .ok (.iconst 0, 1) := by decide +kernel
theorem dX8_goBack_98 : decode cX8_goBack 98 = .ok (.bastore, 1) := by decide +kernel
theorem dX8_goBack_99 : decode cX8_goBack 99 = .ok (.iinc 3 1, 3) := by decide +kernel
theorem dX8_goBack_102 : decode cX8_goBack 102 = .ok (.goto (-34), 3) := by decide +kernel
theorem dX8_goBack_105 : decode cX8_goBack 105 = .ok (.iconst 0, 1) := by decide +kernel
theorem dX8_goBack_106 : decode cX8_goBack 106 = .ok (.istore_n 3, 1) := by decide +kernel
theorem dX8_goBack_107 : decode cX8_goBack 107 = .ok (.iload_n 3, 1) := by decide +kernel
theorem dX8_goBack_108 : decode cX8_goBack 108 = .ok (.iconst 4, 1) := by decide +kernel
theorem dX8_goBack_109 : decode cX8_goBack 109 = .ok (.if_icmp .ge 43, 3) := by decide +kernel
theorem dX8_goBack_112 : decode cX8_goBack 112 = .ok (.aload_n 0, 1) := by decide +kernel
theorem dX8_goBack_113 : decode cX8_goBack 113 = .ok (.getfield 84, 3) := by decide +kernel
theorem dX8_goBack_116 : decode cX8_goBack 116 = .ok (.iload_n 3, 1) := by decide +kernel
theorem dX8_goBack_117 : decode cX8_goBack 117 = .ok (.aload_n 0, 1) := by decide +kernel
theorem dX8_goBack_118 : decode cX8_goBack 118 = .ok (.getfield 99, 3) := by decide +kernel
theorem dX8_goBack_121 : decode cX8_goBack 121 = .ok (.iload_n 2, 1) := by decide +kernel
theorem dX8_goBack_122 : decode cX8_goBack 122 = .ok (.bipush 27, 2) := by decide +kernel
theorem dX8_goBack_124 : decode cX8_goBack 124 = .ok (.iadd, 1) := by decide +kernel
theorem dX8_goBack_125 : decode cX8_goBack 125 = .ok (.iload_n 3, 1) := by decide +kernel
theorem dX8_goBack_126 : decode cX8_goBack 126 = .ok (.iadd, 1) := by decide +kernel
theorem dX8_goBack_127 : decode cX8_goBack 127 = .ok (.iaload, 1) := by decide +kernel
theorem dX8_goBack_128 : decode cX8_goBack 128 = .ok (.iastore, 1) := by decide +kernel
theorem dX8_goBack_129 : decode cX8_goBack 129 = .ok (.aload_n 0, 1) := by decide +kernel
theorem dX8_goBack_130 : decode cX8_goBack 130 = .ok (.getfield 87, 3) := by decide +kernel
theorem dX8_goBack_133 : decode cX8_goBack 133 = .ok (.iload_n 3, 1) := by decide +kernel
theorem dX8_goBack_134 : decode cX8_goBack 134 = .ok (.aload_n 0, 1) := by decide +kernel
theorem dX8_goBack_135 : decode cX8_goBack 135 = .ok (.getfield 99, 3) := by decide +kernel
theorem dX8_goBack_138 : decode cX8_goBack 138 = .ok (.iload_n 2, 1) := by decide +kernel
theorem dX8_goBack_139 : decode cX8_goBack 139 = .ok (.bipush 31, 2) := by decide +kernel
theorem dX8_goBack_141 : decode cX8_goBack 141 = .ok (.iadd, 1) := by decide +kernel
theorem dX8_goBack_142 : decode cX8_goBack 142 = .ok (.iload_n 3, 1) := by decide +kernel
theorem dX8_goBack_143 : decode cX8_goBack 143 = .ok (.iadd, 1) := by decide +kernel
theorem dX8_goBack_144 : decode cX8_goBack 144 = .ok (.iaload, 1) := by decide +kernel
theorem dX8_goBack_145 : decode cX8_goBack 145 = .ok (.iastore, 1) := by decide +kernel
theorem dX8_goBack_146 : decode cX8_goBack 146 = .ok (.iinc 3 1, 3) := by decide +kernel
theorem dX8_goBack_149 : decode cX8_goBack 149 = .ok (.goto (-42), 3) := by decide +kernel
theorem dX8_goBack_152 : decode cX8_goBack 152 = .ok (.iconst 1, 1) := by decide +kernel
theorem dX8_goBack_153 : decode cX8_goBack 153 = .ok (.ireturn, 1) := by decide +kernel
theorem tw_89 : Cond.initialized RJ0 ∈ LW := LWm1 (i := 11) (by decide +kernel) rfl
theorem tw_90 : Cond.initialized RJ1 ∈ LW := LWm1 (i := 12) (by decide +kernel) rfl
theorem tw_91 : Cond.initialized RJ3 ∈ LW := LWm1 (i := 13) (by decide +kernel) rfl
theorem tw_407 : Cond.methodLink RJ0 335 yJ0_coder_7d493 ∈ LW := LWm2 (i := 89) (by decide +kernel) rfl
theorem tw_408 : Cond.instanceMethod yJ0_coder_7d493 ∈ LW := LWm2 (i := 90) (by decide +kernel) rfl
theorem tw_409 : Cond.selects RJ0 yJ0_coder_7d493 yJ0_coder_7d493 ∈ LW := LWm2 (i := 91) (by decide +kernel) rfl
set_option maxRecDepth 100000 in theorem tw_410 : Cond.code yJ0_coder_7d493 cJ0_coder_7d493 1 (some .byte) ∈ LW := LWm2 (i := 92) rfl rfl
theorem tw_411 : Cond.fieldLink RJ0 38 "java/lang/String" "COMPACT_STRINGS" "Z" ∈ LW := LWm2 (i := 93) (by decide +kernel) rfl
theorem tw_417 : Cond.methodLink RJ0 492 yJ0_isLatin1_aae02 ∈ LW := LWm2 (i := 99) (by decide +kernel) rfl
theorem tw_418 : Cond.instanceMethod yJ0_isLatin1_aae02 ∈ LW := LWm2 (i := 100) (by decide +kernel) rfl
theorem tw_419 : Cond.selects RJ0 yJ0_isLatin1_aae02 yJ0_isLatin1_aae02 ∈ LW := LWm2 (i := 101) (by decide +kernel) rfl
set_option maxRecDepth 100000 in theorem tw_420 : Cond.code yJ0_isLatin1_aae02 cJ0_isLatin1_aae02 1 (some .boolean) ∈ LW := LWm2 (i := 102) rfl rfl
theorem tw_421 : Cond.methodLink RJ0 495 yJ1_charAt_3b067 ∈ LW := LWm2 (i := 103) (by decide +kernel) rfl
theorem tw_422 : Cond.static yJ1_charAt_3b067 ∈ LW := LWm2 (i := 104) (by decide +kernel) rfl
set_option maxRecDepth 100000 in theorem tw_423 : Cond.code yJ1_charAt_3b067 cJ1_charAt_3b067 2 (some .char) ∈ LW := LWm2 (i := 105) rfl rfl
theorem tw_424 : Cond.methodLink RJ1 9 yJ0_checkIndex_df160 ∈ LW := LWm2 (i := 106) (by decide +kernel) rfl
theorem tw_425 : Cond.static yJ0_checkIndex_df160 ∈ LW := LWm2 (i := 107) (by decide +kernel) rfl
set_option maxRecDepth 100000 in theorem tw_426 : Cond.code yJ0_checkIndex_df160 cJ0_checkIndex_df160 2 none ∈ LW := LWm2 (i := 108) rfl rfl
theorem tw_427 : Cond.fieldLink RJ0 1053 "jdk/internal/util/Preconditions" "SIOOBE_FORMATTER" "Ljava/util/function/BiFunction;" ∈ LW := LWm2 (i := 109) (by decide +kernel) rfl
theorem tw_429 : Cond.methodLink RJ0 1059 yJ3_checkIndex_8e157 ∈ LW := LWm2 (i := 111) (by decide +kernel) rfl
theorem tw_430 : Cond.static yJ3_checkIndex_8e157 ∈ LW := LWm2 (i := 112) (by decide +kernel) rfl
set_option maxRecDepth 100000 in theorem tw_431 : Cond.code yJ3_checkIndex_8e157 cJ3_checkIndex_8e157 3 (some .int) ∈ LW := LWm2 (i := 113) rfl rfl
theorem tw_948 : Cond.constant RJ6 265 (1431655765) ∈ LW := LWm4 (i := 150) (by decide +kernel) rfl
theorem tw_949 : Cond.constant RJ6 266 (858993459) ∈ LW := LWm4 (i := 151) (by decide +kernel) rfl
theorem tw_950 : Cond.constant RJ6 267 (252645135) ∈ LW := LWm4 (i := 152) (by decide +kernel) rfl
theorem tw_1502 : Cond.fieldLink RJ0 9 "java/lang/String" "value" "[B" ∈ LW := LWm6 (i := 224) (by decide +kernel) rfl
theorem tw_1503 : Cond.fieldLink RJ0 15 "java/lang/String" "coder" "B" ∈ LW := LWm6 (i := 225) (by decide +kernel) rfl
theorem x_glue1 : True := trivial
/-- a contract of a method that changes nothing and answers a string of the class -/
def CRr (l : Launch) (D : va_G) (k : Nat → ClassId) (st : Nat → Nat) (lo : Nat) (y : MethodName) (cc : ByteArray) (n : Nat) (ret : Option FieldType) (rm : Room) (av : List Value) (ws : va_W) (ra : Nat) : Prop :=
  ∀ sz, Met l y (WS y cc n ret) rm (va_Pc av (Wd D k st lo sz ws)) (va_Qr (fun (_ : Unit) => True) (fun _ q _ => q = ra) (fun q => sz ≤ q)) 0 0 (fun q => sz ≤ q)
section XGL
variable {p : Program} {l : Launch} {e : Env} {R : Room} {s : State} {m : MethodId} {args : Array Value} {below : List Frame} {meth : Method} {c : Code} {H : Heap} {locs : List Loc} {cells slots : Nat} {Q : State → Prop} {pc : Nat} {ls : Array Slot} {rest st0 : List Value}
theorem ro_r {D : va_G} {cl : List vw_C} {ws : va_W} {A0 : Nat → Prop} {H0 : Heap} {a : Array Value} {ra : Nat} (hr : va_Run p l e R s m args below meth c H locs cells slots 0 0 (F0 m pc ls st0) rest (va_Qr (fun (_ : Unit) => True) (fun _ q _ => q = ra) (fun q => H.size ≤ q) a) (fun q => H.size ≤ q)) (hS : va_S A0 H0 H locs) (hA : ∀ q, H0.size ≤ q → A0 q) (hP : va_P D cl ws H)
    (kk : ∀ (H1 : Heap) (locs1 : List Loc), va_P D cl ws H1 → va_S A0 H0 H1 locs1 → W p l e R s m args below meth c H1 locs1 cells slots Q (F0 m (pc + 3) ls (.ref ra :: rest))) : W p l e R s m args below meth c H locs cells slots Q (F0 m pc ls st0) := by
  refine va_callr hr hS (fun q h1 h2 => absurd h2 (Nat.not_le.mpr h1)) (fun q h => hA q (Nat.le_trans hS.1 h)) (fun u r t H1 locs1 ht hvm hw hB hz1 hk1 hS1 => ?_)
  rw [hB]
  exact kk H1 locs1 (hP.kept (fun k q hq => hk1 q.1 ((hP k q hq).lt) (Nat.not_le.mpr ((hP k q hq).lt)))) hS1
end XGL
theorem sLen_le : ∀ i, i < 14 → sLen.getD i 0 ≤ 16 := by decide
theorem shr0 (x : Int32) : x >>> ((0 : Int32) &&& 31) = x := by
  have h : (0 : Int32) &&& 31 = 0 := by decide
  rw [h]
  exact Int32.shiftRight_zero
theorem and255 (x : Int32) : ∃ c : Nat, c < 256 ∧ x &&& 255 = nI c := ⟨x.toBitVec.toNat % 2 ^ 8, Nat.mod_lt _ (by decide), pk_and x 8 (by decide)⟩
/-- a street's values: doors, how far one sees, times round -/
def vv (n see tm : Nat) (g : Nat → Int32) : Nat → Int32 := fun j => if j = 0 then nI n else if j = 6 then nI see else if j = 8 then nI tm else g j
theorem vv_upd (n e t : Nat) (g : Nat → Int32) (i : Nat) (x : Int32) (h0 : i ≠ 0) (h6 : i ≠ 6) (h8 : i ≠ 8) : upd (vv n e t g) i x = vv n e t (upd g i x) := by
  funext j
  unfold upd vv
  by_cases h : j = i
  · subst h
    simp [h0, h6, h8]
  · simp [h]
theorem vv_upd0 (n e t : Nat) (g : Nat → Int32) (a : Nat) : upd (vv n e t g) 0 (nI a) = vv a e t g := by
  funext j
  unfold upd vv
  by_cases h : j = 0 <;> simp [h]
theorem vv_upd6 (n e t : Nat) (g : Nat → Int32) (a : Nat) : upd (vv n e t g) 6 (nI a) = vv n a t g := by
  funext j
  unfold upd vv
  by_cases h : j = 6
  · subst h; simp
  · simp [h]
theorem vv_upd8 (n e t : Nat) (g : Nat → Int32) (a : Nat) : upd (vv n e t g) 8 (nI a) = vv n e a g := by
  funext j
  unfold upd vv
  by_cases h : j = 8
  · subst h; simp
  · simp [h]
theorem vv_cpy (n e t : Nat) (g : Nat → Int32) (n2 e2 t2 : Nat) (g2 : Nat → Int32) : va_cpy (vv n e t g) (vv n2 e2 t2 g2) 0 0 10 = vv n e t (va_cpy g g2 0 0 10) := by
  funext j
  unfold va_cpy vv
  by_cases h : j < 10
  · simp [h]
  · have h0 : j ≠ 0 := by omega
    have h6 : j ≠ 6 := by omega
    have h8 : j ≠ 8 := by omega
    simp [h, h0, h6, h8]
theorem vv_NT : zNT = vv 0 1 0 zNT := by
  funext j
  unfold vv
  by_cases h0 : j = 0
  · subst h0; rfl
  · by_cases h6 : j = 6
    · subst h6; rfl
    · by_cases h8 : j = 8
      · subst h8; rfl
      · simp [h0, h6, h8]
theorem vv_cpN (n2 e2 t2 : Nat) (g2 : Nat → Int32) : va_cpy zNT (vv n2 e2 t2 g2) 0 0 10 = vv 0 1 0 (va_cpy zNT g2 0 0 10) := by
  have h := vv_cpy 0 1 0 zNT n2 e2 t2 g2
  rw [← vv_NT] at h
  exact h
theorem nF_cpy {f g : Nat → Nat} (hf : ∀ j, f j ≤ 24) (hg : ∀ j, g j ≤ 24) : ∃ d : Nat → Nat, va_cpy (nF f) (nF g) 0 0 4 = nF d ∧ ∀ j, d j ≤ 24 := by
  refine ⟨fun j => if j < 4 then f j else g j, ?_, ?_⟩
  · funext j
    unfold va_cpy nF
    by_cases h : j < 4 <;> simp [h]
  · intro j
    show (if j < 4 then f j else g j) ≤ 24
    split
    · exact hf j
    · exact hg j
theorem xspl3 {x : Int32} (h0 : ¬ x < 0) (h1 : ¬ 3 ≤ x) : x = 0 ∨ x = 1 ∨ x = 2 := by
  obtain ⟨j, hj, rfl⟩ := nI_of h0
  have h2 : ¬ 3 ≤ j := fun h => h1 ((nI_leI (a := 3) (b := j) (by omega) hj).mpr h)
  rcases (show j = 0 ∨ j = 1 ∨ j = 2 by omega) with rfl | rfl | rfl
  · exact .inl rfl
  · exact .inr (.inl rfl)
  · exact .inr (.inr rfl)
theorem mk8 {q : Nat} (hq : q ≤ 3) (x : Int32) : ∃ z : Nat, z < 8 ∧ x &&& (nI (2 ^ q) - 1) = nI z := by
  have h : ∀ q, q ≤ 3 → (nI (2 ^ q) - 1 : Int32).toBitVec.toNat = 2 ^ q - 1 := by decide
  refine ⟨x.toBitVec.toNat % 2 ^ q, ?_, pk_and x q (h q hq)⟩
  have h1 := (pw8 hq)
  have h2 : x.toBitVec.toNat % 2 ^ q < 2 ^ q := Nat.mod_lt _ (by omega)
  omega
theorem i2c_nI {z : Nat} (h : z < 256) : ((nI z).toUInt32 % 65536).toInt32 = nI z := by
  have k : ∀ z, z < 256 → ((nI z).toUInt32 % 65536).toInt32 = nI z := by decide +kernel
  exact k z h
theorem nar_ch {z : Nat} (h : z < 256) : narrow .char (.int (nI z)) = .int (nI z) := by
  have k : ∀ z, z < 256 → narrow .char (.int (nI z)) = .int (nI z) := by decide +kernel
  exact k z h
theorem mminN {a b : Nat} (ha : a < 2 ^ 31) (hb : b < 2 ^ 31) : (if nI b < nI a then nI b else nI a) = nI (min a b) := by
  by_cases h : b < a
  · rw [if_pos ((nI_ltI hb ha).mpr h), Nat.min_eq_right (by omega)]
  · rw [if_neg (fun q => h ((nI_ltI hb ha).mp q)), Nat.min_eq_left (by omega)]
theorem mmaxN {a b : Nat} (ha : a < 2 ^ 31) (hb : b < 2 ^ 31) : (if nI a < nI b then nI b else nI a) = nI (max a b) := by
  by_cases h : a < b
  · rw [if_pos ((nI_ltI ha hb).mpr h), Nat.max_eq_right (by omega)]
  · rw [if_neg (fun q => h ((nI_ltI ha hb).mp q)), Nat.max_eq_left (by omega)]
theorem pw16 {k : Nat} (h : k ≤ 4) : 1 ≤ 2 ^ k ∧ 2 ^ k ≤ 16 := by
  rcases (show k = 0 ∨ k = 1 ∨ k = 2 ∨ k = 3 ∨ k = 4 by omega) with rfl | rfl | rfl | rfl | rfl <;> decide

theorem f_x_bitCount_rows : True := trivial
theorem dJ6_bitCount_0f7a4_0 : decode cJ6_bitCount_0f7a4 0 = .ok (.iload_n 0, 1) := by decide +kernel
theorem dJ6_bitCount_0f7a4_1 : decode cJ6_bitCount_0f7a4 1 = .ok (.iload_n 0, 1) := by decide +kernel
theorem dJ6_bitCount_0f7a4_2 : decode cJ6_bitCount_0f7a4 2 = .ok (.iconst 1, 1) := by decide +kernel
theorem dJ6_bitCount_0f7a4_3 : decode cJ6_bitCount_0f7a4 3 = .ok (.iushr, 1) := by decide +kernel
theorem dJ6_bitCount_0f7a4_4 : decode cJ6_bitCount_0f7a4 4 = .ok (.ldc_w 265, 3) := by decide +kernel
theorem dJ6_bitCount_0f7a4_7 : decode cJ6_bitCount_0f7a4 7 = .ok (.iand, 1) := by decide +kernel
theorem dJ6_bitCount_0f7a4_8 : decode cJ6_bitCount_0f7a4 8 = .ok (.isub, 1) := by decide +kernel
theorem dJ6_bitCount_0f7a4_9 : decode cJ6_bitCount_0f7a4 9 = .ok (.istore_n 0, 1) := by decide +kernel
theorem dJ6_bitCount_0f7a4_10 : decode cJ6_bitCount_0f7a4 10 = .ok (.iload_n 0, 1) := by decide +kernel
theorem dJ6_bitCount_0f7a4_11 : decode cJ6_bitCount_0f7a4 11 = .ok (.ldc_w 266, 3) := by decide +kernel
theorem dJ6_bitCount_0f7a4_14 : decode cJ6_bitCount_0f7a4 14 = .ok (.iand, 1) := by decide +kernel
theorem dJ6_bitCount_0f7a4_15 : decode cJ6_bitCount_0f7a4 15 = .ok (.iload_n 0, 1) := by decide +kernel
theorem dJ6_bitCount_0f7a4_16 : decode cJ6_bitCount_0f7a4 16 = .ok (.iconst 2, 1) := by decide +kernel
theorem dJ6_bitCount_0f7a4_17 : decode cJ6_bitCount_0f7a4 17 = .ok (.iushr, 1) := by decide +kernel
theorem dJ6_bitCount_0f7a4_18 : decode cJ6_bitCount_0f7a4 18 = .ok (.ldc_w 266, 3) := by decide +kernel
theorem dJ6_bitCount_0f7a4_21 : decode cJ6_bitCount_0f7a4 21 = .ok (.iand, 1) := by decide +kernel
theorem dJ6_bitCount_0f7a4_22 : decode cJ6_bitCount_0f7a4 22 = .ok (.iadd, 1) := by decide +kernel
theorem dJ6_bitCount_0f7a4_23 : decode cJ6_bitCount_0f7a4 23 = .ok (.istore_n 0, 1) := by decide +kernel
theorem dJ6_bitCount_0f7a4_24 : decode cJ6_bitCount_0f7a4 24 = .ok (.iload_n 0, 1) := by decide +kernel
theorem dJ6_bitCount_0f7a4_25 : decode cJ6_bitCount_0f7a4 25 = .ok (.iload_n 0, 1) := by decide +kernel
theorem dJ6_bitCount_0f7a4_26 : decode cJ6_bitCount_0f7a4 26 = .ok (.iconst 4, 1) := by decide +kernel
theorem dJ6_bitCount_0f7a4_27 : decode cJ6_bitCount_0f7a4 27 = .ok (.iushr, 1) := by decide +kernel
theorem dJ6_bitCount_0f7a4_28 : decode cJ6_bitCount_0f7a4 28 = .ok (.iadd, 1) := by decide +kernel
theorem dJ6_bitCount_0f7a4_29 : decode cJ6_bitCount_0f7a4 29 = .ok (.ldc_w 267, 3) := by decide +kernel
theorem dJ6_bitCount_0f7a4_32 : decode cJ6_bitCount_0f7a4 32 = .ok (.iand, 1) := by decide +kernel
theorem dJ6_bitCount_0f7a4_33 : decode cJ6_bitCount_0f7a4 33 = .ok (.istore_n 0, 1) := by decide +kernel
theorem dJ6_bitCount_0f7a4_34 : decode cJ6_bitCount_0f7a4 34 = .ok (.iload_n 0, 1) := by decide +kernel
theorem dJ6_bitCount_0f7a4_35 : decode cJ6_bitCount_0f7a4 35 = .ok (.iload_n 0, 1) := by decide +kernel
theorem dJ6_bitCount_0f7a4_36 : decode cJ6_bitCount_0f7a4 36 = .ok (.bipush 8, 2) := by decide +kernel
theorem dJ6_bitCount_0f7a4_38 : decode cJ6_bitCount_0f7a4 38 = .ok (.iushr, 1) := by decide +kernel
theorem dJ6_bitCount_0f7a4_39 : decode cJ6_bitCount_0f7a4 39 = .ok (.iadd, 1) := by decide +kernel
theorem dJ6_bitCount_0f7a4_40 : decode cJ6_bitCount_0f7a4 40 = .ok (.istore_n 0, 1) := by decide +kernel
theorem dJ6_bitCount_0f7a4_41 : decode cJ6_bitCount_0f7a4 41 = .ok (.iload_n 0, 1) := by decide +kernel
theorem dJ6_bitCount_0f7a4_42 : decode cJ6_bitCount_0f7a4 42 = .ok (.iload_n 0, 1) := by decide +kernel
theorem dJ6_bitCount_0f7a4_43 : decode cJ6_bitCount_0f7a4 43 = .ok (.bipush 16, 2) := by decide +kernel
theorem dJ6_bitCount_0f7a4_45 : decode cJ6_bitCount_0f7a4 45 = .ok (.iushr, 1) := by decide +kernel
theorem dJ6_bitCount_0f7a4_46 : decode cJ6_bitCount_0f7a4 46 = .ok (.iadd, 1) := by decide +kernel
theorem dJ6_bitCount_0f7a4_47 : decode cJ6_bitCount_0f7a4 47 = .ok (.istore_n 0, 1) := by decide +kernel
theorem dJ6_bitCount_0f7a4_48 : decode cJ6_bitCount_0f7a4 48 = .ok (.iload_n 0, 1) := by decide +kernel
theorem dJ6_bitCount_0f7a4_49 : decode cJ6_bitCount_0f7a4 49 = .ok (.bipush 63, 2) := by decide +kernel
theorem dJ6_bitCount_0f7a4_51 : decode cJ6_bitCount_0f7a4 51 = .ok (.iand, 1) := by decide +kernel
theorem dJ6_bitCount_0f7a4_52 : decode cJ6_bitCount_0f7a4 52 = .ok (.ireturn, 1) := by decide +kernel
theorem dJ0_coder_7d493_0 : decode cJ0_coder_7d493 0 = .ok (.getstatic 38, 3) := by decide +kernel
theorem dJ0_coder_7d493_3 : decode cJ0_coder_7d493 3 = .ok (.ifCond .eq 10, 3) := by decide +kernel
theorem dJ0_coder_7d493_6 : decode cJ0_coder_7d493 6 = .ok (.aload_n 0, 1) := by decide +kernel
theorem dJ0_coder_7d493_7 : decode cJ0_coder_7d493 7 = .ok (.getfield 15, 3) := by decide +kernel
theorem dJ0_coder_7d493_10 : decode cJ0_coder_7d493 10 = .ok (.goto 4, 3) := by decide +kernel
theorem dJ0_coder_7d493_14 : decode cJ0_coder_7d493 14 = .ok (.ireturn, 1) := by decide +kernel
set_option maxHeartbeats 4000000 in
set_option maxRecDepth 100000 in
theorem x_coder (l : Launch) (D : va_G) (k : Nat → ClassId) (st : Nat → Nat) (lo : Nat) (wi : Nat) (hwi : wi < 14) : CRi l D k st lo yJ0_coder_7d493 cJ0_coder_7d493 1 (some .byte) ({ frames := 0, cells := 0, slots := 0, locals := 0 }) [.ref (st (100 + wi))] [] (fun r => r = 0) := by
  intro sz
  refine Met.ofW (cc := cJ0_coder_7d493) (maxL := 1) (ret := (some .byte)) (by decide) rfl ?_
  intro p e s m args below meth c s₁ B hml hv
  obtain ⟨rfl, hsz, hlo, hP, hK, hDL, hZ⟩ := hv
  have hx := B.exec
  have hb := B.bytes
  have hr := B.returns
  have hts := WS_ts B.pre
  have hown : s.vm.findClass RJ0 = some m.cls := findClass_of_methodNamed B.named
  have hlocks := B.notSynchronized
  subst hsz
  have hA : ∀ q : Nat, s.heap.size ≤ q → (fun q : Nat => s.heap.size ≤ q) q := fun _ h => h
  have hAlo : ∀ q : Nat, (fun q : Nat => s.heap.size ≤ q) q → lo ≤ q := fun q h => Nat.le_trans hlo h
  have hS : va_S (fun q : Nat => s.heap.size ≤ q) s.heap s.heap [] := va_S.rf
  have hl := lv_entry ([.ref (st (100 + wi))]) (n := 1) (Nat.le_of_ble_eq_true rfl)
  rw [lg_entry_eq]
  generalize (lg_sl ([.ref (st (100 + wi))]) ++ List.replicate (1 - (lg_sl ([.ref (st (100 + wi))])).length) Slot.unset).toArray = ls at hl ⊢
  have hl : lv_has ls 1 [(0, .ref (st (100 + wi)))] := hl
  refine va_gets (A := (fun q : Nat => s.heap.size ≤ q)) hx hb (hZ.2.2.2.2.2.2.1.narrow hAlo) hS hown (hts _ tw_411) (fun _ h9 => h9) dJ0_coder_7d493_0 ?_
  refine lv_if_eq (tgt := 13) hx hb dJ0_coder_7d493_3 (by decide) (fun h => absurd h (by decide)) (fun _ => ?_)
  refine lv_aload_n hx hb dJ0_coder_7d493_6 rfl (lv_at hl 0 rfl) ?_
  refine vk_getf (A := (fun q : Nat => s.heap.size ≤ q)) hx hb ((hZ.2.2.2.2.2.2.2.2.2.1.1 wi (by omega)).2.1.narrow hAlo) hS hown (hts _ tw_1503) (fun _ h9 => h9) dJ0_coder_7d493_7 ?_
  refine lv_goto (tgt := 14) hx hb dJ0_coder_7d493_10 (by decide) ?_
  exact W.zret (v := 0) (ty := .byte) hx hb hr rfl (fun t ht hW => ⟨⟨0, (), rfl, rfl, trivial⟩, hS.F ht⟩) hS.2.2 dJ0_coder_7d493_14

theorem dJ0_isLatin1_aae02_0 : decode cJ0_isLatin1_aae02 0 = .ok (.getstatic 38, 3) := by decide +kernel
theorem dJ0_isLatin1_aae02_3 : decode cJ0_isLatin1_aae02 3 = .ok (.ifCond .eq 14, 3) := by decide +kernel
theorem dJ0_isLatin1_aae02_6 : decode cJ0_isLatin1_aae02 6 = .ok (.aload_n 0, 1) := by decide +kernel
theorem dJ0_isLatin1_aae02_7 : decode cJ0_isLatin1_aae02 7 = .ok (.getfield 15, 3) := by decide +kernel
theorem dJ0_isLatin1_aae02_10 : decode cJ0_isLatin1_aae02 10 = .ok (.ifCond .ne 7, 3) := by decide +kernel
theorem dJ0_isLatin1_aae02_13 : decode cJ0_isLatin1_aae02 13 = .ok (.iconst 1, 1) := by decide +kernel
theorem dJ0_isLatin1_aae02_14 : decode cJ0_isLatin1_aae02 14 = .ok (.goto 4, 3) := by decide +kernel
theorem dJ0_isLatin1_aae02_18 : decode cJ0_isLatin1_aae02 18 = .ok (.ireturn, 1) := by decide +kernel
set_option maxHeartbeats 4000000 in
set_option maxRecDepth 100000 in
theorem x_isLatin1 (l : Launch) (D : va_G) (k : Nat → ClassId) (st : Nat → Nat) (lo : Nat) (wi : Nat) (hwi : wi < 14) : CRi l D k st lo yJ0_isLatin1_aae02 cJ0_isLatin1_aae02 1 (some .boolean) ({ frames := 0, cells := 0, slots := 0, locals := 0 }) [.ref (st (100 + wi))] [] (fun r => r = 1) := by
  intro sz
  refine Met.ofW (cc := cJ0_isLatin1_aae02) (maxL := 1) (ret := (some .boolean)) (by decide) rfl ?_
  intro p e s m args below meth c s₁ B hml hv
  obtain ⟨rfl, hsz, hlo, hP, hK, hDL, hZ⟩ := hv
  have hx := B.exec
  have hb := B.bytes
  have hr := B.returns
  have hts := WS_ts B.pre
  have hown : s.vm.findClass RJ0 = some m.cls := findClass_of_methodNamed B.named
  have hlocks := B.notSynchronized
  subst hsz
  have hA : ∀ q : Nat, s.heap.size ≤ q → (fun q : Nat => s.heap.size ≤ q) q := fun _ h => h
  have hAlo : ∀ q : Nat, (fun q : Nat => s.heap.size ≤ q) q → lo ≤ q := fun q h => Nat.le_trans hlo h
  have hS : va_S (fun q : Nat => s.heap.size ≤ q) s.heap s.heap [] := va_S.rf
  have hl := lv_entry ([.ref (st (100 + wi))]) (n := 1) (Nat.le_of_ble_eq_true rfl)
  rw [lg_entry_eq]
  generalize (lg_sl ([.ref (st (100 + wi))]) ++ List.replicate (1 - (lg_sl ([.ref (st (100 + wi))])).length) Slot.unset).toArray = ls at hl ⊢
  have hl : lv_has ls 1 [(0, .ref (st (100 + wi)))] := hl
  refine va_gets (A := (fun q : Nat => s.heap.size ≤ q)) hx hb (hZ.2.2.2.2.2.2.1.narrow hAlo) hS hown (hts _ tw_411) (fun _ h9 => h9) dJ0_isLatin1_aae02_0 ?_
  refine lv_if_eq (tgt := 17) hx hb dJ0_isLatin1_aae02_3 (by decide) (fun h => absurd h (by decide)) (fun _ => ?_)
  refine lv_aload_n hx hb dJ0_isLatin1_aae02_6 rfl (lv_at hl 0 rfl) ?_
  refine vk_getf (A := (fun q : Nat => s.heap.size ≤ q)) hx hb ((hZ.2.2.2.2.2.2.2.2.2.1.1 wi (by omega)).2.1.narrow hAlo) hS hown (hts _ tw_1503) (fun _ h9 => h9) dJ0_isLatin1_aae02_7 ?_
  refine lv_if_ne (tgt := 17) hx hb dJ0_isLatin1_aae02_10 (by decide) (fun h => absurd (by decide) h) (fun _ => ?_)
  refine lv_iconst (v := 1) hx hb dJ0_isLatin1_aae02_13 (by decide) ?_
  refine lv_goto (tgt := 18) hx hb dJ0_isLatin1_aae02_14 (by decide) ?_
  exact W.zret (v := 1) (ty := .boolean) hx hb hr rfl (fun t ht hW => ⟨⟨1, (), rfl, rfl, trivial⟩, hS.F ht⟩) hS.2.2 dJ0_isLatin1_aae02_18

theorem dJ0_length_8abf5_0 : decode cJ0_length_8abf5 0 = .ok (.aload_n 0, 1) := by decide +kernel
theorem dJ0_length_8abf5_1 : decode cJ0_length_8abf5 1 = .ok (.getfield 9, 3) := by decide +kernel
theorem dJ0_length_8abf5_4 : decode cJ0_length_8abf5 4 = .ok (.arraylength, 1) := by decide +kernel
theorem dJ0_length_8abf5_5 : decode cJ0_length_8abf5 5 = .ok (.aload_n 0, 1) := by decide +kernel
theorem dJ0_length_8abf5_6 : decode cJ0_length_8abf5 6 = .ok (.invokevirtual 335, 3) := by decide +kernel
theorem dJ0_length_8abf5_9 : decode cJ0_length_8abf5 9 = .ok (.ishr, 1) := by decide +kernel
theorem dJ0_length_8abf5_10 : decode cJ0_length_8abf5 10 = .ok (.ireturn, 1) := by decide +kernel
set_option maxHeartbeats 4000000 in
set_option maxRecDepth 100000 in
theorem x_length (l : Launch) (D : va_G) (k : Nat → ClassId) (st : Nat → Nat) (lo : Nat) (wi : Nat) (hwi : wi < 14) : CRi l D k st lo yJ0_length_8abf5 cJ0_length_8abf5 1 (some .int) ({ frames := 1, cells := 0, slots := 0, locals := 20 }) [.ref (st (100 + wi))] [] (fun r => r = nI (sLen.getD wi 0)) := by
  intro sz
  refine Met.ofW (cc := cJ0_length_8abf5) (maxL := 1) (ret := (some .int)) (by decide) rfl ?_
  intro p e s m args below meth c s₁ B hml hv
  obtain ⟨rfl, hsz, hlo, hP, hK, hDL, hZ⟩ := hv
  have hx := B.exec
  have hb := B.bytes
  have hr := B.returns
  have hts := WS_ts B.pre
  have hown : s.vm.findClass RJ0 = some m.cls := findClass_of_methodNamed B.named
  have hlocks := B.notSynchronized
  subst hsz
  have hA : ∀ q : Nat, s.heap.size ≤ q → (fun q : Nat => s.heap.size ≤ q) q := fun _ h => h
  have hAlo : ∀ q : Nat, (fun q : Nat => s.heap.size ≤ q) q → lo ≤ q := fun q h => Nat.le_trans hlo h
  have hS : va_S (fun q : Nat => s.heap.size ≤ q) s.heap s.heap [] := va_S.rf
  have hl := lv_entry ([.ref (st (100 + wi))]) (n := 1) (Nat.le_of_ble_eq_true rfl)
  rw [lg_entry_eq]
  generalize (lg_sl ([.ref (st (100 + wi))]) ++ List.replicate (1 - (lg_sl ([.ref (st (100 + wi))])).length) Slot.unset).toArray = ls at hl ⊢
  have hl : lv_has ls 1 [(0, .ref (st (100 + wi)))] := hl
  have hsl := sLen_le wi hwi
  refine lv_aload_n hx hb dJ0_length_8abf5_0 rfl (lv_at hl 0 rfl) ?_
  refine vk_getf (A := (fun q : Nat => s.heap.size ≤ q)) hx hb ((hZ.2.2.2.2.2.2.2.2.2.1.1 wi (by omega)).2.2.1.narrow hAlo) hS hown (hts _ tw_1502) (fun _ h9 => h9) dJ0_length_8abf5_1 ?_
  refine va_tlen (A := (fun q : Nat => s.heap.size ≤ q)) hx hb ((hZ.2.2.2.2.2.2.2.2.2.1.1 wi (by omega)).2.2.2.narrow hAlo) hS (v := (nI (sLen.getD wi 0))) rfl dJ0_length_8abf5_4 ?_
  refine lv_aload_n hx hb dJ0_length_8abf5_5 rfl (lv_at hl 0 rfl) ?_
  refine ro_i (D := D) (va_runV (As := []) (rest := [.int (nI (sLen.getD wi 0))]) ⟨hx, hb, hml, hown, hts⟩ ((x_coder l D k st lo wi (by first | assumption | omega)) s.heap.size) (cwV 0 hts (gV tw_407 tw_408 tw_409 tw_89 tw_410) rfl rfl rfl (by decide +kernel) ⟨Nat.le_of_ble_eq_true rfl, Nat.le_of_ble_eq_true rfl⟩) (pVs (i := wi) (by omega) hS hAlo hlo hP hK hDL hZ [] (by decide) rfl) rfl rfl hl.1 rfl (lv_room (Nat.le_of_ble_eq_true rfl)) dJ0_length_8abf5_6 ⟨Nat.le_of_ble_eq_true rfl, Nat.le_of_ble_eq_true rfl⟩) hS hA hP (fun r_1 H locs hw_1 hP hS => ?_)
  try dsimp only at hw_1
  subst hw_1
  refine lv_ishr hx hb dJ0_length_8abf5_9 ?_
  refine lv_ti (y := (nI (sLen.getD wi 0))) (shr0 _) ?_
  exact W.iret (v := (nI (sLen.getD wi 0))) hx hb hr (fun t ht hW => ⟨⟨(nI (sLen.getD wi 0)), (), rfl, rfl, trivial⟩, hS.F ht⟩) hS.2.2 dJ0_length_8abf5_10

theorem dJ3_checkIndex_8e157_0 : decode cJ3_checkIndex_8e157 0 = .ok (.iload_n 0, 1) := by decide +kernel
theorem dJ3_checkIndex_8e157_1 : decode cJ3_checkIndex_8e157 1 = .ok (.ifCond .lt 8, 3) := by decide +kernel
theorem dJ3_checkIndex_8e157_4 : decode cJ3_checkIndex_8e157 4 = .ok (.iload_n 0, 1) := by decide +kernel
theorem dJ3_checkIndex_8e157_5 : decode cJ3_checkIndex_8e157 5 = .ok (.iload_n 1, 1) := by decide +kernel
theorem dJ3_checkIndex_8e157_6 : decode cJ3_checkIndex_8e157 6 = .ok (.if_icmp .lt 10, 3) := by decide +kernel
theorem dJ3_checkIndex_8e157_16 : decode cJ3_checkIndex_8e157 16 = .ok (.iload_n 0, 1) := by decide +kernel
theorem dJ3_checkIndex_8e157_17 : decode cJ3_checkIndex_8e157 17 = .ok (.ireturn, 1) := by decide +kernel
set_option maxHeartbeats 4000000 in
set_option maxRecDepth 100000 in
theorem x_pix_null (l : Launch) (D : va_G) (k : Nat → ClassId) (st : Nat → Nat) (lo : Nat) (i : Nat) (v1 : Nat) (hi : i < v1) (hv1 : v1 < 2 ^ 31) : CRi l D k st lo yJ3_checkIndex_8e157 cJ3_checkIndex_8e157 3 (some .int) ({ frames := 0, cells := 0, slots := 0, locals := 0 }) [.int (nI i), .int (nI v1), .null] [] (fun _ => True) := by
  intro sz
  refine Met.ofW (cc := cJ3_checkIndex_8e157) (maxL := 3) (ret := (some .int)) (by decide) rfl ?_
  intro p e s m args below meth c s₁ B hml hv
  obtain ⟨rfl, hsz, hlo, hP, hK, hDL, hZ⟩ := hv
  have hx := B.exec
  have hb := B.bytes
  have hr := B.returns
  have hts := WS_ts B.pre
  have hown : s.vm.findClass RJ3 = some m.cls := findClass_of_methodNamed B.named
  have hlocks := B.notSynchronized
  subst hsz
  have hA : ∀ q : Nat, s.heap.size ≤ q → (fun q : Nat => s.heap.size ≤ q) q := fun _ h => h
  have hAlo : ∀ q : Nat, (fun q : Nat => s.heap.size ≤ q) q → lo ≤ q := fun q h => Nat.le_trans hlo h
  have hS : va_S (fun q : Nat => s.heap.size ≤ q) s.heap s.heap [] := va_S.rf
  have hl := lv_entry ([.int (nI i), .int (nI v1), .null]) (n := 3) (Nat.le_of_ble_eq_true rfl)
  rw [lg_entry_eq]
  generalize (lg_sl ([.int (nI i), .int (nI v1), .null]) ++ List.replicate (3 - (lg_sl ([.int (nI i), .int (nI v1), .null])).length) Slot.unset).toArray = ls at hl ⊢
  have hl : lv_has ls 3 [(0, .int (nI i)), (1, .int (nI v1)), (2, .null)] := hl
  refine lv_iload_n hx hb dJ3_checkIndex_8e157_0 rfl (lv_at hl 0 rfl) ?_
  refine lv_if_lt (tgt := 9) hx hb dJ3_checkIndex_8e157_1 (by decide) (fun h => absurd h (nI_pos0 (by omega))) (fun _ => ?_)
  refine lv_iload_n hx hb dJ3_checkIndex_8e157_4 rfl (lv_at hl 0 rfl) ?_
  refine lv_iload_n hx hb dJ3_checkIndex_8e157_5 rfl (lv_at hl 1 rfl) ?_
  refine lv_icmp_lt (tgt := 16) hx hb dJ3_checkIndex_8e157_6 (by decide) (fun _ => ?_) (fun h => absurd ((nI_ltI (a := i) (b := v1) (by omega) (by omega)).mpr (by omega)) h)
  refine lv_iload_n hx hb dJ3_checkIndex_8e157_16 rfl (lv_at hl 0 rfl) ?_
  exact W.iret (v := (nI i)) hx hb hr (fun t ht hW => ⟨⟨(nI i), (), rfl, trivial, trivial⟩, hS.F ht⟩) hS.2.2 dJ3_checkIndex_8e157_17


set_option maxHeartbeats 4000000 in
set_option maxRecDepth 100000 in
theorem x_pix_ref (l : Launch) (D : va_G) (k : Nat → ClassId) (st : Nat → Nat) (lo : Nat) (i : Nat) (v1 : Nat) (t9 : Nat) (hi : i < v1) (hv1 : v1 < 2 ^ 31) : CRi l D k st lo yJ3_checkIndex_8e157 cJ3_checkIndex_8e157 3 (some .int) ({ frames := 0, cells := 0, slots := 0, locals := 0 }) [.int (nI i), .int (nI v1), .ref t9] [] (fun _ => True) := by
  intro sz
  refine Met.ofW (cc := cJ3_checkIndex_8e157) (maxL := 3) (ret := (some .int)) (by decide) rfl ?_
  intro p e s m args below meth c s₁ B hml hv
  obtain ⟨rfl, hsz, hlo, hP, hK, hDL, hZ⟩ := hv
  have hx := B.exec
  have hb := B.bytes
  have hr := B.returns
  have hts := WS_ts B.pre
  have hown : s.vm.findClass RJ3 = some m.cls := findClass_of_methodNamed B.named
  have hlocks := B.notSynchronized
  subst hsz
  have hA : ∀ q : Nat, s.heap.size ≤ q → (fun q : Nat => s.heap.size ≤ q) q := fun _ h => h
  have hAlo : ∀ q : Nat, (fun q : Nat => s.heap.size ≤ q) q → lo ≤ q := fun q h => Nat.le_trans hlo h
  have hS : va_S (fun q : Nat => s.heap.size ≤ q) s.heap s.heap [] := va_S.rf
  have hl := lv_entry ([.int (nI i), .int (nI v1), .ref t9]) (n := 3) (Nat.le_of_ble_eq_true rfl)
  rw [lg_entry_eq]
  generalize (lg_sl ([.int (nI i), .int (nI v1), .ref t9]) ++ List.replicate (3 - (lg_sl ([.int (nI i), .int (nI v1), .ref t9])).length) Slot.unset).toArray = ls at hl ⊢
  have hl : lv_has ls 3 [(0, .int (nI i)), (1, .int (nI v1)), (2, .ref t9)] := hl
  refine lv_iload_n hx hb dJ3_checkIndex_8e157_0 rfl (lv_at hl 0 rfl) ?_
  refine lv_if_lt (tgt := 9) hx hb dJ3_checkIndex_8e157_1 (by decide) (fun h => absurd h (nI_pos0 (by omega))) (fun _ => ?_)
  refine lv_iload_n hx hb dJ3_checkIndex_8e157_4 rfl (lv_at hl 0 rfl) ?_
  refine lv_iload_n hx hb dJ3_checkIndex_8e157_5 rfl (lv_at hl 1 rfl) ?_
  refine lv_icmp_lt (tgt := 16) hx hb dJ3_checkIndex_8e157_6 (by decide) (fun _ => ?_) (fun h => absurd ((nI_ltI (a := i) (b := v1) (by omega) (by omega)).mpr (by omega)) h)
  refine lv_iload_n hx hb dJ3_checkIndex_8e157_16 rfl (lv_at hl 0 rfl) ?_
  exact W.iret (v := (nI i)) hx hb hr (fun t ht hW => ⟨⟨(nI i), (), rfl, trivial, trivial⟩, hS.F ht⟩) hS.2.2 dJ3_checkIndex_8e157_17

theorem dJ0_checkIndex_df160_0 : decode cJ0_checkIndex_df160 0 = .ok (.iload_n 0, 1) := by decide +kernel
theorem dJ0_checkIndex_df160_1 : decode cJ0_checkIndex_df160 1 = .ok (.iload_n 1, 1) := by decide +kernel
theorem dJ0_checkIndex_df160_2 : decode cJ0_checkIndex_df160 2 = .ok (.getstatic 1053, 3) := by decide +kernel
theorem dJ0_checkIndex_df160_5 : decode cJ0_checkIndex_df160 5 = .ok (.invokestatic 1059, 3) := by decide +kernel
theorem dJ0_checkIndex_df160_8 : decode cJ0_checkIndex_df160 8 = .ok (.pop, 1) := by decide +kernel
theorem dJ0_checkIndex_df160_9 : decode cJ0_checkIndex_df160 9 = .ok (.return_, 1) := by decide +kernel
set_option maxHeartbeats 4000000 in
set_option maxRecDepth 100000 in
theorem x_six (l : Launch) (D : va_G) (k : Nat → ClassId) (st : Nat → Nat) (lo : Nat) (i : Nat) (v1 : Nat) (hi : i < v1) (hv1 : v1 < 2 ^ 31) : CWv l D k st lo yJ0_checkIndex_df160 cJ0_checkIndex_df160 2 none ({ frames := 1, cells := 0, slots := 0, locals := 22 }) 0 0 [.int (nI i), .int (nI v1)] [] (fun (_ : Unit) => True) (fun (_ : Unit) => []) := by
  intro sz
  refine Met.ofW (cc := cJ0_checkIndex_df160) (maxL := 2) (ret := none) (by decide) rfl ?_
  intro p e s m args below meth c s₁ B hml hv
  obtain ⟨rfl, hsz, hlo, hP, hK, hDL, hZ⟩ := hv
  have hx := B.exec
  have hb := B.bytes
  have hr := B.returns
  have hts := WS_ts B.pre
  have hown : s.vm.findClass RJ0 = some m.cls := findClass_of_methodNamed B.named
  have hlocks := B.notSynchronized
  subst hsz
  have hD := hDL.self (sz := s.heap.size)
  have hAlo := A_lo hDL hlo
  generalize hAe : va_A [] s.heap.size = A at hD hAlo ⊢
  have hA : ∀ q : Nat, s.heap.size ≤ q → A q := fun q h => by rw [← hAe]; exact Or.inr h
  have hS : va_S A s.heap s.heap [] := va_S.rf
  have hl := lv_entry ([.int (nI i), .int (nI v1)]) (n := 2) (Nat.le_of_ble_eq_true rfl)
  rw [lg_entry_eq]
  generalize (lg_sl ([.int (nI i), .int (nI v1)]) ++ List.replicate (2 - (lg_sl ([.int (nI i), .int (nI v1)])).length) Slot.unset).toArray = ls at hl ⊢
  have hl : lv_has ls 2 [(0, .int (nI i)), (1, .int (nI v1))] := hl
  refine lv_iload_n hx hb dJ0_checkIndex_df160_0 rfl (lv_at hl 0 rfl) ?_
  refine lv_iload_n hx hb dJ0_checkIndex_df160_1 rfl (lv_at hl 1 rfl) ?_
  rcases hZ.2.2.2.2.2.2.2.1 with hF | ⟨tF, hF⟩
  · refine va_gets (A := A) hx hb (hF.narrow hAlo) hS hown (hts _ tw_427) (fun _ h9 => h9) dJ0_checkIndex_df160_2 ?_
    refine ro_i (D := D) (va_runS (As := [.int (nI i), .int (nI v1), .null]) (rest := []) ⟨hx, hb, hml, hown, hts⟩ ((x_pix_null l D k st lo i v1 (by first | assumption | omega) (by first | assumption | omega)) s.heap.size) (va_cwS 3 hts (gS tw_429 tw_430 tw_91 tw_431) rfl rfl rfl (by decide +kernel) ⟨Nat.le_of_ble_eq_true rfl, Nat.le_of_ble_eq_true rfl⟩) (pS hS hAlo hlo hP hK (va_Dlo hD hAlo) hZ [] (by decide) rfl) rfl rfl hl.1 rfl (lv_room (Nat.le_of_ble_eq_true rfl)) dJ0_checkIndex_df160_5 ⟨Nat.le_of_ble_eq_true rfl, Nat.le_of_ble_eq_true rfl⟩) hS hA hP (fun r_1 H locs hw_1 hP hS => ?_)
    try dsimp only at hw_1
    refine lv_pop hx hb dJ0_checkIndex_df160_8 rfl ?_
    obtain ⟨hP9, hD9⟩ := pd_sub [] [] hP hD (by decide) rfl
    exact W.vret hx hb hr (fun t ht hW => ⟨⟨(), rfl, trivial, by rw [ht]; exact hP9, hD9⟩, hS.F ht⟩) hS.2.2 dJ0_checkIndex_df160_9
  · refine va_gets (A := A) hx hb (hF.narrow hAlo) hS hown (hts _ tw_427) (fun _ h9 => h9) dJ0_checkIndex_df160_2 ?_
    refine ro_i (D := D) (va_runS (As := [.int (nI i), .int (nI v1), .ref tF]) (rest := []) ⟨hx, hb, hml, hown, hts⟩ ((x_pix_ref l D k st lo i v1 tF (by first | assumption | omega) (by first | assumption | omega)) s.heap.size) (va_cwS 3 hts (gS tw_429 tw_430 tw_91 tw_431) rfl rfl rfl (by decide +kernel) ⟨Nat.le_of_ble_eq_true rfl, Nat.le_of_ble_eq_true rfl⟩) (pS hS hAlo hlo hP hK (va_Dlo hD hAlo) hZ [] (by decide) rfl) rfl rfl hl.1 rfl (lv_room (Nat.le_of_ble_eq_true rfl)) dJ0_checkIndex_df160_5 ⟨Nat.le_of_ble_eq_true rfl, Nat.le_of_ble_eq_true rfl⟩) hS hA hP (fun r_2 H locs hw_2 hP hS => ?_)
    try dsimp only at hw_2
    refine lv_pop hx hb dJ0_checkIndex_df160_8 rfl ?_
    obtain ⟨hP9, hD9⟩ := pd_sub [] [] hP hD (by decide) rfl
    exact W.vret hx hb hr (fun t ht hW => ⟨⟨(), rfl, trivial, by rw [ht]; exact hP9, hD9⟩, hS.F ht⟩) hS.2.2 dJ0_checkIndex_df160_9

theorem f_x_charAtL_rows : True := trivial
theorem dJ1_charAt_3b067_0 : decode cJ1_charAt_3b067 0 = .ok (.iload_n 1, 1) := by decide +kernel
theorem dJ1_charAt_3b067_1 : decode cJ1_charAt_3b067 1 = .ok (.aload_n 0, 1) := by decide +kernel
theorem dJ1_charAt_3b067_2 : decode cJ1_charAt_3b067 2 = .ok (.arraylength, 1) := by decide +kernel
theorem dJ1_charAt_3b067_3 : decode cJ1_charAt_3b067 3 = .ok (.invokestatic 9, 3) := by decide +kernel
theorem dJ1_charAt_3b067_6 : decode cJ1_charAt_3b067 6 = .ok (.aload_n 0, 1) := by decide +kernel
theorem dJ1_charAt_3b067_7 : decode cJ1_charAt_3b067 7 = .ok (.iload_n 1, 1) := by decide +kernel
theorem dJ1_charAt_3b067_8 : decode cJ1_charAt_3b067 8 = .ok (.baload, 1) := by decide +kernel
theorem dJ1_charAt_3b067_9 : decode cJ1_charAt_3b067 9 = .ok (.sipush 255, 3) := by decide +kernel
theorem dJ1_charAt_3b067_12 : decode cJ1_charAt_3b067 12 = .ok (.iand, 1) := by decide +kernel
theorem dJ1_charAt_3b067_13 : decode cJ1_charAt_3b067 13 = .ok (.i2c, 1) := by decide +kernel
theorem dJ1_charAt_3b067_14 : decode cJ1_charAt_3b067 14 = .ok (.ireturn, 1) := by decide +kernel
theorem f_x_charAt_rows : True := trivial
theorem dJ0_charAt_5068e_0 : decode cJ0_charAt_5068e 0 = .ok (.aload_n 0, 1) := by decide +kernel
theorem dJ0_charAt_5068e_1 : decode cJ0_charAt_5068e 1 = .ok (.invokevirtual 492, 3) := by decide +kernel
theorem dJ0_charAt_5068e_4 : decode cJ0_charAt_5068e 4 = .ok (.ifCond .eq 12, 3) := by decide +kernel
theorem dJ0_charAt_5068e_7 : decode cJ0_charAt_5068e 7 = .ok (.aload_n 0, 1) := by decide +kernel
theorem dJ0_charAt_5068e_8 : decode cJ0_charAt_5068e 8 = .ok (.getfield 9, 3) := by decide +kernel
theorem dJ0_charAt_5068e_11 : decode cJ0_charAt_5068e 11 = .ok (.iload_n 1, 1) := by decide +kernel
theorem dJ0_charAt_5068e_12 : decode cJ0_charAt_5068e 12 = .ok (.invokestatic 495, 3) := by decide +kernel
theorem dJ0_charAt_5068e_15 : decode cJ0_charAt_5068e 15 = .ok (.ireturn, 1) := by decide +kernel
theorem tw_80 : Cond.initialized RX6 ∈ LW := LWm1 (i := 2) (by decide +kernel) rfl
theorem tw_109 : Cond.fieldLink RX6 9 "LastPlace$Text" "bytes" "[B" ∈ LW := LWm1 (i := 31) (by decide +kernel) rfl
theorem tw_110 : Cond.fieldLink RX6 15 "LastPlace$Text" "size" "I" ∈ LW := LWm1 (i := 32) (by decide +kernel) rfl
theorem tw_113 : Cond.fieldLink RX6 19 "LastPlace$Text" "at" "I" ∈ LW := LWm1 (i := 35) (by decide +kernel) rfl
theorem tw_116 : Cond.fieldLink RX6 22 "LastPlace$Text" "numberAt" "I" ∈ LW := LWm1 (i := 38) (by decide +kernel) rfl
theorem tw_119 : Cond.fieldLink RX6 25 "LastPlace$Text" "faultNumber" "I" ∈ LW := LWm1 (i := 41) (by decide +kernel) rfl
theorem tw_121 : Cond.fieldLink RX6 28 "LastPlace$Text" "faultByte" "I" ∈ LW := LWm1 (i := 43) (by decide +kernel) rfl
theorem tw_368 : Cond.instanceMethod yX6_failed ∈ LW := LWm2 (i := 50) (by decide +kernel) rfl
theorem tw_369 : Cond.selects RX6 yX6_failed yX6_failed ∈ LW := LWm2 (i := 51) (by decide +kernel) rfl
set_option maxRecDepth 100000 in theorem tw_370 : Cond.code yX6_failed cX6_failed 1 (some .boolean) ∈ LW := LWm2 (i := 52) rfl rfl
theorem tw_375 : Cond.methodLink RX6 35 yX6_skipBlanks ∈ LW := LWm2 (i := 57) (by decide +kernel) rfl
theorem tw_376 : Cond.instanceMethod yX6_skipBlanks ∈ LW := LWm2 (i := 58) (by decide +kernel) rfl
theorem tw_377 : Cond.selects RX6 yX6_skipBlanks yX6_skipBlanks ∈ LW := LWm2 (i := 59) (by decide +kernel) rfl
set_option maxRecDepth 100000 in theorem tw_378 : Cond.code yX6_skipBlanks cX6_skipBlanks 1 none ∈ LW := LWm2 (i := 60) rfl rfl
theorem tw_379 : Cond.methodLink RX6 31 yX6_byteAt ∈ LW := LWm2 (i := 61) (by decide +kernel) rfl
theorem tw_380 : Cond.instanceMethod yX6_byteAt ∈ LW := LWm2 (i := 62) (by decide +kernel) rfl
theorem tw_381 : Cond.selects RX6 yX6_byteAt yX6_byteAt ∈ LW := LWm2 (i := 63) (by decide +kernel) rfl
set_option maxRecDepth 100000 in theorem tw_382 : Cond.code yX6_byteAt cX6_byteAt 2 (some .int) ∈ LW := LWm2 (i := 64) rfl rfl
theorem tw_400 : Cond.instanceMethod yX6_takeWord ∈ LW := LWm2 (i := 82) (by decide +kernel) rfl
theorem tw_401 : Cond.selects RX6 yX6_takeWord yX6_takeWord ∈ LW := LWm2 (i := 83) (by decide +kernel) rfl
set_option maxRecDepth 100000 in theorem tw_402 : Cond.code yX6_takeWord cX6_takeWord 4 (some .boolean) ∈ LW := LWm2 (i := 84) rfl rfl
theorem tw_403 : Cond.methodLink RX6 38 yJ0_length_8abf5 ∈ LW := LWm2 (i := 85) (by decide +kernel) rfl
theorem tw_404 : Cond.instanceMethod yJ0_length_8abf5 ∈ LW := LWm2 (i := 86) (by decide +kernel) rfl
theorem tw_405 : Cond.selects RJ0 yJ0_length_8abf5 yJ0_length_8abf5 ∈ LW := LWm2 (i := 87) (by decide +kernel) rfl
set_option maxRecDepth 100000 in theorem tw_406 : Cond.code yJ0_length_8abf5 cJ0_length_8abf5 1 (some .int) ∈ LW := LWm2 (i := 88) rfl rfl
theorem tw_413 : Cond.methodLink RX6 44 yJ0_charAt_5068e ∈ LW := LWm2 (i := 95) (by decide +kernel) rfl
theorem tw_414 : Cond.instanceMethod yJ0_charAt_5068e ∈ LW := LWm2 (i := 96) (by decide +kernel) rfl
theorem tw_415 : Cond.selects RJ0 yJ0_charAt_5068e yJ0_charAt_5068e ∈ LW := LWm2 (i := 97) (by decide +kernel) rfl
set_option maxRecDepth 100000 in theorem tw_416 : Cond.code yJ0_charAt_5068e cJ0_charAt_5068e 2 (some .char) ∈ LW := LWm2 (i := 98) rfl rfl
theorem tw_451 : Cond.methodLink RX6 48 yX6_isLetterAt ∈ LW := LWm2 (i := 133) (by decide +kernel) rfl
theorem tw_452 : Cond.instanceMethod yX6_isLetterAt ∈ LW := LWm2 (i := 134) (by decide +kernel) rfl
theorem tw_453 : Cond.selects RX6 yX6_isLetterAt yX6_isLetterAt ∈ LW := LWm2 (i := 135) (by decide +kernel) rfl
set_option maxRecDepth 100000 in theorem tw_454 : Cond.code yX6_isLetterAt cX6_isLetterAt 3 (some .boolean) ∈ LW := LWm2 (i := 136) rfl rfl
theorem tw_456 : Cond.instanceMethod yX6_fail ∈ LW := LWm2 (i := 138) (by decide +kernel) rfl
theorem tw_457 : Cond.selects RX6 yX6_fail yX6_fail ∈ LW := LWm2 (i := 139) (by decide +kernel) rfl
set_option maxRecDepth 100000 in theorem tw_458 : Cond.code yX6_fail cX6_fail 3 none ∈ LW := LWm2 (i := 140) rfl rfl
theorem tw_471 : Cond.methodLink RX6 52 yX6_failed ∈ LW := LWm2 (i := 153) (by decide +kernel) rfl
theorem tw_472 : Cond.methodLink RX6 64 yX6_isFigureAt ∈ LW := LWm2 (i := 154) (by decide +kernel) rfl
theorem tw_473 : Cond.instanceMethod yX6_isFigureAt ∈ LW := LWm2 (i := 155) (by decide +kernel) rfl
theorem tw_474 : Cond.selects RX6 yX6_isFigureAt yX6_isFigureAt ∈ LW := LWm2 (i := 156) (by decide +kernel) rfl
set_option maxRecDepth 100000 in theorem tw_475 : Cond.code yX6_isFigureAt cX6_isFigureAt 3 (some .boolean) ∈ LW := LWm2 (i := 157) rfl rfl
theorem tw_476 : Cond.methodLink RX6 60 yX6_fail ∈ LW := LWm2 (i := 158) (by decide +kernel) rfl
theorem tw_486 : Cond.methodLink RX6 56 yX6_takeWord ∈ LW := LWm2 (i := 168) (by decide +kernel) rfl
theorem f_x_append_rows : True := trivial
theorem dX6_append_0 : decode cX6_append 0 = .ok (.aload_n 0, 1) := by decide +kernel
theorem dX6_append_1 : decode cX6_append 1 = .ok (.getfield 15, 3) := by decide +kernel
theorem dX6_append_4 : decode cX6_append 4 = .ok (.sipush 240, 3) := by decide +kernel
theorem dX6_append_7 : decode cX6_append 7 = .ok (.if_icmp .ge 23, 3) := by decide +kernel
theorem dX6_append_10 : decode cX6_append 10 = .ok (.aload_n 0, 1) := by decide +kernel
theorem dX6_append_11 : decode cX6_append 11 = .ok (.getfield 9, 3) := by decide +kernel
theorem dX6_append_14 : decode cX6_append 14 = .ok (.aload_n 0, 1) := by decide +kernel
theorem dX6_append_15 : decode cX6_append 15 = .ok (.getfield 15, 3) := by decide +kernel
theorem dX6_append_18 : decode cX6_append 18 = .ok (.iload_n 1, 1) := by decide +kernel
theorem dX6_append_19 : decode cX6_append 19 = .ok (.bastore, 1) := by decide +kernel
theorem dX6_append_20 : decode cX6_append 20 = .ok (.aload_n 0, 1) := by decide +kernel
theorem dX6_append_21 : decode cX6_append 21 = .ok (.dup, 1) := by decide +kernel
theorem dX6_append_22 : decode cX6_append 22 = .ok (.getfield 15, 3) := by decide +kernel
theorem dX6_append_25 : decode cX6_append 25 = .ok (.iconst 1, 1) := by decide +kernel
theorem dX6_append_26 : decode cX6_append 26 = .ok (.iadd, 1) := by decide +kernel
theorem dX6_append_27 : decode cX6_append 27 = .ok (.putfield 15, 3) := by decide +kernel
theorem dX6_append_30 : decode cX6_append 30 = .ok (.return_, 1) := by decide +kernel
theorem dX6_rewind_0 : decode cX6_rewind 0 = .ok (.aload_n 0, 1) := by decide +kernel
theorem dX6_rewind_1 : decode cX6_rewind 1 = .ok (.iconst 0, 1) := by decide +kernel
theorem dX6_rewind_2 : decode cX6_rewind 2 = .ok (.putfield 19, 3) := by decide +kernel
theorem dX6_rewind_5 : decode cX6_rewind 5 = .ok (.aload_n 0, 1) := by decide +kernel
theorem dX6_rewind_6 : decode cX6_rewind 6 = .ok (.iconst 0, 1) := by decide +kernel
theorem dX6_rewind_7 : decode cX6_rewind 7 = .ok (.putfield 22, 3) := by decide +kernel
theorem dX6_rewind_10 : decode cX6_rewind 10 = .ok (.aload_n 0, 1) := by decide +kernel
theorem dX6_rewind_11 : decode cX6_rewind 11 = .ok (.iconst 0, 1) := by decide +kernel
theorem dX6_rewind_12 : decode cX6_rewind 12 = .ok (.putfield 25, 3) := by decide +kernel
theorem dX6_rewind_15 : decode cX6_rewind 15 = .ok (.aload_n 0, 1) := by decide +kernel
theorem dX6_rewind_16 : decode cX6_rewind 16 = .ok (.iconst 0, 1) := by decide +kernel
theorem dX6_rewind_17 : decode cX6_rewind 17 = .ok (.putfield 28, 3) := by decide +kernel
theorem dX6_rewind_20 : decode cX6_rewind 20 = .ok (.return_, 1) := by decide +kernel
set_option maxHeartbeats 4000000 in
set_option maxRecDepth 100000 in
theorem x_rewind (l : Launch) (D : va_G) (k : Nat → ClassId) (st : Nat → Nat) (lo : Nat) (x0 : Nat) (x1 : Nat) (tz : Nat) (ta : Int32) (na : Int32) (fn : Int32) (fb : Int32) (fx : Nat → Int32)  : CWv l D k st lo yX6_rewind cX6_rewind 1 none ({ frames := 0, cells := 0, slots := 0, locals := 0 }) 0 0 [.ref x0] [(x0, .inr (6, (fX6 x1 (nI tz) ta na fn fb))), (aB k x1 240 fx)] (fun (u : Int32 × Int32 × Int32 × Int32) => match u with | (ta_, na_, fn_, fb_) => ta_ = 0 ∧ fn_ = 0) (fun (u : Int32 × Int32 × Int32 × Int32) => match u with | (ta_, na_, fn_, fb_) => [(x0, .inr (6, (fX6 x1 (nI tz) ta_ na_ fn_ fb_))), (aB k x1 240 fx)]) := by
  intro sz
  refine Met.ofW (cc := cX6_rewind) (maxL := 1) (ret := none) (by decide) rfl ?_
  intro p e s m args below meth c s₁ B hml hv
  obtain ⟨rfl, hsz, hlo, hP, hK, hDL, hZ⟩ := hv
  have hx := B.exec
  have hb := B.bytes
  have hr := B.returns
  have hts := WS_ts B.pre
  have hown : s.vm.findClass RX6 = some m.cls := findClass_of_methodNamed B.named
  have hlocks := B.notSynchronized
  subst hsz
  have hD := hDL.self (sz := s.heap.size)
  have hAlo := A_lo hDL hlo
  generalize hAe : va_A [(x0, .inr (6, (fX6 x1 (nI tz) ta na fn fb))), (aB k x1 240 fx)] s.heap.size = A at hD hAlo ⊢
  have hA : ∀ q : Nat, s.heap.size ≤ q → A q := fun q h => by rw [← hAe]; exact Or.inr h
  have hS : va_S A s.heap s.heap [] := va_S.rf
  have hl := lv_entry ([.ref x0]) (n := 1) (Nat.le_of_ble_eq_true rfl)
  rw [lg_entry_eq]
  generalize (lg_sl ([.ref x0]) ++ List.replicate (1 - (lg_sl ([.ref x0])).length) Slot.unset).toArray = ls at hl ⊢
  have hl : lv_has ls 1 [(0, .ref x0)] := hl
  refine lv_aload_n hx hb dX6_rewind_0 rfl (lv_at hl 0 rfl) ?_
  refine lv_iconst (v := 0) hx hb dX6_rewind_1 (by decide) ?_
  refine va_put (D := D) (ci := 6) (v := .int 0) (ty := .int) (C := RX6) (T := TX6) (N := 6) hx hb hts inX6 tyX6 tyX6_ok nmX6 hown hK hP hD hS 0 rfl rfl 2 (by decide) (hts _ tw_113) (fun _ h9 => h9) rfl (by decide +kernel) rfl rfl (Nat.le_of_ble_eq_true rfl) dX6_rewind_2 (fun H locs hP hD hS => ?_)
  have hQ9 := pd_mk [(x0, .inr (6, (fX6 x1 (nI tz) 0 na fn fb))), (aB k x1 240 fx)] hP hD
  clear hP hD
  obtain ⟨hP, hD⟩ := hQ9
  refine lv_aload_n hx hb dX6_rewind_5 rfl (lv_at hl 0 rfl) ?_
  refine lv_iconst (v := 0) hx hb dX6_rewind_6 (by decide) ?_
  refine va_put (D := D) (ci := 6) (v := .int 0) (ty := .int) (C := RX6) (T := TX6) (N := 6) hx hb hts inX6 tyX6 tyX6_ok nmX6 hown hK hP hD hS 0 rfl rfl 3 (by decide) (hts _ tw_116) (fun _ h9 => h9) rfl (by decide +kernel) rfl rfl (Nat.le_of_ble_eq_true rfl) dX6_rewind_7 (fun H locs hP hD hS => ?_)
  have hQ9 := pd_mk [(x0, .inr (6, (fX6 x1 (nI tz) 0 0 fn fb))), (aB k x1 240 fx)] hP hD
  clear hP hD
  obtain ⟨hP, hD⟩ := hQ9
  refine lv_aload_n hx hb dX6_rewind_10 rfl (lv_at hl 0 rfl) ?_
  refine lv_iconst (v := 0) hx hb dX6_rewind_11 (by decide) ?_
  refine va_put (D := D) (ci := 6) (v := .int 0) (ty := .int) (C := RX6) (T := TX6) (N := 6) hx hb hts inX6 tyX6 tyX6_ok nmX6 hown hK hP hD hS 0 rfl rfl 4 (by decide) (hts _ tw_119) (fun _ h9 => h9) rfl (by decide +kernel) rfl rfl (Nat.le_of_ble_eq_true rfl) dX6_rewind_12 (fun H locs hP hD hS => ?_)
  have hQ9 := pd_mk [(x0, .inr (6, (fX6 x1 (nI tz) 0 0 0 fb))), (aB k x1 240 fx)] hP hD
  clear hP hD
  obtain ⟨hP, hD⟩ := hQ9
  refine lv_aload_n hx hb dX6_rewind_15 rfl (lv_at hl 0 rfl) ?_
  refine lv_iconst (v := 0) hx hb dX6_rewind_16 (by decide) ?_
  refine va_put (D := D) (ci := 6) (v := .int 0) (ty := .int) (C := RX6) (T := TX6) (N := 6) hx hb hts inX6 tyX6 tyX6_ok nmX6 hown hK hP hD hS 0 rfl rfl 5 (by decide) (hts _ tw_121) (fun _ h9 => h9) rfl (by decide +kernel) rfl rfl (Nat.le_of_ble_eq_true rfl) dX6_rewind_17 (fun H locs hP hD hS => ?_)
  have hQ9 := pd_mk [(x0, .inr (6, (fX6 x1 (nI tz) 0 0 0 0))), (aB k x1 240 fx)] hP hD
  clear hP hD
  obtain ⟨hP, hD⟩ := hQ9
  obtain ⟨hP9, hD9⟩ := pd_sub [(x0, .inr (6, (fX6 x1 (nI tz) 0 0 0 0))), (aB k x1 240 fx)] [0, 1] hP hD (by decide) rfl
  exact W.vret hx hb hr (fun t ht hW => ⟨⟨(0, 0, 0, 0), rfl, ⟨rfl, rfl⟩, by rw [ht]; exact hP9, hD9⟩, hS.F ht⟩) hS.2.2 dX6_rewind_20

theorem dX6_failed_0 : decode cX6_failed 0 = .ok (.aload_n 0, 1) := by decide +kernel
theorem dX6_failed_1 : decode cX6_failed 1 = .ok (.getfield 25, 3) := by decide +kernel
theorem dX6_failed_4 : decode cX6_failed 4 = .ok (.ifCond .eq 7, 3) := by decide +kernel
theorem dX6_failed_7 : decode cX6_failed 7 = .ok (.iconst 1, 1) := by decide +kernel
theorem dX6_failed_8 : decode cX6_failed 8 = .ok (.goto 4, 3) := by decide +kernel
theorem dX6_failed_11 : decode cX6_failed 11 = .ok (.iconst 0, 1) := by decide +kernel
theorem dX6_failed_12 : decode cX6_failed 12 = .ok (.ireturn, 1) := by decide +kernel
set_option maxHeartbeats 4000000 in
set_option maxRecDepth 100000 in
theorem x_failed (l : Launch) (D : va_G) (k : Nat → ClassId) (st : Nat → Nat) (lo : Nat) (x0 : Nat) (x1 : Nat) (tz : Nat) (ta : Nat) (na : Int32) (fn : Int32) (fb : Int32)  : CRi l D k st lo yX6_failed cX6_failed 1 (some .boolean) ({ frames := 0, cells := 0, slots := 0, locals := 0 }) [.ref x0] [(x0, .inr (6, (fX6 x1 (nI tz) (nI ta) na fn fb)))] (fun r => (r = 1 ∧ ¬ fn = 0) ∨ (r = 0 ∧ fn = 0)) := by
  intro sz
  refine Met.ofW (cc := cX6_failed) (maxL := 1) (ret := (some .boolean)) (by decide) rfl ?_
  intro p e s m args below meth c s₁ B hml hv
  obtain ⟨rfl, hsz, hlo, hP, hK, hDL, hZ⟩ := hv
  have hx := B.exec
  have hb := B.bytes
  have hr := B.returns
  have hts := WS_ts B.pre
  have hown : s.vm.findClass RX6 = some m.cls := findClass_of_methodNamed B.named
  have hlocks := B.notSynchronized
  subst hsz
  have hA : ∀ q : Nat, s.heap.size ≤ q → (fun q : Nat => s.heap.size ≤ q) q := fun _ h => h
  have hAlo : ∀ q : Nat, (fun q : Nat => s.heap.size ≤ q) q → lo ≤ q := fun q h => Nat.le_trans hlo h
  have hS : va_S (fun q : Nat => s.heap.size ≤ q) s.heap s.heap [] := va_S.rf
  have hl := lv_entry ([.ref x0]) (n := 1) (Nat.le_of_ble_eq_true rfl)
  rw [lg_entry_eq]
  generalize (lg_sl ([.ref x0]) ++ List.replicate (1 - (lg_sl ([.ref x0])).length) Slot.unset).toArray = ls at hl ⊢
  have hl : lv_has ls 1 [(0, .ref x0)] := hl
  refine lv_aload_n hx hb dX6_failed_0 rfl (lv_at hl 0 rfl) ?_
  refine va_get (D := D) (ci := 6) (v := .int fn) (C := RX6) (T := TX6) (N := 6) hx hb hts inX6 hown hK hP 0 rfl rfl 4 (by decide) (hts _ tw_119) (fun _ h9 => h9) rfl dX6_failed_1 ?_
  refine lv_if_eq (tgt := 11) hx hb dX6_failed_4 (by decide) (fun c_1 => ?_) (fun c_1 => ?_)
  · refine lv_iconst (v := 0) hx hb dX6_failed_11 (by decide) ?_
    exact W.zret (v := 0) (ty := .boolean) hx hb hr rfl (fun t ht hW => ⟨⟨0, (), rfl, .inr ⟨rfl, c_1⟩, trivial⟩, hS.F ht⟩) hS.2.2 dX6_failed_12
  · refine lv_iconst (v := 1) hx hb dX6_failed_7 (by decide) ?_
    refine lv_goto (tgt := 12) hx hb dX6_failed_8 (by decide) ?_
    exact W.zret (v := 1) (ty := .boolean) hx hb hr rfl (fun t ht hW => ⟨⟨1, (), rfl, .inl ⟨rfl, c_1⟩, trivial⟩, hS.F ht⟩) hS.2.2 dX6_failed_12


set_option maxHeartbeats 4000000 in
set_option maxRecDepth 100000 in
theorem x_failed_r (l : Launch) (D : va_G) (k : Nat → ClassId) (st : Nat → Nat) (lo : Nat) (x0 : Nat) (x1 : Nat) (tz : Nat) (ta : Int32) (na : Int32) (fn : Int32) (fb : Int32)  : CRi l D k st lo yX6_failed cX6_failed 1 (some .boolean) ({ frames := 0, cells := 0, slots := 0, locals := 0 }) [.ref x0] [(x0, .inr (6, (fX6 x1 (nI tz) ta na fn fb)))] (fun r => (r = 1 ∧ ¬ fn = 0) ∨ (r = 0 ∧ fn = 0)) := by
  intro sz
  refine Met.ofW (cc := cX6_failed) (maxL := 1) (ret := (some .boolean)) (by decide) rfl ?_
  intro p e s m args below meth c s₁ B hml hv
  obtain ⟨rfl, hsz, hlo, hP, hK, hDL, hZ⟩ := hv
  have hx := B.exec
  have hb := B.bytes
  have hr := B.returns
  have hts := WS_ts B.pre
  have hown : s.vm.findClass RX6 = some m.cls := findClass_of_methodNamed B.named
  have hlocks := B.notSynchronized
  subst hsz
  have hA : ∀ q : Nat, s.heap.size ≤ q → (fun q : Nat => s.heap.size ≤ q) q := fun _ h => h
  have hAlo : ∀ q : Nat, (fun q : Nat => s.heap.size ≤ q) q → lo ≤ q := fun q h => Nat.le_trans hlo h
  have hS : va_S (fun q : Nat => s.heap.size ≤ q) s.heap s.heap [] := va_S.rf
  have hl := lv_entry ([.ref x0]) (n := 1) (Nat.le_of_ble_eq_true rfl)
  rw [lg_entry_eq]
  generalize (lg_sl ([.ref x0]) ++ List.replicate (1 - (lg_sl ([.ref x0])).length) Slot.unset).toArray = ls at hl ⊢
  have hl : lv_has ls 1 [(0, .ref x0)] := hl
  refine lv_aload_n hx hb dX6_failed_0 rfl (lv_at hl 0 rfl) ?_
  refine va_get (D := D) (ci := 6) (v := .int fn) (C := RX6) (T := TX6) (N := 6) hx hb hts inX6 hown hK hP 0 rfl rfl 4 (by decide) (hts _ tw_119) (fun _ h9 => h9) rfl dX6_failed_1 ?_
  refine lv_if_eq (tgt := 11) hx hb dX6_failed_4 (by decide) (fun c_1 => ?_) (fun c_1 => ?_)
  · refine lv_iconst (v := 0) hx hb dX6_failed_11 (by decide) ?_
    exact W.zret (v := 0) (ty := .boolean) hx hb hr rfl (fun t ht hW => ⟨⟨0, (), rfl, .inr ⟨rfl, c_1⟩, trivial⟩, hS.F ht⟩) hS.2.2 dX6_failed_12
  · refine lv_iconst (v := 1) hx hb dX6_failed_7 (by decide) ?_
    refine lv_goto (tgt := 12) hx hb dX6_failed_8 (by decide) ?_
    exact W.zret (v := 1) (ty := .boolean) hx hb hr rfl (fun t ht hW => ⟨⟨1, (), rfl, .inl ⟨rfl, c_1⟩, trivial⟩, hS.F ht⟩) hS.2.2 dX6_failed_12

theorem f_x_fail_rows : True := trivial
theorem dX6_fail_0 : decode cX6_fail 0 = .ok (.aload_n 0, 1) := by decide +kernel
theorem dX6_fail_1 : decode cX6_fail 1 = .ok (.getfield 25, 3) := by decide +kernel
theorem dX6_fail_4 : decode cX6_fail 4 = .ok (.ifCond .ne 13, 3) := by decide +kernel
theorem dX6_fail_7 : decode cX6_fail 7 = .ok (.aload_n 0, 1) := by decide +kernel
theorem dX6_fail_8 : decode cX6_fail 8 = .ok (.iload_n 1, 1) := by decide +kernel
theorem dX6_fail_9 : decode cX6_fail 9 = .ok (.putfield 25, 3) := by decide +kernel
theorem dX6_fail_12 : decode cX6_fail 12 = .ok (.aload_n 0, 1) := by decide +kernel
theorem dX6_fail_13 : decode cX6_fail 13 = .ok (.iload_n 2, 1) := by decide +kernel
theorem dX6_fail_14 : decode cX6_fail 14 = .ok (.putfield 28, 3) := by decide +kernel
theorem dX6_fail_17 : decode cX6_fail 17 = .ok (.return_, 1) := by decide +kernel
theorem f_x_byteAt_rows : True := trivial
theorem dX6_byteAt_0 : decode cX6_byteAt 0 = .ok (.iload_n 1, 1) := by decide +kernel
theorem dX6_byteAt_1 : decode cX6_byteAt 1 = .ok (.ifCond .lt 24, 3) := by decide +kernel
theorem dX6_byteAt_4 : decode cX6_byteAt 4 = .ok (.iload_n 1, 1) := by decide +kernel
theorem dX6_byteAt_5 : decode cX6_byteAt 5 = .ok (.aload_n 0, 1) := by decide +kernel
theorem dX6_byteAt_6 : decode cX6_byteAt 6 = .ok (.getfield 15, 3) := by decide +kernel
theorem dX6_byteAt_9 : decode cX6_byteAt 9 = .ok (.if_icmp .ge 16, 3) := by decide +kernel
theorem dX6_byteAt_12 : decode cX6_byteAt 12 = .ok (.aload_n 0, 1) := by decide +kernel
theorem dX6_byteAt_13 : decode cX6_byteAt 13 = .ok (.getfield 9, 3) := by decide +kernel
theorem dX6_byteAt_16 : decode cX6_byteAt 16 = .ok (.iload_n 1, 1) := by decide +kernel
theorem dX6_byteAt_17 : decode cX6_byteAt 17 = .ok (.baload, 1) := by decide +kernel
theorem dX6_byteAt_18 : decode cX6_byteAt 18 = .ok (.sipush 255, 3) := by decide +kernel
theorem dX6_byteAt_21 : decode cX6_byteAt 21 = .ok (.iand, 1) := by decide +kernel
theorem dX6_byteAt_22 : decode cX6_byteAt 22 = .ok (.goto 4, 3) := by decide +kernel
theorem dX6_byteAt_25 : decode cX6_byteAt 25 = .ok (.iconst (-1), 1) := by decide +kernel
theorem dX6_byteAt_26 : decode cX6_byteAt 26 = .ok (.ireturn, 1) := by decide +kernel
theorem f_x_skip_rows : True := trivial
theorem dX6_skipBlanks_0 : decode cX6_skipBlanks 0 = .ok (.aload_n 0, 1) := by decide +kernel
theorem dX6_skipBlanks_1 : decode cX6_skipBlanks 1 = .ok (.getfield 19, 3) := by decide +kernel
theorem dX6_skipBlanks_4 : decode cX6_skipBlanks 4 = .ok (.aload_n 0, 1) := by decide +kernel
theorem dX6_skipBlanks_5 : decode cX6_skipBlanks 5 = .ok (.getfield 15, 3) := by decide +kernel
theorem dX6_skipBlanks_8 : decode cX6_skipBlanks 8 = .ok (.if_icmp .ge 29, 3) := by decide +kernel
theorem dX6_skipBlanks_11 : decode cX6_skipBlanks 11 = .ok (.aload_n 0, 1) := by decide +kernel
theorem dX6_skipBlanks_12 : decode cX6_skipBlanks 12 = .ok (.aload_n 0, 1) := by decide +kernel
theorem dX6_skipBlanks_13 : decode cX6_skipBlanks 13 = .ok (.getfield 19, 3) := by decide +kernel
theorem dX6_skipBlanks_16 : decode cX6_skipBlanks 16 = .ok (.invokevirtual 31, 3) := by decide +kernel
theorem dX6_skipBlanks_19 : decode cX6_skipBlanks 19 = .ok (.bipush 32, 2) := by decide +kernel
theorem dX6_skipBlanks_21 : decode cX6_skipBlanks 21 = .ok (.if_icmp .ne 16, 3) := by decide +kernel
theorem dX6_skipBlanks_24 : decode cX6_skipBlanks 24 = .ok (.aload_n 0, 1) := by decide +kernel
theorem dX6_skipBlanks_25 : decode cX6_skipBlanks 25 = .ok (.dup, 1) := by decide +kernel
theorem dX6_skipBlanks_26 : decode cX6_skipBlanks 26 = .ok (.getfield 19, 3) := by decide +kernel
theorem dX6_skipBlanks_29 : decode cX6_skipBlanks 29 = .ok (.iconst 1, 1) := by decide +kernel
theorem dX6_skipBlanks_30 : decode cX6_skipBlanks 30 = .ok (.iadd, 1) := by decide +kernel
theorem dX6_skipBlanks_31 : decode cX6_skipBlanks 31 = .ok (.putfield 19, 3) := by decide +kernel
theorem dX6_skipBlanks_34 : decode cX6_skipBlanks 34 = .ok (.goto (-34), 3) := by decide +kernel
theorem dX6_skipBlanks_37 : decode cX6_skipBlanks 37 = .ok (.return_, 1) := by decide +kernel
theorem f_x_isAtEnd_rows : True := trivial
theorem dX6_isAtEnd_0 : decode cX6_isAtEnd 0 = .ok (.aload_n 0, 1) := by decide +kernel
theorem dX6_isAtEnd_1 : decode cX6_isAtEnd 1 = .ok (.invokevirtual 35, 3) := by decide +kernel
theorem dX6_isAtEnd_4 : decode cX6_isAtEnd 4 = .ok (.aload_n 0, 1) := by decide +kernel
theorem dX6_isAtEnd_5 : decode cX6_isAtEnd 5 = .ok (.getfield 19, 3) := by decide +kernel
theorem dX6_isAtEnd_8 : decode cX6_isAtEnd 8 = .ok (.aload_n 0, 1) := by decide +kernel
theorem dX6_isAtEnd_9 : decode cX6_isAtEnd 9 = .ok (.getfield 15, 3) := by decide +kernel
theorem dX6_isAtEnd_12 : decode cX6_isAtEnd 12 = .ok (.if_icmp .lt 7, 3) := by decide +kernel
theorem dX6_isAtEnd_15 : decode cX6_isAtEnd 15 = .ok (.iconst 1, 1) := by decide +kernel
theorem dX6_isAtEnd_16 : decode cX6_isAtEnd 16 = .ok (.goto 4, 3) := by decide +kernel
theorem dX6_isAtEnd_19 : decode cX6_isAtEnd 19 = .ok (.iconst 0, 1) := by decide +kernel
theorem dX6_isAtEnd_20 : decode cX6_isAtEnd 20 = .ok (.ireturn, 1) := by decide +kernel
theorem f_x_isLetterAt_rows : True := trivial
theorem dX6_isLetterAt_0 : decode cX6_isLetterAt 0 = .ok (.aload_n 0, 1) := by decide +kernel
theorem dX6_isLetterAt_1 : decode cX6_isLetterAt 1 = .ok (.iload_n 1, 1) := by decide +kernel
theorem dX6_isLetterAt_2 : decode cX6_isLetterAt 2 = .ok (.invokevirtual 31, 3) := by decide +kernel
theorem dX6_isLetterAt_5 : decode cX6_isLetterAt 5 = .ok (.istore_n 2, 1) := by decide +kernel
theorem dX6_isLetterAt_6 : decode cX6_isLetterAt 6 = .ok (.iload_n 2, 1) := by decide +kernel
theorem dX6_isLetterAt_7 : decode cX6_isLetterAt 7 = .ok (.bipush 97, 2) := by decide +kernel
theorem dX6_isLetterAt_9 : decode cX6_isLetterAt 9 = .ok (.if_icmp .lt 13, 3) := by decide +kernel
theorem dX6_isLetterAt_12 : decode cX6_isLetterAt 12 = .ok (.iload_n 2, 1) := by decide +kernel
theorem dX6_isLetterAt_13 : decode cX6_isLetterAt 13 = .ok (.bipush 122, 2) := by decide +kernel
theorem dX6_isLetterAt_15 : decode cX6_isLetterAt 15 = .ok (.if_icmp .gt 7, 3) := by decide +kernel
theorem dX6_isLetterAt_18 : decode cX6_isLetterAt 18 = .ok (.iconst 1, 1) := by decide +kernel
theorem dX6_isLetterAt_19 : decode cX6_isLetterAt 19 = .ok (.goto 4, 3) := by decide +kernel
theorem dX6_isLetterAt_22 : decode cX6_isLetterAt 22 = .ok (.iconst 0, 1) := by decide +kernel
theorem dX6_isLetterAt_23 : decode cX6_isLetterAt 23 = .ok (.ireturn, 1) := by decide +kernel
theorem f_x_isFigureAt_rows : True := trivial
theorem dX6_isFigureAt_0 : decode cX6_isFigureAt 0 = .ok (.aload_n 0, 1) := by decide +kernel
theorem dX6_isFigureAt_1 : decode cX6_isFigureAt 1 = .ok (.iload_n 1, 1) := by decide +kernel
theorem dX6_isFigureAt_2 : decode cX6_isFigureAt 2 = .ok (.invokevirtual 31, 3) := by decide +kernel
theorem dX6_isFigureAt_5 : decode cX6_isFigureAt 5 = .ok (.istore_n 2, 1) := by decide +kernel
theorem dX6_isFigureAt_6 : decode cX6_isFigureAt 6 = .ok (.iload_n 2, 1) := by decide +kernel
theorem dX6_isFigureAt_7 : decode cX6_isFigureAt 7 = .ok (.bipush 48, 2) := by decide +kernel
theorem dX6_isFigureAt_9 : decode cX6_isFigureAt 9 = .ok (.if_icmp .lt 13, 3) := by decide +kernel
theorem dX6_isFigureAt_12 : decode cX6_isFigureAt 12 = .ok (.iload_n 2, 1) := by decide +kernel
theorem dX6_isFigureAt_13 : decode cX6_isFigureAt 13 = .ok (.bipush 57, 2) := by decide +kernel
theorem dX6_isFigureAt_15 : decode cX6_isFigureAt 15 = .ok (.if_icmp .gt 7, 3) := by decide +kernel
theorem dX6_isFigureAt_18 : decode cX6_isFigureAt 18 = .ok (.iconst 1, 1) := by decide +kernel
theorem dX6_isFigureAt_19 : decode cX6_isFigureAt 19 = .ok (.goto 4, 3) := by decide +kernel
theorem dX6_isFigureAt_22 : decode cX6_isFigureAt 22 = .ok (.iconst 0, 1) := by decide +kernel
theorem dX6_isFigureAt_23 : decode cX6_isFigureAt 23 = .ok (.ireturn, 1) := by decide +kernel
theorem f_x_takeWord_rows : True := trivial
theorem dX6_takeWord_0 : decode cX6_takeWord 0 = .ok (.aload_n 0, 1) := by decide +kernel
theorem dX6_takeWord_1 : decode cX6_takeWord 1 = .ok (.invokevirtual 35, 3) := by decide +kernel
theorem dX6_takeWord_4 : decode cX6_takeWord 4 = .ok (.aload_n 0, 1) := by decide +kernel
theorem dX6_takeWord_5 : decode cX6_takeWord 5 = .ok (.getfield 19, 3) := by decide +kernel
theorem dX6_takeWord_8 : decode cX6_takeWord 8 = .ok (.aload_n 1, 1) := by decide +kernel
theorem dX6_takeWord_9 : decode cX6_takeWord 9 = .ok (.invokevirtual 38, 3) := by decide +kernel
theorem dX6_takeWord_12 : decode cX6_takeWord 12 = .ok (.iadd, 1) := by decide +kernel
theorem dX6_takeWord_13 : decode cX6_takeWord 13 = .ok (.istore_n 2, 1) := by decide +kernel
theorem dX6_takeWord_14 : decode cX6_takeWord 14 = .ok (.iconst 0, 1) := by decide +kernel
theorem dX6_takeWord_15 : decode cX6_takeWord 15 = .ok (.istore_n 3, 1) := by decide +kernel
theorem dX6_takeWord_16 : decode cX6_takeWord 16 = .ok (.iload_n 3, 1) := by decide +kernel
theorem dX6_takeWord_17 : decode cX6_takeWord 17 = .ok (.aload_n 1, 1) := by decide +kernel
theorem dX6_takeWord_18 : decode cX6_takeWord 18 = .ok (.invokevirtual 38, 3) := by decide +kernel
theorem dX6_takeWord_21 : decode cX6_takeWord 21 = .ok (.if_icmp .ge 29, 3) := by decide +kernel
theorem dX6_takeWord_24 : decode cX6_takeWord 24 = .ok (.aload_n 0, 1) := by decide +kernel
theorem dX6_takeWord_25 : decode cX6_takeWord 25 = .ok (.aload_n 0, 1) := by decide +kernel
theorem dX6_takeWord_26 : decode cX6_takeWord 26 = .ok (.getfield 19, 3) := by decide +kernel
theorem dX6_takeWord_29 : decode cX6_takeWord 29 = .ok (.iload_n 3, 1) := by decide +kernel
theorem dX6_takeWord_30 : decode cX6_takeWord 30 = .ok (.iadd, 1) := by decide +kernel
theorem dX6_takeWord_31 : decode cX6_takeWord 31 = .ok (.invokevirtual 31, 3) := by decide +kernel
theorem dX6_takeWord_34 : decode cX6_takeWord 34 = .ok (.aload_n 1, 1) := by decide +kernel
theorem dX6_takeWord_35 : decode cX6_takeWord 35 = .ok (.iload_n 3, 1) := by decide +kernel
theorem dX6_takeWord_36 : decode cX6_takeWord 36 = .ok (.invokevirtual 44, 3) := by decide +kernel
theorem dX6_takeWord_39 : decode cX6_takeWord 39 = .ok (.if_icmp .eq 5, 3) := by decide +kernel
theorem dX6_takeWord_42 : decode cX6_takeWord 42 = .ok (.iconst 0, 1) := by decide +kernel
theorem dX6_takeWord_43 : decode cX6_takeWord 43 = .ok (.ireturn, 1) := by decide +kernel
theorem dX6_takeWord_44 : decode cX6_takeWord 44 = .ok (.iinc 3 1, 3) := by decide +kernel
theorem dX6_takeWord_47 : decode cX6_takeWord 47 = .ok (.goto (-31), 3) := by decide +kernel
theorem dX6_takeWord_50 : decode cX6_takeWord 50 = .ok (.aload_n 0, 1) := by decide +kernel
theorem dX6_takeWord_51 : decode cX6_takeWord 51 = .ok (.iload_n 2, 1) := by decide +kernel
theorem dX6_takeWord_52 : decode cX6_takeWord 52 = .ok (.invokevirtual 48, 3) := by decide +kernel
theorem dX6_takeWord_55 : decode cX6_takeWord 55 = .ok (.ifCond .eq 5, 3) := by decide +kernel
theorem dX6_takeWord_58 : decode cX6_takeWord 58 = .ok (.iconst 0, 1) := by decide +kernel
theorem dX6_takeWord_59 : decode cX6_takeWord 59 = .ok (.ireturn, 1) := by decide +kernel
theorem dX6_takeWord_60 : decode cX6_takeWord 60 = .ok (.aload_n 0, 1) := by decide +kernel
theorem dX6_takeWord_61 : decode cX6_takeWord 61 = .ok (.iload_n 2, 1) := by decide +kernel
theorem dX6_takeWord_62 : decode cX6_takeWord 62 = .ok (.putfield 19, 3) := by decide +kernel
theorem dX6_takeWord_65 : decode cX6_takeWord 65 = .ok (.iconst 1, 1) := by decide +kernel
theorem dX6_takeWord_66 : decode cX6_takeWord 66 = .ok (.ireturn, 1) := by decide +kernel
theorem f_x_needWord_rows : True := trivial
theorem dX6_needWord_0 : decode cX6_needWord 0 = .ok (.aload_n 0, 1) := by decide +kernel
theorem dX6_needWord_1 : decode cX6_needWord 1 = .ok (.invokevirtual 52, 3) := by decide +kernel
theorem dX6_needWord_4 : decode cX6_needWord 4 = .ok (.ifCond .ne 20, 3) := by decide +kernel
theorem dX6_needWord_7 : decode cX6_needWord 7 = .ok (.aload_n 0, 1) := by decide +kernel
theorem dX6_needWord_8 : decode cX6_needWord 8 = .ok (.aload_n 1, 1) := by decide +kernel
theorem dX6_needWord_9 : decode cX6_needWord 9 = .ok (.invokevirtual 56, 3) := by decide +kernel
theorem dX6_needWord_12 : decode cX6_needWord 12 = .ok (.ifCond .ne 12, 3) := by decide +kernel
theorem dX6_needWord_15 : decode cX6_needWord 15 = .ok (.aload_n 0, 1) := by decide +kernel
theorem dX6_needWord_16 : decode cX6_needWord 16 = .ok (.iconst 1, 1) := by decide +kernel
theorem dX6_needWord_17 : decode cX6_needWord 17 = .ok (.aload_n 0, 1) := by decide +kernel
theorem dX6_needWord_18 : decode cX6_needWord 18 = .ok (.getfield 19, 3) := by decide +kernel
theorem dX6_needWord_21 : decode cX6_needWord 21 = .ok (.invokevirtual 60, 3) := by decide +kernel
theorem dX6_needWord_24 : decode cX6_needWord 24 = .ok (.return_, 1) := by decide +kernel
theorem f_x_needSemicolon_rows : True := trivial
theorem dX6_needSemicolon_0 : decode cX6_needSemicolon 0 = .ok (.aload_n 0, 1) := by decide +kernel
theorem dX6_needSemicolon_1 : decode cX6_needSemicolon 1 = .ok (.invokevirtual 35, 3) := by decide +kernel
theorem dX6_needSemicolon_4 : decode cX6_needSemicolon 4 = .ok (.aload_n 0, 1) := by decide +kernel
theorem dX6_needSemicolon_5 : decode cX6_needSemicolon 5 = .ok (.aload_n 0, 1) := by decide +kernel
theorem dX6_needSemicolon_6 : decode cX6_needSemicolon 6 = .ok (.getfield 19, 3) := by decide +kernel
theorem dX6_needSemicolon_9 : decode cX6_needSemicolon 9 = .ok (.invokevirtual 31, 3) := by decide +kernel
theorem dX6_needSemicolon_12 : decode cX6_needSemicolon 12 = .ok (.bipush 59, 2) := by decide +kernel
theorem dX6_needSemicolon_14 : decode cX6_needSemicolon 14 = .ok (.if_icmp .ne 16, 3) := by decide +kernel
theorem dX6_needSemicolon_17 : decode cX6_needSemicolon 17 = .ok (.aload_n 0, 1) := by decide +kernel
theorem dX6_needSemicolon_18 : decode cX6_needSemicolon 18 = .ok (.dup, 1) := by decide +kernel
theorem dX6_needSemicolon_19 : decode cX6_needSemicolon 19 = .ok (.getfield 19, 3) := by decide +kernel
theorem dX6_needSemicolon_22 : decode cX6_needSemicolon 22 = .ok (.iconst 1, 1) := by decide +kernel
theorem dX6_needSemicolon_23 : decode cX6_needSemicolon 23 = .ok (.iadd, 1) := by decide +kernel
theorem dX6_needSemicolon_24 : decode cX6_needSemicolon 24 = .ok (.putfield 19, 3) := by decide +kernel
theorem dX6_needSemicolon_27 : decode cX6_needSemicolon 27 = .ok (.goto 12, 3) := by decide +kernel
theorem dX6_needSemicolon_30 : decode cX6_needSemicolon 30 = .ok (.aload_n 0, 1) := by decide +kernel
theorem dX6_needSemicolon_31 : decode cX6_needSemicolon 31 = .ok (.iconst 1, 1) := by decide +kernel
theorem dX6_needSemicolon_32 : decode cX6_needSemicolon 32 = .ok (.aload_n 0, 1) := by decide +kernel
theorem dX6_needSemicolon_33 : decode cX6_needSemicolon 33 = .ok (.getfield 19, 3) := by decide +kernel
theorem dX6_needSemicolon_36 : decode cX6_needSemicolon 36 = .ok (.invokevirtual 60, 3) := by decide +kernel
theorem dX6_needSemicolon_39 : decode cX6_needSemicolon 39 = .ok (.return_, 1) := by decide +kernel
theorem f_x_needNumber_rows : True := trivial
theorem dX6_needNumber_0 : decode cX6_needNumber 0 = .ok (.aload_n 0, 1) := by decide +kernel
theorem dX6_needNumber_1 : decode cX6_needNumber 1 = .ok (.invokevirtual 52, 3) := by decide +kernel
theorem dX6_needNumber_4 : decode cX6_needNumber 4 = .ok (.ifCond .eq 5, 3) := by decide +kernel
theorem dX6_needNumber_7 : decode cX6_needNumber 7 = .ok (.iload_n 1, 1) := by decide +kernel
theorem dX6_needNumber_8 : decode cX6_needNumber 8 = .ok (.ireturn, 1) := by decide +kernel
theorem dX6_needNumber_9 : decode cX6_needNumber 9 = .ok (.aload_n 0, 1) := by decide +kernel
theorem dX6_needNumber_10 : decode cX6_needNumber 10 = .ok (.invokevirtual 35, 3) := by decide +kernel
theorem dX6_needNumber_13 : decode cX6_needNumber 13 = .ok (.aload_n 0, 1) := by decide +kernel
theorem dX6_needNumber_14 : decode cX6_needNumber 14 = .ok (.aload_n 0, 1) := by decide +kernel
theorem dX6_needNumber_15 : decode cX6_needNumber 15 = .ok (.getfield 19, 3) := by decide +kernel
theorem dX6_needNumber_18 : decode cX6_needNumber 18 = .ok (.putfield 22, 3) := by decide +kernel
theorem dX6_needNumber_21 : decode cX6_needNumber 21 = .ok (.iload_n 1, 1) := by decide +kernel
theorem dX6_needNumber_22 : decode cX6_needNumber 22 = .ok (.ifCond .ge 20, 3) := by decide +kernel
theorem dX6_needNumber_25 : decode cX6_needNumber 25 = .ok (.aload_n 0, 1) := by decide +kernel
theorem dX6_needNumber_26 : decode cX6_needNumber 26 = .ok (.aload_n 0, 1) := by decide +kernel
theorem dX6_needNumber_27 : decode cX6_needNumber 27 = .ok (.getfield 19, 3) := by decide +kernel
theorem dX6_needNumber_30 : decode cX6_needNumber 30 = .ok (.invokevirtual 31, 3) := by decide +kernel
theorem dX6_needNumber_33 : decode cX6_needNumber 33 = .ok (.bipush 45, 2) := by decide +kernel
theorem dX6_needNumber_35 : decode cX6_needNumber 35 = .ok (.if_icmp .ne 7, 3) := by decide +kernel
theorem dX6_needNumber_38 : decode cX6_needNumber 38 = .ok (.iconst 1, 1) := by decide +kernel
theorem dX6_needNumber_39 : decode cX6_needNumber 39 = .ok (.goto 4, 3) := by decide +kernel
theorem dX6_needNumber_42 : decode cX6_needNumber 42 = .ok (.iconst 0, 1) := by decide +kernel
theorem dX6_needNumber_43 : decode cX6_needNumber 43 = .ok (.istore_n 3, 1) := by decide +kernel
theorem dX6_needNumber_44 : decode cX6_needNumber 44 = .ok (.iload_n 3, 1) := by decide +kernel
theorem dX6_needNumber_45 : decode cX6_needNumber 45 = .ok (.ifCond .eq 13, 3) := by decide +kernel
theorem dX6_needNumber_48 : decode cX6_needNumber 48 = .ok (.aload_n 0, 1) := by decide +kernel
theorem dX6_needNumber_49 : decode cX6_needNumber 49 = .ok (.dup, 1) := by decide +kernel
theorem dX6_needNumber_50 : decode cX6_needNumber 50 = .ok (.getfield 19, 3) := by decide +kernel
theorem dX6_needNumber_53 : decode cX6_needNumber 53 = .ok (.iconst 1, 1) := by decide +kernel
theorem dX6_needNumber_54 : decode cX6_needNumber 54 = .ok (.iadd, 1) := by decide +kernel
theorem dX6_needNumber_55 : decode cX6_needNumber 55 = .ok (.putfield 19, 3) := by decide +kernel
theorem dX6_needNumber_58 : decode cX6_needNumber 58 = .ok (.aload_n 0, 1) := by decide +kernel
theorem dX6_needNumber_59 : decode cX6_needNumber 59 = .ok (.getfield 19, 3) := by decide +kernel
theorem dX6_needNumber_62 : decode cX6_needNumber 62 = .ok (.istore 4, 2) := by decide +kernel
theorem dX6_needNumber_64 : decode cX6_needNumber 64 = .ok (.iconst 0, 1) := by decide +kernel
theorem dX6_needNumber_65 : decode cX6_needNumber 65 = .ok (.istore 5, 2) := by decide +kernel
theorem dX6_needNumber_67 : decode cX6_needNumber 67 = .ok (.aload_n 0, 1) := by decide +kernel
theorem dX6_needNumber_68 : decode cX6_needNumber 68 = .ok (.getfield 19, 3) := by decide +kernel
theorem dX6_needNumber_71 : decode cX6_needNumber 71 = .ok (.aload_n 0, 1) := by decide +kernel
theorem dX6_needNumber_72 : decode cX6_needNumber 72 = .ok (.getfield 15, 3) := by decide +kernel
theorem dX6_needNumber_75 : decode cX6_needNumber 75 = .ok (.if_icmp .ge 57, 3) := by decide +kernel
theorem dX6_needNumber_78 : decode cX6_needNumber 78 = .ok (.aload_n 0, 1) := by decide +kernel
theorem dX6_needNumber_79 : decode cX6_needNumber 79 = .ok (.aload_n 0, 1) := by decide +kernel
theorem dX6_needNumber_80 : decode cX6_needNumber 80 = .ok (.getfield 19, 3) := by decide +kernel
theorem dX6_needNumber_83 : decode cX6_needNumber 83 = .ok (.invokevirtual 64, 3) := by decide +kernel
theorem dX6_needNumber_86 : decode cX6_needNumber 86 = .ok (.ifCond .eq 46, 3) := by decide +kernel
theorem dX6_needNumber_89 : decode cX6_needNumber 89 = .ok (.aload_n 0, 1) := by decide +kernel
theorem dX6_needNumber_90 : decode cX6_needNumber 90 = .ok (.getfield 19, 3) := by decide +kernel
theorem dX6_needNumber_93 : decode cX6_needNumber 93 = .ok (.iload 4, 2) := by decide +kernel
theorem dX6_needNumber_95 : decode cX6_needNumber 95 = .ok (.isub, 1) := by decide +kernel
theorem dX6_needNumber_96 : decode cX6_needNumber 96 = .ok (.iconst 3, 1) := by decide +kernel
theorem dX6_needNumber_97 : decode cX6_needNumber 97 = .ok (.if_icmp .ge 22, 3) := by decide +kernel
theorem dX6_needNumber_100 : decode cX6_needNumber 100 = .ok (.iload 5, 2) := by decide +kernel
theorem dX6_needNumber_102 : decode cX6_needNumber 102 = .ok (.bipush 10, 2) := by decide +kernel
theorem dX6_needNumber_104 : decode cX6_needNumber 104 = .ok (.imul, 1) := by decide +kernel
theorem dX6_needNumber_105 : decode cX6_needNumber 105 = .ok (.aload_n 0, 1) := by decide +kernel
theorem dX6_needNumber_106 : decode cX6_needNumber 106 = .ok (.aload_n 0, 1) := by decide +kernel
theorem dX6_needNumber_107 : decode cX6_needNumber 107 = .ok (.getfield 19, 3) := by decide +kernel
theorem dX6_needNumber_110 : decode cX6_needNumber 110 = .ok (.invokevirtual 31, 3) := by decide +kernel
theorem dX6_needNumber_113 : decode cX6_needNumber 113 = .ok (.iadd, 1) := by decide +kernel
theorem dX6_needNumber_114 : decode cX6_needNumber 114 = .ok (.bipush 48, 2) := by decide +kernel
theorem dX6_needNumber_116 : decode cX6_needNumber 116 = .ok (.isub, 1) := by decide +kernel
theorem dX6_needNumber_117 : decode cX6_needNumber 117 = .ok (.istore 5, 2) := by decide +kernel
theorem dX6_needNumber_119 : decode cX6_needNumber 119 = .ok (.aload_n 0, 1) := by decide +kernel
theorem dX6_needNumber_120 : decode cX6_needNumber 120 = .ok (.dup, 1) := by decide +kernel
theorem dX6_needNumber_121 : decode cX6_needNumber 121 = .ok (.getfield 19, 3) := by decide +kernel
theorem dX6_needNumber_124 : decode cX6_needNumber 124 = .ok (.iconst 1, 1) := by decide +kernel
theorem dX6_needNumber_125 : decode cX6_needNumber 125 = .ok (.iadd, 1) := by decide +kernel
theorem dX6_needNumber_126 : decode cX6_needNumber 126 = .ok (.putfield 19, 3) := by decide +kernel
theorem dX6_needNumber_129 : decode cX6_needNumber 129 = .ok (.goto (-62), 3) := by decide +kernel
theorem dX6_needNumber_132 : decode cX6_needNumber 132 = .ok (.iload_n 3, 1) := by decide +kernel
theorem dX6_needNumber_133 : decode cX6_needNumber 133 = .ok (.ifCond .eq 8, 3) := by decide +kernel
theorem dX6_needNumber_136 : decode cX6_needNumber 136 = .ok (.iload 5, 2) := by decide +kernel
theorem dX6_needNumber_138 : decode cX6_needNumber 138 = .ok (.ineg, 1) := by decide +kernel
theorem dX6_needNumber_139 : decode cX6_needNumber 139 = .ok (.istore 5, 2) := by decide +kernel
theorem dX6_needNumber_141 : decode cX6_needNumber 141 = .ok (.aload_n 0, 1) := by decide +kernel
theorem dX6_needNumber_142 : decode cX6_needNumber 142 = .ok (.getfield 19, 3) := by decide +kernel
theorem dX6_needNumber_145 : decode cX6_needNumber 145 = .ok (.iload 4, 2) := by decide +kernel
theorem dX6_needNumber_147 : decode cX6_needNumber 147 = .ok (.if_icmp .ne 15, 3) := by decide +kernel
theorem dX6_needNumber_150 : decode cX6_needNumber 150 = .ok (.aload_n 0, 1) := by decide +kernel
theorem dX6_needNumber_151 : decode cX6_needNumber 151 = .ok (.iconst 1, 1) := by decide +kernel
theorem dX6_needNumber_152 : decode cX6_needNumber 152 = .ok (.aload_n 0, 1) := by decide +kernel
theorem dX6_needNumber_153 : decode cX6_needNumber 153 = .ok (.getfield 19, 3) := by decide +kernel
theorem dX6_needNumber_156 : decode cX6_needNumber 156 = .ok (.invokevirtual 60, 3) := by decide +kernel
theorem dX6_needNumber_159 : decode cX6_needNumber 159 = .ok (.goto 35, 3) := by decide +kernel
theorem dX6_needNumber_162 : decode cX6_needNumber 162 = .ok (.aload_n 0, 1) := by decide +kernel
theorem dX6_needNumber_163 : decode cX6_needNumber 163 = .ok (.getfield 19, 3) := by decide +kernel
theorem dX6_needNumber_166 : decode cX6_needNumber 166 = .ok (.iload 4, 2) := by decide +kernel
theorem dX6_needNumber_168 : decode cX6_needNumber 168 = .ok (.isub, 1) := by decide +kernel
theorem dX6_needNumber_169 : decode cX6_needNumber 169 = .ok (.iconst 3, 1) := by decide +kernel
theorem dX6_needNumber_170 : decode cX6_needNumber 170 = .ok (.if_icmp .gt 15, 3) := by decide +kernel
theorem dX6_needNumber_173 : decode cX6_needNumber 173 = .ok (.iload 5, 2) := by decide +kernel
theorem dX6_needNumber_175 : decode cX6_needNumber 175 = .ok (.iload_n 1, 1) := by decide +kernel
theorem dX6_needNumber_176 : decode cX6_needNumber 176 = .ok (.if_icmp .lt 9, 3) := by decide +kernel
theorem dX6_needNumber_179 : decode cX6_needNumber 179 = .ok (.iload 5, 2) := by decide +kernel
theorem dX6_needNumber_181 : decode cX6_needNumber 181 = .ok (.iload_n 2, 1) := by decide +kernel
theorem dX6_needNumber_182 : decode cX6_needNumber 182 = .ok (.if_icmp .le 12, 3) := by decide +kernel
theorem dX6_needNumber_185 : decode cX6_needNumber 185 = .ok (.aload_n 0, 1) := by decide +kernel
theorem dX6_needNumber_186 : decode cX6_needNumber 186 = .ok (.iconst 2, 1) := by decide +kernel
theorem dX6_needNumber_187 : decode cX6_needNumber 187 = .ok (.aload_n 0, 1) := by decide +kernel
theorem dX6_needNumber_188 : decode cX6_needNumber 188 = .ok (.getfield 22, 3) := by decide +kernel
theorem dX6_needNumber_191 : decode cX6_needNumber 191 = .ok (.invokevirtual 60, 3) := by decide +kernel
theorem dX6_needNumber_194 : decode cX6_needNumber 194 = .ok (.aload_n 0, 1) := by decide +kernel
theorem dX6_needNumber_195 : decode cX6_needNumber 195 = .ok (.invokevirtual 52, 3) := by decide +kernel
theorem dX6_needNumber_198 : decode cX6_needNumber 198 = .ok (.ifCond .eq 7, 3) := by decide +kernel
theorem dX6_needNumber_201 : decode cX6_needNumber 201 = .ok (.iload_n 1, 1) := by decide +kernel
theorem dX6_needNumber_202 : decode cX6_needNumber 202 = .ok (.goto 5, 3) := by decide +kernel
theorem dX6_needNumber_205 : decode cX6_needNumber 205 = .ok (.iload 5, 2) := by decide +kernel
theorem dX6_needNumber_207 : decode cX6_needNumber 207 = .ok (.ireturn, 1) := by decide +kernel
theorem tw_0 : Cond.selects RX5 yX5_readDoors yX5_readDoors ∈ LW := LWm (i := 0) (by decide +kernel) rfl
theorem tw_1 : Cond.selects RX5 yX5_readClause yX5_readClause ∈ LW := LWm (i := 1) (by decide +kernel) rfl
theorem tw_3 : Cond.selects RX5 yX5_arrivalOf yX5_arrivalOf ∈ LW := LWm (i := 3) (by decide +kernel) rfl
theorem tw_81 : Cond.initialized RX5 ∈ LW := LWm1 (i := 3) (by decide +kernel) rfl
theorem tw_88 : Cond.initialized RJ10 ∈ LW := LWm1 (i := 10) (by decide +kernel) rfl
theorem tw_93 : Cond.initialized RJ9 ∈ LW := LWm1 (i := 15) (by decide +kernel) rfl
theorem tw_112 : Cond.fieldLink RX5 76 "LastPlace$Text" "size" "I" ∈ LW := LWm1 (i := 34) (by decide +kernel) rfl
theorem tw_115 : Cond.fieldLink RX5 52 "LastPlace$Text" "at" "I" ∈ LW := LWm1 (i := 37) (by decide +kernel) rfl
theorem tw_118 : Cond.fieldLink RX5 115 "LastPlace$Text" "numberAt" "I" ∈ LW := LWm1 (i := 40) (by decide +kernel) rfl
theorem tw_146 : Cond.fieldLink RX5 9 "LastPlace$Street" "values" "[I" ∈ LW := LWm1 (i := 68) (by decide +kernel) rfl
theorem tw_150 : Cond.fieldLink RX5 15 "LastPlace$Street" "frees" "[I" ∈ LW := LWm1 (i := 72) (by decide +kernel) rfl
theorem tw_152 : Cond.fieldLink RX5 18 "LastPlace$Street" "prices" "[I" ∈ LW := LWm1 (i := 74) (by decide +kernel) rfl
theorem tw_154 : Cond.fieldLink RX5 21 "LastPlace$Street" "lateness" "[I" ∈ LW := LWm1 (i := 76) (by decide +kernel) rfl
theorem tw_364 : Cond.methodLink RX5 24 arraycopyName ∈ LW := LWm2 (i := 46) (by decide +kernel) rfl
theorem tw_365 : Cond.static arraycopyName ∈ LW := LWm2 (i := 47) (by decide +kernel) rfl
theorem tw_366 : Cond.native arraycopyName ∈ LW := LWm2 (i := 48) (by decide +kernel) rfl
theorem tw_367 : Cond.methodLink RX5 43 yX6_failed ∈ LW := LWm2 (i := 49) (by decide +kernel) rfl
theorem tw_371 : Cond.methodLink RX5 49 yX6_isAtEnd ∈ LW := LWm2 (i := 53) (by decide +kernel) rfl
theorem tw_372 : Cond.instanceMethod yX6_isAtEnd ∈ LW := LWm2 (i := 54) (by decide +kernel) rfl
theorem tw_373 : Cond.selects RX6 yX6_isAtEnd yX6_isAtEnd ∈ LW := LWm2 (i := 55) (by decide +kernel) rfl
set_option maxRecDepth 100000 in theorem tw_374 : Cond.code yX6_isAtEnd cX6_isAtEnd 1 (some .boolean) ∈ LW := LWm2 (i := 56) rfl rfl
theorem tw_383 : Cond.methodLink RX5 56 yX5_takeClauseWord ∈ LW := LWm2 (i := 65) (by decide +kernel) rfl
theorem tw_384 : Cond.static yX5_takeClauseWord ∈ LW := LWm2 (i := 66) (by decide +kernel) rfl
set_option maxRecDepth 100000 in theorem tw_385 : Cond.code yX5_takeClauseWord cX5_takeClauseWord 2 (some .int) ∈ LW := LWm2 (i := 67) rfl rfl
theorem tw_386 : Cond.methodLink RX5 79 yX5_wordOf ∈ LW := LWm2 (i := 68) (by decide +kernel) rfl
theorem tw_387 : Cond.static yX5_wordOf ∈ LW := LWm2 (i := 69) (by decide +kernel) rfl
set_option maxRecDepth 100000 in theorem tw_388 : Cond.code yX5_wordOf cX5_wordOf 1 (some (.object "java/lang/String")) ∈ LW := LWm2 (i := 70) rfl rfl
theorem tw_399 : Cond.methodLink RX5 83 yX6_takeWord ∈ LW := LWm2 (i := 81) (by decide +kernel) rfl
theorem tw_455 : Cond.methodLink RX5 60 yX6_fail ∈ LW := LWm2 (i := 137) (by decide +kernel) rfl
theorem tw_459 : Cond.methodLink RX5 64 yX5_readDoors ∈ LW := LWm2 (i := 141) (by decide +kernel) rfl
theorem tw_461 : Cond.instanceMethod yX5_readDoors ∈ LW := LWm2 (i := 143) (by decide +kernel) rfl
set_option maxRecDepth 100000 in theorem tw_462 : Cond.code yX5_readDoors cX5_readDoors 7 none ∈ LW := LWm2 (i := 144) rfl rfl
theorem tw_467 : Cond.methodLink RX5 112 yX6_needNumber ∈ LW := LWm2 (i := 149) (by decide +kernel) rfl
theorem tw_468 : Cond.instanceMethod yX6_needNumber ∈ LW := LWm2 (i := 150) (by decide +kernel) rfl
theorem tw_469 : Cond.selects RX6 yX6_needNumber yX6_needNumber ∈ LW := LWm2 (i := 151) (by decide +kernel) rfl
set_option maxRecDepth 100000 in theorem tw_470 : Cond.code yX6_needNumber cX6_needNumber 6 (some .int) ∈ LW := LWm2 (i := 152) rfl rfl
theorem tw_477 : Cond.methodLink RX5 72 yX5_doors ∈ LW := LWm2 (i := 159) (by decide +kernel) rfl
theorem tw_478 : Cond.instanceMethod yX5_doors ∈ LW := LWm2 (i := 160) (by decide +kernel) rfl
theorem tw_479 : Cond.selects RX5 yX5_doors yX5_doors ∈ LW := LWm2 (i := 161) (by decide +kernel) rfl
set_option maxRecDepth 100000 in theorem tw_480 : Cond.code yX5_doors cX5_doors 1 (some .int) ∈ LW := LWm2 (i := 162) rfl rfl
theorem tw_482 : Cond.methodLink RX5 120 yX6_needWord ∈ LW := LWm2 (i := 164) (by decide +kernel) rfl
theorem tw_483 : Cond.instanceMethod yX6_needWord ∈ LW := LWm2 (i := 165) (by decide +kernel) rfl
theorem tw_484 : Cond.selects RX6 yX6_needWord yX6_needWord ∈ LW := LWm2 (i := 166) (by decide +kernel) rfl
set_option maxRecDepth 100000 in theorem tw_485 : Cond.code yX6_needWord cX6_needWord 2 none ∈ LW := LWm2 (i := 167) rfl rfl
theorem tw_488 : Cond.methodLink RX5 126 yX6_needSemicolon ∈ LW := LWm2 (i := 170) (by decide +kernel) rfl
theorem tw_489 : Cond.instanceMethod yX6_needSemicolon ∈ LW := LWm2 (i := 171) (by decide +kernel) rfl
theorem tw_490 : Cond.selects RX6 yX6_needSemicolon yX6_needSemicolon ∈ LW := LWm2 (i := 172) (by decide +kernel) rfl
set_option maxRecDepth 100000 in theorem tw_491 : Cond.code yX6_needSemicolon cX6_needSemicolon 1 none ∈ LW := LWm2 (i := 173) rfl rfl
theorem tw_492 : Cond.methodLink RX5 68 yX5_readClause ∈ LW := LWm2 (i := 174) (by decide +kernel) rfl
theorem tw_494 : Cond.instanceMethod yX5_readClause ∈ LW := LWm2 (i := 176) (by decide +kernel) rfl
set_option maxRecDepth 100000 in theorem tw_495 : Cond.code yX5_readClause cX5_readClause 3 none ∈ LW := LWm2 (i := 177) rfl rfl
theorem tw_505 : Cond.methodLink RX5 30 yX5_arrivalOf ∈ LW := LWm2 (i := 187) (by decide +kernel) rfl
theorem tw_507 : Cond.instanceMethod yX5_arrivalOf ∈ LW := LWm2 (i := 189) (by decide +kernel) rfl
set_option maxRecDepth 100000 in theorem tw_508 : Cond.code yX5_arrivalOf cX5_arrivalOf 2 (some .int) ∈ LW := LWm2 (i := 190) rfl rfl
theorem tw_509 : Cond.methodLink RX5 34 yJ9_max_7cf53 ∈ LW := LWm2 (i := 191) (by decide +kernel) rfl
theorem tw_510 : Cond.static yJ9_max_7cf53 ∈ LW := LWm2 (i := 192) (by decide +kernel) rfl
set_option maxRecDepth 100000 in theorem tw_511 : Cond.code yJ9_max_7cf53 cJ9_max_7cf53 2 (some .int) ∈ LW := LWm2 (i := 193) rfl rfl
theorem tw_529 : Cond.static yJ9_min_7cf53 ∈ LW := LWm2 (i := 211) (by decide +kernel) rfl
set_option maxRecDepth 100000 in theorem tw_530 : Cond.code yJ9_min_7cf53 cJ9_min_7cf53 2 (some .int) ∈ LW := LWm2 (i := 212) rfl rfl
theorem tw_540 : Cond.methodLink RX5 129 yJ9_min_7cf53 ∈ LW := LWm2 (i := 222) (by decide +kernel) rfl
theorem tw_560 : Cond.methodLink RX5 132 yX5_takingBy ∈ LW := LWm3 (i := 2) (by decide +kernel) rfl
theorem tw_561 : Cond.instanceMethod yX5_takingBy ∈ LW := LWm3 (i := 3) (by decide +kernel) rfl
theorem tw_562 : Cond.selects RX5 yX5_takingBy yX5_takingBy ∈ LW := LWm3 (i := 4) (by decide +kernel) rfl
set_option maxRecDepth 100000 in theorem tw_563 : Cond.code yX5_takingBy cX5_takingBy 4 (some .int) ∈ LW := LWm3 (i := 5) rfl rfl
theorem x_glue3 : True := trivial
theorem clsplit {n : Nat} (h : 1 ≤ n ∧ n ≤ 9 ∧ n ≠ 8) : n = 1 ∨ n = 2 ∨ n = 3 ∨ n = 4 ∨ n = 5 ∨ n = 6 ∨ n = 7 ∨ n = 9 := by omega

theorem dX5_wordOf_0 : decode cX5_wordOf 0 = .ok (.iload_n 0, 1) := by decide +kernel
theorem dX5_wordOf_1 : decode cX5_wordOf 1 = .ok (.tableswitch 78 0 8 #[51, 54, 57, 60, 63, 66, 69, 72, 75], 51) := by decide +kernel
theorem dX5_wordOf_52 : decode cX5_wordOf 52 = .ok (.ldc 87, 2) := by decide +kernel
theorem dX5_wordOf_54 : decode cX5_wordOf 54 = .ok (.areturn, 1) := by decide +kernel
set_option maxHeartbeats 4000000 in
set_option maxRecDepth 100000 in
theorem x_wordOf_0 (l : Launch) (D : va_G) (k : Nat → ClassId) (st : Nat → Nat) (lo : Nat)   : CRr l D k st lo yX5_wordOf cX5_wordOf 1 (some (.object "java/lang/String")) ({ frames := 0, cells := 0, slots := 0, locals := 0 }) [.int 0] [] (st (100 + 0)) := by
  intro sz
  refine Met.ofW (cc := cX5_wordOf) (maxL := 1) (ret := (some (.object "java/lang/String"))) (by decide) rfl ?_
  intro p e s m args below meth c s₁ B hml hv
  obtain ⟨rfl, hsz, hlo, hP, hK, hDL, hZ⟩ := hv
  have hx := B.exec
  have hb := B.bytes
  have hr := B.returns
  have hts := WS_ts B.pre
  have hown : s.vm.findClass RX5 = some m.cls := findClass_of_methodNamed B.named
  have hlocks := B.notSynchronized
  subst hsz
  have hA : ∀ q : Nat, s.heap.size ≤ q → (fun q : Nat => s.heap.size ≤ q) q := fun _ h => h
  have hAlo : ∀ q : Nat, (fun q : Nat => s.heap.size ≤ q) q → lo ≤ q := fun q h => Nat.le_trans hlo h
  have hS : va_S (fun q : Nat => s.heap.size ≤ q) s.heap s.heap [] := va_S.rf
  have hl := lv_entry ([.int 0]) (n := 1) (Nat.le_of_ble_eq_true rfl)
  rw [lg_entry_eq]
  generalize (lg_sl ([.int 0]) ++ List.replicate (1 - (lg_sl ([.int 0])).length) Slot.unset).toArray = ls at hl ⊢
  have hl : lv_has ls 1 [(0, .int 0)] := hl
  refine lv_iload_n hx hb dX5_wordOf_0 rfl (lv_at hl 0 rfl) ?_
  refine lv_tableIn (tgt := 52) hx hb dX5_wordOf_1 (by decide) (by decide) rfl (by decide) ?_
  refine va_ldcS hx hb hown (hZ.2.2.2.2.2.2.2.2.2.2 (RX5, 87, "doors", 0) (List.mem_of_getElem? (i := 0) rfl)) dX5_wordOf_52 ?_
  exact W.aret (v := .ref (st (100 + 0))) hx hb hr (.inl ⟨_, rfl⟩) (.inr ⟨_, rfl⟩) (fun t ht hW => ⟨⟨(), _, rfl, trivial, rfl⟩, hS.F ht⟩) hS.2.2 dX5_wordOf_54

theorem dX5_wordOf_55 : decode cX5_wordOf 55 = .ok (.ldc 88, 2) := by decide +kernel
theorem dX5_wordOf_57 : decode cX5_wordOf 57 = .ok (.areturn, 1) := by decide +kernel
set_option maxHeartbeats 4000000 in
set_option maxRecDepth 100000 in
theorem x_wordOf_1 (l : Launch) (D : va_G) (k : Nat → ClassId) (st : Nat → Nat) (lo : Nat)   : CRr l D k st lo yX5_wordOf cX5_wordOf 1 (some (.object "java/lang/String")) ({ frames := 0, cells := 0, slots := 0, locals := 0 }) [.int 1] [] (st (100 + 1)) := by
  intro sz
  refine Met.ofW (cc := cX5_wordOf) (maxL := 1) (ret := (some (.object "java/lang/String"))) (by decide) rfl ?_
  intro p e s m args below meth c s₁ B hml hv
  obtain ⟨rfl, hsz, hlo, hP, hK, hDL, hZ⟩ := hv
  have hx := B.exec
  have hb := B.bytes
  have hr := B.returns
  have hts := WS_ts B.pre
  have hown : s.vm.findClass RX5 = some m.cls := findClass_of_methodNamed B.named
  have hlocks := B.notSynchronized
  subst hsz
  have hA : ∀ q : Nat, s.heap.size ≤ q → (fun q : Nat => s.heap.size ≤ q) q := fun _ h => h
  have hAlo : ∀ q : Nat, (fun q : Nat => s.heap.size ≤ q) q → lo ≤ q := fun q h => Nat.le_trans hlo h
  have hS : va_S (fun q : Nat => s.heap.size ≤ q) s.heap s.heap [] := va_S.rf
  have hl := lv_entry ([.int 1]) (n := 1) (Nat.le_of_ble_eq_true rfl)
  rw [lg_entry_eq]
  generalize (lg_sl ([.int 1]) ++ List.replicate (1 - (lg_sl ([.int 1])).length) Slot.unset).toArray = ls at hl ⊢
  have hl : lv_has ls 1 [(0, .int 1)] := hl
  refine lv_iload_n hx hb dX5_wordOf_0 rfl (lv_at hl 0 rfl) ?_
  refine lv_tableIn (tgt := 55) hx hb dX5_wordOf_1 (by decide) (by decide) rfl (by decide) ?_
  refine va_ldcS hx hb hown (hZ.2.2.2.2.2.2.2.2.2.2 (RX5, 88, "alike", 1) (List.mem_of_getElem? (i := 1) rfl)) dX5_wordOf_55 ?_
  exact W.aret (v := .ref (st (100 + 1))) hx hb hr (.inl ⟨_, rfl⟩) (.inr ⟨_, rfl⟩) (fun t ht hW => ⟨⟨(), _, rfl, trivial, rfl⟩, hS.F ht⟩) hS.2.2 dX5_wordOf_57

theorem dX5_wordOf_58 : decode cX5_wordOf 58 = .ok (.ldc 90, 2) := by decide +kernel
theorem dX5_wordOf_60 : decode cX5_wordOf 60 = .ok (.areturn, 1) := by decide +kernel
set_option maxHeartbeats 4000000 in
set_option maxRecDepth 100000 in
theorem x_wordOf_2 (l : Launch) (D : va_G) (k : Nat → ClassId) (st : Nat → Nat) (lo : Nat)   : CRr l D k st lo yX5_wordOf cX5_wordOf 1 (some (.object "java/lang/String")) ({ frames := 0, cells := 0, slots := 0, locals := 0 }) [.int 2] [] (st (100 + 2)) := by
  intro sz
  refine Met.ofW (cc := cX5_wordOf) (maxL := 1) (ret := (some (.object "java/lang/String"))) (by decide) rfl ?_
  intro p e s m args below meth c s₁ B hml hv
  obtain ⟨rfl, hsz, hlo, hP, hK, hDL, hZ⟩ := hv
  have hx := B.exec
  have hb := B.bytes
  have hr := B.returns
  have hts := WS_ts B.pre
  have hown : s.vm.findClass RX5 = some m.cls := findClass_of_methodNamed B.named
  have hlocks := B.notSynchronized
  subst hsz
  have hA : ∀ q : Nat, s.heap.size ≤ q → (fun q : Nat => s.heap.size ≤ q) q := fun _ h => h
  have hAlo : ∀ q : Nat, (fun q : Nat => s.heap.size ≤ q) q → lo ≤ q := fun q h => Nat.le_trans hlo h
  have hS : va_S (fun q : Nat => s.heap.size ≤ q) s.heap s.heap [] := va_S.rf
  have hl := lv_entry ([.int 2]) (n := 1) (Nat.le_of_ble_eq_true rfl)
  rw [lg_entry_eq]
  generalize (lg_sl ([.int 2]) ++ List.replicate (1 - (lg_sl ([.int 2])).length) Slot.unset).toArray = ls at hl ⊢
  have hl : lv_has ls 1 [(0, .int 2)] := hl
  refine lv_iload_n hx hb dX5_wordOf_0 rfl (lv_at hl 0 rfl) ?_
  refine lv_tableIn (tgt := 58) hx hb dX5_wordOf_1 (by decide) (by decide) rfl (by decide) ?_
  refine va_ldcS hx hb hown (hZ.2.2.2.2.2.2.2.2.2.2 (RX5, 90, "walk", 2) (List.mem_of_getElem? (i := 2) rfl)) dX5_wordOf_58 ?_
  exact W.aret (v := .ref (st (100 + 2))) hx hb hr (.inl ⟨_, rfl⟩) (.inr ⟨_, rfl⟩) (fun t ht hW => ⟨⟨(), _, rfl, trivial, rfl⟩, hS.F ht⟩) hS.2.2 dX5_wordOf_60

theorem dX5_wordOf_61 : decode cX5_wordOf 61 = .ok (.ldc 92, 2) := by decide +kernel
theorem dX5_wordOf_63 : decode cX5_wordOf 63 = .ok (.areturn, 1) := by decide +kernel
set_option maxHeartbeats 4000000 in
set_option maxRecDepth 100000 in
theorem x_wordOf_3 (l : Launch) (D : va_G) (k : Nat → ClassId) (st : Nat → Nat) (lo : Nat)   : CRr l D k st lo yX5_wordOf cX5_wordOf 1 (some (.object "java/lang/String")) ({ frames := 0, cells := 0, slots := 0, locals := 0 }) [.int 3] [] (st (100 + 3)) := by
  intro sz
  refine Met.ofW (cc := cX5_wordOf) (maxL := 1) (ret := (some (.object "java/lang/String"))) (by decide) rfl ?_
  intro p e s m args below meth c s₁ B hml hv
  obtain ⟨rfl, hsz, hlo, hP, hK, hDL, hZ⟩ := hv
  have hx := B.exec
  have hb := B.bytes
  have hr := B.returns
  have hts := WS_ts B.pre
  have hown : s.vm.findClass RX5 = some m.cls := findClass_of_methodNamed B.named
  have hlocks := B.notSynchronized
  subst hsz
  have hA : ∀ q : Nat, s.heap.size ≤ q → (fun q : Nat => s.heap.size ≤ q) q := fun _ h => h
  have hAlo : ∀ q : Nat, (fun q : Nat => s.heap.size ≤ q) q → lo ≤ q := fun q h => Nat.le_trans hlo h
  have hS : va_S (fun q : Nat => s.heap.size ≤ q) s.heap s.heap [] := va_S.rf
  have hl := lv_entry ([.int 3]) (n := 1) (Nat.le_of_ble_eq_true rfl)
  rw [lg_entry_eq]
  generalize (lg_sl ([.int 3]) ++ List.replicate (1 - (lg_sl ([.int 3])).length) Slot.unset).toArray = ls at hl ⊢
  have hl : lv_has ls 1 [(0, .int 3)] := hl
  refine lv_iload_n hx hb dX5_wordOf_0 rfl (lv_at hl 0 rfl) ?_
  refine lv_tableIn (tgt := 61) hx hb dX5_wordOf_1 (by decide) (by decide) rfl (by decide) ?_
  refine va_ldcS hx hb hown (hZ.2.2.2.2.2.2.2.2.2.2 (RX5, 92, "drive", 3) (List.mem_of_getElem? (i := 3) rfl)) dX5_wordOf_61 ?_
  exact W.aret (v := .ref (st (100 + 3))) hx hb hr (.inl ⟨_, rfl⟩) (.inr ⟨_, rfl⟩) (fun t ht hW => ⟨⟨(), _, rfl, trivial, rfl⟩, hS.F ht⟩) hS.2.2 dX5_wordOf_63

theorem dX5_wordOf_64 : decode cX5_wordOf 64 = .ok (.ldc 94, 2) := by decide +kernel
theorem dX5_wordOf_66 : decode cX5_wordOf 66 = .ok (.areturn, 1) := by decide +kernel
set_option maxHeartbeats 4000000 in
set_option maxRecDepth 100000 in
theorem x_wordOf_4 (l : Launch) (D : va_G) (k : Nat → ClassId) (st : Nat → Nat) (lo : Nat)   : CRr l D k st lo yX5_wordOf cX5_wordOf 1 (some (.object "java/lang/String")) ({ frames := 0, cells := 0, slots := 0, locals := 0 }) [.int 4] [] (st (100 + 4)) := by
  intro sz
  refine Met.ofW (cc := cX5_wordOf) (maxL := 1) (ret := (some (.object "java/lang/String"))) (by decide) rfl ?_
  intro p e s m args below meth c s₁ B hml hv
  obtain ⟨rfl, hsz, hlo, hP, hK, hDL, hZ⟩ := hv
  have hx := B.exec
  have hb := B.bytes
  have hr := B.returns
  have hts := WS_ts B.pre
  have hown : s.vm.findClass RX5 = some m.cls := findClass_of_methodNamed B.named
  have hlocks := B.notSynchronized
  subst hsz
  have hA : ∀ q : Nat, s.heap.size ≤ q → (fun q : Nat => s.heap.size ≤ q) q := fun _ h => h
  have hAlo : ∀ q : Nat, (fun q : Nat => s.heap.size ≤ q) q → lo ≤ q := fun q h => Nat.le_trans hlo h
  have hS : va_S (fun q : Nat => s.heap.size ≤ q) s.heap s.heap [] := va_S.rf
  have hl := lv_entry ([.int 4]) (n := 1) (Nat.le_of_ble_eq_true rfl)
  rw [lg_entry_eq]
  generalize (lg_sl ([.int 4]) ++ List.replicate (1 - (lg_sl ([.int 4])).length) Slot.unset).toArray = ls at hl ⊢
  have hl : lv_has ls 1 [(0, .int 4)] := hl
  refine lv_iload_n hx hb dX5_wordOf_0 rfl (lv_at hl 0 rfl) ?_
  refine lv_tableIn (tgt := 64) hx hb dX5_wordOf_1 (by decide) (by decide) rfl (by decide) ?_
  refine va_ldcS hx hb hown (hZ.2.2.2.2.2.2.2.2.2.2 (RX5, 94, "late", 4) (List.mem_of_getElem? (i := 4) rfl)) dX5_wordOf_64 ?_
  exact W.aret (v := .ref (st (100 + 4))) hx hb hr (.inl ⟨_, rfl⟩) (.inr ⟨_, rfl⟩) (fun t ht hW => ⟨⟨(), _, rfl, trivial, rfl⟩, hS.F ht⟩) hS.2.2 dX5_wordOf_66

theorem dX5_wordOf_67 : decode cX5_wordOf 67 = .ok (.ldc 96, 2) := by decide +kernel
theorem dX5_wordOf_69 : decode cX5_wordOf 69 = .ok (.areturn, 1) := by decide +kernel
set_option maxHeartbeats 4000000 in
set_option maxRecDepth 100000 in
theorem x_wordOf_5 (l : Launch) (D : va_G) (k : Nat → ClassId) (st : Nat → Nat) (lo : Nat)   : CRr l D k st lo yX5_wordOf cX5_wordOf 1 (some (.object "java/lang/String")) ({ frames := 0, cells := 0, slots := 0, locals := 0 }) [.int 5] [] (st (100 + 5)) := by
  intro sz
  refine Met.ofW (cc := cX5_wordOf) (maxL := 1) (ret := (some (.object "java/lang/String"))) (by decide) rfl ?_
  intro p e s m args below meth c s₁ B hml hv
  obtain ⟨rfl, hsz, hlo, hP, hK, hDL, hZ⟩ := hv
  have hx := B.exec
  have hb := B.bytes
  have hr := B.returns
  have hts := WS_ts B.pre
  have hown : s.vm.findClass RX5 = some m.cls := findClass_of_methodNamed B.named
  have hlocks := B.notSynchronized
  subst hsz
  have hA : ∀ q : Nat, s.heap.size ≤ q → (fun q : Nat => s.heap.size ≤ q) q := fun _ h => h
  have hAlo : ∀ q : Nat, (fun q : Nat => s.heap.size ≤ q) q → lo ≤ q := fun q h => Nat.le_trans hlo h
  have hS : va_S (fun q : Nat => s.heap.size ≤ q) s.heap s.heap [] := va_S.rf
  have hl := lv_entry ([.int 5]) (n := 1) (Nat.le_of_ble_eq_true rfl)
  rw [lg_entry_eq]
  generalize (lg_sl ([.int 5]) ++ List.replicate (1 - (lg_sl ([.int 5])).length) Slot.unset).toArray = ls at hl ⊢
  have hl : lv_has ls 1 [(0, .int 5)] := hl
  refine lv_iload_n hx hb dX5_wordOf_0 rfl (lv_at hl 0 rfl) ?_
  refine lv_tableIn (tgt := 67) hx hb dX5_wordOf_1 (by decide) (by decide) rfl (by decide) ?_
  refine va_ldcS hx hb hown (hZ.2.2.2.2.2.2.2.2.2.2 (RX5, 96, "curtain", 5) (List.mem_of_getElem? (i := 5) rfl)) dX5_wordOf_67 ?_
  exact W.aret (v := .ref (st (100 + 5))) hx hb hr (.inl ⟨_, rfl⟩) (.inr ⟨_, rfl⟩) (fun t ht hW => ⟨⟨(), _, rfl, trivial, rfl⟩, hS.F ht⟩) hS.2.2 dX5_wordOf_69

theorem dX5_wordOf_70 : decode cX5_wordOf 70 = .ok (.ldc 98, 2) := by decide +kernel
theorem dX5_wordOf_72 : decode cX5_wordOf 72 = .ok (.areturn, 1) := by decide +kernel
set_option maxHeartbeats 4000000 in
set_option maxRecDepth 100000 in
theorem x_wordOf_6 (l : Launch) (D : va_G) (k : Nat → ClassId) (st : Nat → Nat) (lo : Nat)   : CRr l D k st lo yX5_wordOf cX5_wordOf 1 (some (.object "java/lang/String")) ({ frames := 0, cells := 0, slots := 0, locals := 0 }) [.int 6] [] (st (100 + 6)) := by
  intro sz
  refine Met.ofW (cc := cX5_wordOf) (maxL := 1) (ret := (some (.object "java/lang/String"))) (by decide) rfl ?_
  intro p e s m args below meth c s₁ B hml hv
  obtain ⟨rfl, hsz, hlo, hP, hK, hDL, hZ⟩ := hv
  have hx := B.exec
  have hb := B.bytes
  have hr := B.returns
  have hts := WS_ts B.pre
  have hown : s.vm.findClass RX5 = some m.cls := findClass_of_methodNamed B.named
  have hlocks := B.notSynchronized
  subst hsz
  have hA : ∀ q : Nat, s.heap.size ≤ q → (fun q : Nat => s.heap.size ≤ q) q := fun _ h => h
  have hAlo : ∀ q : Nat, (fun q : Nat => s.heap.size ≤ q) q → lo ≤ q := fun q h => Nat.le_trans hlo h
  have hS : va_S (fun q : Nat => s.heap.size ≤ q) s.heap s.heap [] := va_S.rf
  have hl := lv_entry ([.int 6]) (n := 1) (Nat.le_of_ble_eq_true rfl)
  rw [lg_entry_eq]
  generalize (lg_sl ([.int 6]) ++ List.replicate (1 - (lg_sl ([.int 6])).length) Slot.unset).toArray = ls at hl ⊢
  have hl : lv_has ls 1 [(0, .int 6)] := hl
  refine lv_iload_n hx hb dX5_wordOf_0 rfl (lv_at hl 0 rfl) ?_
  refine lv_tableIn (tgt := 70) hx hb dX5_wordOf_1 (by decide) (by decide) rfl (by decide) ?_
  refine va_ldcS hx hb hown (hZ.2.2.2.2.2.2.2.2.2.2 (RX5, 98, "see", 6) (List.mem_of_getElem? (i := 6) rfl)) dX5_wordOf_70 ?_
  exact W.aret (v := .ref (st (100 + 6))) hx hb hr (.inl ⟨_, rfl⟩) (.inr ⟨_, rfl⟩) (fun t ht hW => ⟨⟨(), _, rfl, trivial, rfl⟩, hS.F ht⟩) hS.2.2 dX5_wordOf_72

theorem dX5_wordOf_73 : decode cX5_wordOf 73 = .ok (.ldc 100, 2) := by decide +kernel
theorem dX5_wordOf_75 : decode cX5_wordOf 75 = .ok (.areturn, 1) := by decide +kernel
set_option maxHeartbeats 4000000 in
set_option maxRecDepth 100000 in
theorem x_wordOf_7 (l : Launch) (D : va_G) (k : Nat → ClassId) (st : Nat → Nat) (lo : Nat)   : CRr l D k st lo yX5_wordOf cX5_wordOf 1 (some (.object "java/lang/String")) ({ frames := 0, cells := 0, slots := 0, locals := 0 }) [.int 7] [] (st (100 + 7)) := by
  intro sz
  refine Met.ofW (cc := cX5_wordOf) (maxL := 1) (ret := (some (.object "java/lang/String"))) (by decide) rfl ?_
  intro p e s m args below meth c s₁ B hml hv
  obtain ⟨rfl, hsz, hlo, hP, hK, hDL, hZ⟩ := hv
  have hx := B.exec
  have hb := B.bytes
  have hr := B.returns
  have hts := WS_ts B.pre
  have hown : s.vm.findClass RX5 = some m.cls := findClass_of_methodNamed B.named
  have hlocks := B.notSynchronized
  subst hsz
  have hA : ∀ q : Nat, s.heap.size ≤ q → (fun q : Nat => s.heap.size ≤ q) q := fun _ h => h
  have hAlo : ∀ q : Nat, (fun q : Nat => s.heap.size ≤ q) q → lo ≤ q := fun q h => Nat.le_trans hlo h
  have hS : va_S (fun q : Nat => s.heap.size ≤ q) s.heap s.heap [] := va_S.rf
  have hl := lv_entry ([.int 7]) (n := 1) (Nat.le_of_ble_eq_true rfl)
  rw [lg_entry_eq]
  generalize (lg_sl ([.int 7]) ++ List.replicate (1 - (lg_sl ([.int 7])).length) Slot.unset).toArray = ls at hl ⊢
  have hl : lv_has ls 1 [(0, .int 7)] := hl
  refine lv_iload_n hx hb dX5_wordOf_0 rfl (lv_at hl 0 rfl) ?_
  refine lv_tableIn (tgt := 73) hx hb dX5_wordOf_1 (by decide) (by decide) rfl (by decide) ?_
  refine va_ldcS hx hb hown (hZ.2.2.2.2.2.2.2.2.2.2 (RX5, 100, "round", 7) (List.mem_of_getElem? (i := 7) rfl)) dX5_wordOf_73 ?_
  exact W.aret (v := .ref (st (100 + 7))) hx hb hr (.inl ⟨_, rfl⟩) (.inr ⟨_, rfl⟩) (fun t ht hW => ⟨⟨(), _, rfl, trivial, rfl⟩, hS.F ht⟩) hS.2.2 dX5_wordOf_75

theorem dX5_wordOf_76 : decode cX5_wordOf 76 = .ok (.ldc 102, 2) := by decide +kernel
theorem dX5_wordOf_78 : decode cX5_wordOf 78 = .ok (.areturn, 1) := by decide +kernel
set_option maxHeartbeats 4000000 in
set_option maxRecDepth 100000 in
theorem x_wordOf_8 (l : Launch) (D : va_G) (k : Nat → ClassId) (st : Nat → Nat) (lo : Nat)   : CRr l D k st lo yX5_wordOf cX5_wordOf 1 (some (.object "java/lang/String")) ({ frames := 0, cells := 0, slots := 0, locals := 0 }) [.int 8] [] (st (100 + 8)) := by
  intro sz
  refine Met.ofW (cc := cX5_wordOf) (maxL := 1) (ret := (some (.object "java/lang/String"))) (by decide) rfl ?_
  intro p e s m args below meth c s₁ B hml hv
  obtain ⟨rfl, hsz, hlo, hP, hK, hDL, hZ⟩ := hv
  have hx := B.exec
  have hb := B.bytes
  have hr := B.returns
  have hts := WS_ts B.pre
  have hown : s.vm.findClass RX5 = some m.cls := findClass_of_methodNamed B.named
  have hlocks := B.notSynchronized
  subst hsz
  have hA : ∀ q : Nat, s.heap.size ≤ q → (fun q : Nat => s.heap.size ≤ q) q := fun _ h => h
  have hAlo : ∀ q : Nat, (fun q : Nat => s.heap.size ≤ q) q → lo ≤ q := fun q h => Nat.le_trans hlo h
  have hS : va_S (fun q : Nat => s.heap.size ≤ q) s.heap s.heap [] := va_S.rf
  have hl := lv_entry ([.int 8]) (n := 1) (Nat.le_of_ble_eq_true rfl)
  rw [lg_entry_eq]
  generalize (lg_sl ([.int 8]) ++ List.replicate (1 - (lg_sl ([.int 8])).length) Slot.unset).toArray = ls at hl ⊢
  have hl : lv_has ls 1 [(0, .int 8)] := hl
  refine lv_iload_n hx hb dX5_wordOf_0 rfl (lv_at hl 0 rfl) ?_
  refine lv_tableIn (tgt := 76) hx hb dX5_wordOf_1 (by decide) (by decide) rfl (by decide) ?_
  refine va_ldcS hx hb hown (hZ.2.2.2.2.2.2.2.2.2.2 (RX5, 102, "times", 8) (List.mem_of_getElem? (i := 8) rfl)) dX5_wordOf_76 ?_
  exact W.aret (v := .ref (st (100 + 8))) hx hb hr (.inl ⟨_, rfl⟩) (.inr ⟨_, rfl⟩) (fun t ht hW => ⟨⟨(), _, rfl, trivial, rfl⟩, hS.F ht⟩) hS.2.2 dX5_wordOf_78

theorem dX5_wordOf_79 : decode cX5_wordOf 79 = .ok (.ldc 104, 2) := by decide +kernel
theorem dX5_wordOf_81 : decode cX5_wordOf 81 = .ok (.areturn, 1) := by decide +kernel
set_option maxHeartbeats 4000000 in
set_option maxRecDepth 100000 in
theorem x_wordOf_9 (l : Launch) (D : va_G) (k : Nat → ClassId) (st : Nat → Nat) (lo : Nat)   : CRr l D k st lo yX5_wordOf cX5_wordOf 1 (some (.object "java/lang/String")) ({ frames := 0, cells := 0, slots := 0, locals := 0 }) [.int 9] [] (st (100 + 9)) := by
  intro sz
  refine Met.ofW (cc := cX5_wordOf) (maxL := 1) (ret := (some (.object "java/lang/String"))) (by decide) rfl ?_
  intro p e s m args below meth c s₁ B hml hv
  obtain ⟨rfl, hsz, hlo, hP, hK, hDL, hZ⟩ := hv
  have hx := B.exec
  have hb := B.bytes
  have hr := B.returns
  have hts := WS_ts B.pre
  have hown : s.vm.findClass RX5 = some m.cls := findClass_of_methodNamed B.named
  have hlocks := B.notSynchronized
  subst hsz
  have hA : ∀ q : Nat, s.heap.size ≤ q → (fun q : Nat => s.heap.size ≤ q) q := fun _ h => h
  have hAlo : ∀ q : Nat, (fun q : Nat => s.heap.size ≤ q) q → lo ≤ q := fun q h => Nat.le_trans hlo h
  have hS : va_S (fun q : Nat => s.heap.size ≤ q) s.heap s.heap [] := va_S.rf
  have hl := lv_entry ([.int 9]) (n := 1) (Nat.le_of_ble_eq_true rfl)
  rw [lg_entry_eq]
  generalize (lg_sl ([.int 9]) ++ List.replicate (1 - (lg_sl ([.int 9])).length) Slot.unset).toArray = ls at hl ⊢
  have hl : lv_has ls 1 [(0, .int 9)] := hl
  refine lv_iload_n hx hb dX5_wordOf_0 rfl (lv_at hl 0 rfl) ?_
  refine lv_tableOut (tgt := 79) hx hb dX5_wordOf_1 (by decide) (by decide) ?_
  refine va_ldcS hx hb hown (hZ.2.2.2.2.2.2.2.2.2.2 (RX5, 104, "garage", 9) (List.mem_of_getElem? (i := 9) rfl)) dX5_wordOf_79 ?_
  exact W.aret (v := .ref (st (100 + 9))) hx hb hr (.inl ⟨_, rfl⟩) (.inr ⟨_, rfl⟩) (fun t ht hW => ⟨⟨(), _, rfl, trivial, rfl⟩, hS.F ht⟩) hS.2.2 dX5_wordOf_81

theorem dX5_doors_0 : decode cX5_doors 0 = .ok (.aload_n 0, 1) := by decide +kernel
theorem dX5_doors_1 : decode cX5_doors 1 = .ok (.getfield 9, 3) := by decide +kernel
theorem dX5_doors_4 : decode cX5_doors 4 = .ok (.iconst 0, 1) := by decide +kernel
theorem dX5_doors_5 : decode cX5_doors 5 = .ok (.iaload, 1) := by decide +kernel
theorem dX5_doors_6 : decode cX5_doors 6 = .ok (.ireturn, 1) := by decide +kernel
set_option maxHeartbeats 4000000 in
set_option maxRecDepth 100000 in
theorem x_doors (l : Launch) (D : va_G) (k : Nat → ClassId) (st : Nat → Nat) (lo : Nat) (h0 : Nat) (h1 : Nat) (h2 : Nat) (h3 : Nat) (h4 : Nat) (n : Nat) (see : Nat) (tm : Nat) (g : Nat → Int32)  : CRi l D k st lo yX5_doors cX5_doors 1 (some .int) ({ frames := 0, cells := 0, slots := 0, locals := 0 }) [.ref h0] [(h0, .inr (5, (fX5 h1 h2 h3 h4))), (aI k h1 10 (vv n see tm g))] (fun r => r = nI n) := by
  intro sz
  refine Met.ofW (cc := cX5_doors) (maxL := 1) (ret := (some .int)) (by decide) rfl ?_
  intro p e s m args below meth c s₁ B hml hv
  obtain ⟨rfl, hsz, hlo, hP, hK, hDL, hZ⟩ := hv
  have hx := B.exec
  have hb := B.bytes
  have hr := B.returns
  have hts := WS_ts B.pre
  have hown : s.vm.findClass RX5 = some m.cls := findClass_of_methodNamed B.named
  have hlocks := B.notSynchronized
  subst hsz
  have hA : ∀ q : Nat, s.heap.size ≤ q → (fun q : Nat => s.heap.size ≤ q) q := fun _ h => h
  have hAlo : ∀ q : Nat, (fun q : Nat => s.heap.size ≤ q) q → lo ≤ q := fun q h => Nat.le_trans hlo h
  have hS : va_S (fun q : Nat => s.heap.size ≤ q) s.heap s.heap [] := va_S.rf
  have hl := lv_entry ([.ref h0]) (n := 1) (Nat.le_of_ble_eq_true rfl)
  rw [lg_entry_eq]
  generalize (lg_sl ([.ref h0]) ++ List.replicate (1 - (lg_sl ([.ref h0])).length) Slot.unset).toArray = ls at hl ⊢
  have hl : lv_has ls 1 [(0, .ref h0)] := hl
  refine lv_aload_n hx hb dX5_doors_0 rfl (lv_at hl 0 rfl) ?_
  refine va_get (D := D) (ci := 5) (v := .ref h1) (C := RX5) (T := TX5) (N := 4) hx hb hts inX5 hown hK hP 0 rfl rfl 0 (by decide) (hts _ tw_146) (fun _ h9 => h9) rfl dX5_doors_1 ?_
  refine lv_iconst (v := 0) hx hb dX5_doors_4 (by decide) ?_
  refine va_iald hx hb hK hP 1 1 rfl rfl (by unfold vp_in; decide) dX5_doors_5 ?_
  refine lv_ti (y := (nI n)) (by rfl) ?_
  exact W.iret (v := (nI n)) hx hb hr (fun t ht hW => ⟨⟨(nI n), (), rfl, rfl, trivial⟩, hS.F ht⟩) hS.2.2 dX5_doors_6

theorem f_x_arrivalOf_rows : True := trivial
theorem dX5_arrivalOf_0 : decode cX5_arrivalOf 0 = .ok (.iload_n 1, 1) := by decide +kernel
theorem dX5_arrivalOf_1 : decode cX5_arrivalOf 1 = .ok (.aload_n 0, 1) := by decide +kernel
theorem dX5_arrivalOf_2 : decode cX5_arrivalOf 2 = .ok (.getfield 9, 3) := by decide +kernel
theorem dX5_arrivalOf_5 : decode cX5_arrivalOf 5 = .ok (.iconst 0, 1) := by decide +kernel
theorem dX5_arrivalOf_6 : decode cX5_arrivalOf 6 = .ok (.iaload, 1) := by decide +kernel
theorem dX5_arrivalOf_7 : decode cX5_arrivalOf 7 = .ok (.aload_n 0, 1) := by decide +kernel
theorem dX5_arrivalOf_8 : decode cX5_arrivalOf 8 = .ok (.getfield 9, 3) := by decide +kernel
theorem dX5_arrivalOf_11 : decode cX5_arrivalOf 11 = .ok (.bipush 7, 2) := by decide +kernel
theorem dX5_arrivalOf_13 : decode cX5_arrivalOf 13 = .ok (.iaload, 1) := by decide +kernel
theorem dX5_arrivalOf_14 : decode cX5_arrivalOf 14 = .ok (.iadd, 1) := by decide +kernel
theorem dX5_arrivalOf_15 : decode cX5_arrivalOf 15 = .ok (.imul, 1) := by decide +kernel
theorem dX5_arrivalOf_16 : decode cX5_arrivalOf 16 = .ok (.aload_n 0, 1) := by decide +kernel
theorem dX5_arrivalOf_17 : decode cX5_arrivalOf 17 = .ok (.getfield 9, 3) := by decide +kernel
theorem dX5_arrivalOf_20 : decode cX5_arrivalOf 20 = .ok (.iconst 0, 1) := by decide +kernel
theorem dX5_arrivalOf_21 : decode cX5_arrivalOf 21 = .ok (.iaload, 1) := by decide +kernel
theorem dX5_arrivalOf_22 : decode cX5_arrivalOf 22 = .ok (.iadd, 1) := by decide +kernel
theorem dX5_arrivalOf_23 : decode cX5_arrivalOf 23 = .ok (.ireturn, 1) := by decide +kernel
theorem f_x_become_rows : True := trivial
theorem dX5_become_0 : decode cX5_become 0 = .ok (.aload_n 1, 1) := by decide +kernel
theorem dX5_become_1 : decode cX5_become 1 = .ok (.getfield 9, 3) := by decide +kernel
theorem dX5_become_4 : decode cX5_become 4 = .ok (.iconst 0, 1) := by decide +kernel
theorem dX5_become_5 : decode cX5_become 5 = .ok (.aload_n 0, 1) := by decide +kernel
theorem dX5_become_6 : decode cX5_become 6 = .ok (.getfield 9, 3) := by decide +kernel
theorem dX5_become_9 : decode cX5_become 9 = .ok (.iconst 0, 1) := by decide +kernel
theorem dX5_become_10 : decode cX5_become 10 = .ok (.bipush 10, 2) := by decide +kernel
theorem dX5_become_12 : decode cX5_become 12 = .ok (.invokestatic 24, 3) := by decide +kernel
theorem dX5_become_15 : decode cX5_become 15 = .ok (.aload_n 1, 1) := by decide +kernel
theorem dX5_become_16 : decode cX5_become 16 = .ok (.getfield 15, 3) := by decide +kernel
theorem dX5_become_19 : decode cX5_become 19 = .ok (.iconst 0, 1) := by decide +kernel
theorem dX5_become_20 : decode cX5_become 20 = .ok (.aload_n 0, 1) := by decide +kernel
theorem dX5_become_21 : decode cX5_become 21 = .ok (.getfield 15, 3) := by decide +kernel
theorem dX5_become_24 : decode cX5_become 24 = .ok (.iconst 0, 1) := by decide +kernel
theorem dX5_become_25 : decode cX5_become 25 = .ok (.bipush 24, 2) := by decide +kernel
theorem dX5_become_27 : decode cX5_become 27 = .ok (.invokestatic 24, 3) := by decide +kernel
theorem dX5_become_30 : decode cX5_become 30 = .ok (.aload_n 1, 1) := by decide +kernel
theorem dX5_become_31 : decode cX5_become 31 = .ok (.getfield 18, 3) := by decide +kernel
theorem dX5_become_34 : decode cX5_become 34 = .ok (.iconst 0, 1) := by decide +kernel
theorem dX5_become_35 : decode cX5_become 35 = .ok (.aload_n 0, 1) := by decide +kernel
theorem dX5_become_36 : decode cX5_become 36 = .ok (.getfield 18, 3) := by decide +kernel
theorem dX5_become_39 : decode cX5_become 39 = .ok (.iconst 0, 1) := by decide +kernel
theorem dX5_become_40 : decode cX5_become 40 = .ok (.bipush 24, 2) := by decide +kernel
theorem dX5_become_42 : decode cX5_become 42 = .ok (.invokestatic 24, 3) := by decide +kernel
theorem dX5_become_45 : decode cX5_become 45 = .ok (.iconst 0, 1) := by decide +kernel
theorem dX5_become_46 : decode cX5_become 46 = .ok (.istore_n 2, 1) := by decide +kernel
theorem dX5_become_47 : decode cX5_become 47 = .ok (.iload_n 2, 1) := by decide +kernel
theorem dX5_become_48 : decode cX5_become 48 = .ok (.iconst 4, 1) := by decide +kernel
theorem dX5_become_49 : decode cX5_become 49 = .ok (.if_icmp .ge 38, 3) := by decide +kernel
theorem dX5_become_52 : decode cX5_become 52 = .ok (.aload_n 0, 1) := by decide +kernel
theorem dX5_become_53 : decode cX5_become 53 = .ok (.getfield 21, 3) := by decide +kernel
theorem dX5_become_56 : decode cX5_become 56 = .ok (.iload_n 2, 1) := by decide +kernel
theorem dX5_become_57 : decode cX5_become 57 = .ok (.aload_n 0, 1) := by decide +kernel
theorem dX5_become_58 : decode cX5_become 58 = .ok (.getfield 9, 3) := by decide +kernel
theorem dX5_become_61 : decode cX5_become 61 = .ok (.iconst 4, 1) := by decide +kernel
theorem dX5_become_62 : decode cX5_become 62 = .ok (.iaload, 1) := by decide +kernel
theorem dX5_become_63 : decode cX5_become 63 = .ok (.iconst 0, 1) := by decide +kernel
theorem dX5_become_64 : decode cX5_become 64 = .ok (.aload_n 0, 1) := by decide +kernel
theorem dX5_become_65 : decode cX5_become 65 = .ok (.iload_n 2, 1) := by decide +kernel
theorem dX5_become_66 : decode cX5_become 66 = .ok (.invokevirtual 30, 3) := by decide +kernel
theorem dX5_become_69 : decode cX5_become 69 = .ok (.aload_n 0, 1) := by decide +kernel
theorem dX5_become_70 : decode cX5_become 70 = .ok (.getfield 9, 3) := by decide +kernel
theorem dX5_become_73 : decode cX5_become 73 = .ok (.iconst 5, 1) := by decide +kernel
theorem dX5_become_74 : decode cX5_become 74 = .ok (.iaload, 1) := by decide +kernel
theorem dX5_become_75 : decode cX5_become 75 = .ok (.isub, 1) := by decide +kernel
theorem dX5_become_76 : decode cX5_become 76 = .ok (.invokestatic 34, 3) := by decide +kernel
theorem dX5_become_79 : decode cX5_become 79 = .ok (.imul, 1) := by decide +kernel
theorem dX5_become_80 : decode cX5_become 80 = .ok (.iastore, 1) := by decide +kernel
theorem dX5_become_81 : decode cX5_become 81 = .ok (.iinc 2 1, 3) := by decide +kernel
theorem dX5_become_84 : decode cX5_become 84 = .ok (.goto (-37), 3) := by decide +kernel
theorem dX5_become_87 : decode cX5_become 87 = .ok (.return_, 1) := by decide +kernel
theorem f_x_takeClauseWord_rows : True := trivial
theorem dX5_takeClauseWord_0 : decode cX5_takeClauseWord 0 = .ok (.iconst 0, 1) := by decide +kernel
theorem dX5_takeClauseWord_1 : decode cX5_takeClauseWord 1 = .ok (.istore_n 1, 1) := by decide +kernel
theorem dX5_takeClauseWord_2 : decode cX5_takeClauseWord 2 = .ok (.iload_n 1, 1) := by decide +kernel
theorem dX5_takeClauseWord_3 : decode cX5_takeClauseWord 3 = .ok (.bipush 10, 2) := by decide +kernel
theorem dX5_takeClauseWord_5 : decode cX5_takeClauseWord 5 = .ok (.if_icmp .ge 28, 3) := by decide +kernel
theorem dX5_takeClauseWord_8 : decode cX5_takeClauseWord 8 = .ok (.iload_n 1, 1) := by decide +kernel
theorem dX5_takeClauseWord_9 : decode cX5_takeClauseWord 9 = .ok (.bipush 8, 2) := by decide +kernel
theorem dX5_takeClauseWord_11 : decode cX5_takeClauseWord 11 = .ok (.if_icmp .eq 16, 3) := by decide +kernel
theorem dX5_takeClauseWord_14 : decode cX5_takeClauseWord 14 = .ok (.aload_n 0, 1) := by decide +kernel
theorem dX5_takeClauseWord_15 : decode cX5_takeClauseWord 15 = .ok (.iload_n 1, 1) := by decide +kernel
theorem dX5_takeClauseWord_16 : decode cX5_takeClauseWord 16 = .ok (.invokestatic 79, 3) := by decide +kernel
theorem dX5_takeClauseWord_19 : decode cX5_takeClauseWord 19 = .ok (.invokevirtual 83, 3) := by decide +kernel
theorem dX5_takeClauseWord_22 : decode cX5_takeClauseWord 22 = .ok (.ifCond .eq 5, 3) := by decide +kernel
theorem dX5_takeClauseWord_25 : decode cX5_takeClauseWord 25 = .ok (.iload_n 1, 1) := by decide +kernel
theorem dX5_takeClauseWord_26 : decode cX5_takeClauseWord 26 = .ok (.ireturn, 1) := by decide +kernel
theorem dX5_takeClauseWord_27 : decode cX5_takeClauseWord 27 = .ok (.iinc 1 1, 3) := by decide +kernel
theorem dX5_takeClauseWord_30 : decode cX5_takeClauseWord 30 = .ok (.goto (-28), 3) := by decide +kernel
theorem dX5_takeClauseWord_33 : decode cX5_takeClauseWord 33 = .ok (.iconst (-1), 1) := by decide +kernel
theorem dX5_takeClauseWord_34 : decode cX5_takeClauseWord 34 = .ok (.ireturn, 1) := by decide +kernel
theorem f_x_readDoors_rows : True := trivial
theorem dX5_readDoors_0 : decode cX5_readDoors 0 = .ok (.aload_n 1, 1) := by decide +kernel
theorem dX5_readDoors_1 : decode cX5_readDoors 1 = .ok (.getstatic 106, 3) := by decide +kernel
theorem dX5_readDoors_4 : decode cX5_readDoors 4 = .ok (.iconst 0, 1) := by decide +kernel
theorem dX5_readDoors_5 : decode cX5_readDoors 5 = .ok (.iaload, 1) := by decide +kernel
theorem dX5_readDoors_6 : decode cX5_readDoors 6 = .ok (.getstatic 109, 3) := by decide +kernel
theorem dX5_readDoors_9 : decode cX5_readDoors 9 = .ok (.iconst 0, 1) := by decide +kernel
theorem dX5_readDoors_10 : decode cX5_readDoors 10 = .ok (.iaload, 1) := by decide +kernel
theorem dX5_readDoors_11 : decode cX5_readDoors 11 = .ok (.invokevirtual 112, 3) := by decide +kernel
theorem dX5_readDoors_14 : decode cX5_readDoors 14 = .ok (.istore_n 2, 1) := by decide +kernel
theorem dX5_readDoors_15 : decode cX5_readDoors 15 = .ok (.aload_n 0, 1) := by decide +kernel
theorem dX5_readDoors_16 : decode cX5_readDoors 16 = .ok (.invokevirtual 72, 3) := by decide +kernel
theorem dX5_readDoors_19 : decode cX5_readDoors 19 = .ok (.istore_n 3, 1) := by decide +kernel
theorem dX5_readDoors_20 : decode cX5_readDoors 20 = .ok (.aload_n 1, 1) := by decide +kernel
theorem dX5_readDoors_21 : decode cX5_readDoors 21 = .ok (.invokevirtual 43, 3) := by decide +kernel
theorem dX5_readDoors_24 : decode cX5_readDoors 24 = .ok (.ifCond .ne 20, 3) := by decide +kernel
theorem dX5_readDoors_27 : decode cX5_readDoors 27 = .ok (.iload_n 3, 1) := by decide +kernel
theorem dX5_readDoors_28 : decode cX5_readDoors 28 = .ok (.iload_n 2, 1) := by decide +kernel
theorem dX5_readDoors_29 : decode cX5_readDoors 29 = .ok (.iadd, 1) := by decide +kernel
theorem dX5_readDoors_30 : decode cX5_readDoors 30 = .ok (.bipush 24, 2) := by decide +kernel
theorem dX5_readDoors_32 : decode cX5_readDoors 32 = .ok (.if_icmp .le 12, 3) := by decide +kernel
theorem dX5_readDoors_35 : decode cX5_readDoors 35 = .ok (.aload_n 1, 1) := by decide +kernel
theorem dX5_readDoors_36 : decode cX5_readDoors 36 = .ok (.iconst 4, 1) := by decide +kernel
theorem dX5_readDoors_37 : decode cX5_readDoors 37 = .ok (.aload_n 1, 1) := by decide +kernel
theorem dX5_readDoors_38 : decode cX5_readDoors 38 = .ok (.getfield 115, 3) := by decide +kernel
theorem dX5_readDoors_41 : decode cX5_readDoors 41 = .ok (.invokevirtual 60, 3) := by decide +kernel
theorem dX5_readDoors_44 : decode cX5_readDoors 44 = .ok (.aload_n 1, 1) := by decide +kernel
theorem dX5_readDoors_45 : decode cX5_readDoors 45 = .ok (.ldc 118, 2) := by decide +kernel
theorem dX5_readDoors_47 : decode cX5_readDoors 47 = .ok (.invokevirtual 120, 3) := by decide +kernel
theorem dX5_readDoors_50 : decode cX5_readDoors 50 = .ok (.aload_n 1, 1) := by decide +kernel
theorem dX5_readDoors_51 : decode cX5_readDoors 51 = .ok (.iconst 0, 1) := by decide +kernel
theorem dX5_readDoors_52 : decode cX5_readDoors 52 = .ok (.bipush 100, 2) := by decide +kernel
theorem dX5_readDoors_54 : decode cX5_readDoors 54 = .ok (.invokevirtual 112, 3) := by decide +kernel
theorem dX5_readDoors_57 : decode cX5_readDoors 57 = .ok (.istore 4, 2) := by decide +kernel
theorem dX5_readDoors_59 : decode cX5_readDoors 59 = .ok (.aload_n 1, 1) := by decide +kernel
theorem dX5_readDoors_60 : decode cX5_readDoors 60 = .ok (.ldc 124, 2) := by decide +kernel
theorem dX5_readDoors_62 : decode cX5_readDoors 62 = .ok (.invokevirtual 120, 3) := by decide +kernel
theorem dX5_readDoors_65 : decode cX5_readDoors 65 = .ok (.aload_n 1, 1) := by decide +kernel
theorem dX5_readDoors_66 : decode cX5_readDoors 66 = .ok (.iconst 0, 1) := by decide +kernel
theorem dX5_readDoors_67 : decode cX5_readDoors 67 = .ok (.sipush 999, 3) := by decide +kernel
theorem dX5_readDoors_70 : decode cX5_readDoors 70 = .ok (.invokevirtual 112, 3) := by decide +kernel
theorem dX5_readDoors_73 : decode cX5_readDoors 73 = .ok (.istore 5, 2) := by decide +kernel
theorem dX5_readDoors_75 : decode cX5_readDoors 75 = .ok (.aload_n 1, 1) := by decide +kernel
theorem dX5_readDoors_76 : decode cX5_readDoors 76 = .ok (.invokevirtual 126, 3) := by decide +kernel
theorem dX5_readDoors_79 : decode cX5_readDoors 79 = .ok (.aload_n 1, 1) := by decide +kernel
theorem dX5_readDoors_80 : decode cX5_readDoors 80 = .ok (.invokevirtual 43, 3) := by decide +kernel
theorem dX5_readDoors_83 : decode cX5_readDoors 83 = .ok (.ifCond .eq 4, 3) := by decide +kernel
theorem dX5_readDoors_86 : decode cX5_readDoors 86 = .ok (.return_, 1) := by decide +kernel
theorem dX5_readDoors_87 : decode cX5_readDoors 87 = .ok (.iload_n 3, 1) := by decide +kernel
theorem dX5_readDoors_88 : decode cX5_readDoors 88 = .ok (.istore 6, 2) := by decide +kernel
theorem dX5_readDoors_90 : decode cX5_readDoors 90 = .ok (.iload 6, 2) := by decide +kernel
theorem dX5_readDoors_92 : decode cX5_readDoors 92 = .ok (.iload_n 3, 1) := by decide +kernel
theorem dX5_readDoors_93 : decode cX5_readDoors 93 = .ok (.iload_n 2, 1) := by decide +kernel
theorem dX5_readDoors_94 : decode cX5_readDoors 94 = .ok (.iadd, 1) := by decide +kernel
theorem dX5_readDoors_95 : decode cX5_readDoors 95 = .ok (.if_icmp .ge 34, 3) := by decide +kernel
theorem dX5_readDoors_98 : decode cX5_readDoors 98 = .ok (.iload 6, 2) := by decide +kernel
theorem dX5_readDoors_100 : decode cX5_readDoors 100 = .ok (.bipush 24, 2) := by decide +kernel
theorem dX5_readDoors_102 : decode cX5_readDoors 102 = .ok (.if_icmp .ge 27, 3) := by decide +kernel
theorem dX5_readDoors_105 : decode cX5_readDoors 105 = .ok (.aload_n 0, 1) := by decide +kernel
theorem dX5_readDoors_106 : decode cX5_readDoors 106 = .ok (.getfield 15, 3) := by decide +kernel
theorem dX5_readDoors_109 : decode cX5_readDoors 109 = .ok (.iload 6, 2) := by decide +kernel
theorem dX5_readDoors_111 : decode cX5_readDoors 111 = .ok (.iload 4, 2) := by decide +kernel
theorem dX5_readDoors_113 : decode cX5_readDoors 113 = .ok (.iastore, 1) := by decide +kernel
theorem dX5_readDoors_114 : decode cX5_readDoors 114 = .ok (.aload_n 0, 1) := by decide +kernel
theorem dX5_readDoors_115 : decode cX5_readDoors 115 = .ok (.getfield 18, 3) := by decide +kernel
theorem dX5_readDoors_118 : decode cX5_readDoors 118 = .ok (.iload 6, 2) := by decide +kernel
theorem dX5_readDoors_120 : decode cX5_readDoors 120 = .ok (.iload 5, 2) := by decide +kernel
theorem dX5_readDoors_122 : decode cX5_readDoors 122 = .ok (.iastore, 1) := by decide +kernel
theorem dX5_readDoors_123 : decode cX5_readDoors 123 = .ok (.iinc 6 1, 3) := by decide +kernel
theorem dX5_readDoors_126 : decode cX5_readDoors 126 = .ok (.goto (-36), 3) := by decide +kernel
theorem dX5_readDoors_129 : decode cX5_readDoors 129 = .ok (.aload_n 0, 1) := by decide +kernel
theorem dX5_readDoors_130 : decode cX5_readDoors 130 = .ok (.getfield 9, 3) := by decide +kernel
theorem dX5_readDoors_133 : decode cX5_readDoors 133 = .ok (.iconst 0, 1) := by decide +kernel
theorem dX5_readDoors_134 : decode cX5_readDoors 134 = .ok (.iload_n 3, 1) := by decide +kernel
theorem dX5_readDoors_135 : decode cX5_readDoors 135 = .ok (.iload_n 2, 1) := by decide +kernel
theorem dX5_readDoors_136 : decode cX5_readDoors 136 = .ok (.iadd, 1) := by decide +kernel
theorem dX5_readDoors_137 : decode cX5_readDoors 137 = .ok (.iastore, 1) := by decide +kernel
theorem dX5_readDoors_138 : decode cX5_readDoors 138 = .ok (.return_, 1) := by decide +kernel
theorem f_x_readClause_rows : True := trivial
theorem dX5_readClause_0 : decode cX5_readClause 0 = .ok (.aload_n 0, 1) := by decide +kernel
theorem dX5_readClause_1 : decode cX5_readClause 1 = .ok (.getfield 9, 3) := by decide +kernel
theorem dX5_readClause_4 : decode cX5_readClause 4 = .ok (.iload_n 2, 1) := by decide +kernel
theorem dX5_readClause_5 : decode cX5_readClause 5 = .ok (.aload_n 1, 1) := by decide +kernel
theorem dX5_readClause_6 : decode cX5_readClause 6 = .ok (.getstatic 106, 3) := by decide +kernel
theorem dX5_readClause_9 : decode cX5_readClause 9 = .ok (.iload_n 2, 1) := by decide +kernel
theorem dX5_readClause_10 : decode cX5_readClause 10 = .ok (.iaload, 1) := by decide +kernel
theorem dX5_readClause_11 : decode cX5_readClause 11 = .ok (.getstatic 109, 3) := by decide +kernel
theorem dX5_readClause_14 : decode cX5_readClause 14 = .ok (.iload_n 2, 1) := by decide +kernel
theorem dX5_readClause_15 : decode cX5_readClause 15 = .ok (.iaload, 1) := by decide +kernel
theorem dX5_readClause_16 : decode cX5_readClause 16 = .ok (.invokevirtual 112, 3) := by decide +kernel
theorem dX5_readClause_19 : decode cX5_readClause 19 = .ok (.iastore, 1) := by decide +kernel
theorem dX5_readClause_20 : decode cX5_readClause 20 = .ok (.iload_n 2, 1) := by decide +kernel
theorem dX5_readClause_21 : decode cX5_readClause 21 = .ok (.bipush 7, 2) := by decide +kernel
theorem dX5_readClause_23 : decode cX5_readClause 23 = .ok (.if_icmp .ne 35, 3) := by decide +kernel
theorem dX5_readClause_26 : decode cX5_readClause 26 = .ok (.aload_n 1, 1) := by decide +kernel
theorem dX5_readClause_27 : decode cX5_readClause 27 = .ok (.bipush 8, 2) := by decide +kernel
theorem dX5_readClause_29 : decode cX5_readClause 29 = .ok (.invokestatic 79, 3) := by decide +kernel
theorem dX5_readClause_32 : decode cX5_readClause 32 = .ok (.invokevirtual 120, 3) := by decide +kernel
theorem dX5_readClause_35 : decode cX5_readClause 35 = .ok (.aload_n 0, 1) := by decide +kernel
theorem dX5_readClause_36 : decode cX5_readClause 36 = .ok (.getfield 9, 3) := by decide +kernel
theorem dX5_readClause_39 : decode cX5_readClause 39 = .ok (.bipush 8, 2) := by decide +kernel
theorem dX5_readClause_41 : decode cX5_readClause 41 = .ok (.aload_n 1, 1) := by decide +kernel
theorem dX5_readClause_42 : decode cX5_readClause 42 = .ok (.getstatic 106, 3) := by decide +kernel
theorem dX5_readClause_45 : decode cX5_readClause 45 = .ok (.bipush 8, 2) := by decide +kernel
theorem dX5_readClause_47 : decode cX5_readClause 47 = .ok (.iaload, 1) := by decide +kernel
theorem dX5_readClause_48 : decode cX5_readClause 48 = .ok (.getstatic 109, 3) := by decide +kernel
theorem dX5_readClause_51 : decode cX5_readClause 51 = .ok (.bipush 8, 2) := by decide +kernel
theorem dX5_readClause_53 : decode cX5_readClause 53 = .ok (.iaload, 1) := by decide +kernel
theorem dX5_readClause_54 : decode cX5_readClause 54 = .ok (.invokevirtual 112, 3) := by decide +kernel
theorem dX5_readClause_57 : decode cX5_readClause 57 = .ok (.iastore, 1) := by decide +kernel
theorem dX5_readClause_58 : decode cX5_readClause 58 = .ok (.aload_n 1, 1) := by decide +kernel
theorem dX5_readClause_59 : decode cX5_readClause 59 = .ok (.invokevirtual 126, 3) := by decide +kernel
theorem dX5_readClause_62 : decode cX5_readClause 62 = .ok (.return_, 1) := by decide +kernel
theorem f_x_Street_readFrom_rows : True := trivial
theorem dX5_readFrom_0 : decode cX5_readFrom 0 = .ok (.getstatic 40, 3) := by decide +kernel
theorem dX5_readFrom_3 : decode cX5_readFrom 3 = .ok (.iconst 0, 1) := by decide +kernel
theorem dX5_readFrom_4 : decode cX5_readFrom 4 = .ok (.aload_n 0, 1) := by decide +kernel
theorem dX5_readFrom_5 : decode cX5_readFrom 5 = .ok (.getfield 9, 3) := by decide +kernel
theorem dX5_readFrom_8 : decode cX5_readFrom 8 = .ok (.iconst 0, 1) := by decide +kernel
theorem dX5_readFrom_9 : decode cX5_readFrom 9 = .ok (.bipush 10, 2) := by decide +kernel
theorem dX5_readFrom_11 : decode cX5_readFrom 11 = .ok (.invokestatic 24, 3) := by decide +kernel
theorem dX5_readFrom_14 : decode cX5_readFrom 14 = .ok (.iconst 0, 1) := by decide +kernel
theorem dX5_readFrom_15 : decode cX5_readFrom 15 = .ok (.istore_n 2, 1) := by decide +kernel
theorem dX5_readFrom_16 : decode cX5_readFrom 16 = .ok (.iconst 0, 1) := by decide +kernel
theorem dX5_readFrom_17 : decode cX5_readFrom 17 = .ok (.istore_n 3, 1) := by decide +kernel
theorem dX5_readFrom_18 : decode cX5_readFrom 18 = .ok (.iload_n 3, 1) := by decide +kernel
theorem dX5_readFrom_19 : decode cX5_readFrom 19 = .ok (.sipush 240, 3) := by decide +kernel
theorem dX5_readFrom_22 : decode cX5_readFrom 22 = .ok (.if_icmp .ge 97, 3) := by decide +kernel
theorem dX5_readFrom_25 : decode cX5_readFrom 25 = .ok (.aload_n 1, 1) := by decide +kernel
theorem dX5_readFrom_26 : decode cX5_readFrom 26 = .ok (.invokevirtual 43, 3) := by decide +kernel
theorem dX5_readFrom_29 : decode cX5_readFrom 29 = .ok (.ifCond .ne 90, 3) := by decide +kernel
theorem dX5_readFrom_32 : decode cX5_readFrom 32 = .ok (.aload_n 1, 1) := by decide +kernel
theorem dX5_readFrom_33 : decode cX5_readFrom 33 = .ok (.invokevirtual 49, 3) := by decide +kernel
theorem dX5_readFrom_36 : decode cX5_readFrom 36 = .ok (.ifCond .ne 83, 3) := by decide +kernel
theorem dX5_readFrom_39 : decode cX5_readFrom 39 = .ok (.aload_n 1, 1) := by decide +kernel
theorem dX5_readFrom_40 : decode cX5_readFrom 40 = .ok (.getfield 52, 3) := by decide +kernel
theorem dX5_readFrom_43 : decode cX5_readFrom 43 = .ok (.istore 4, 2) := by decide +kernel
theorem dX5_readFrom_45 : decode cX5_readFrom 45 = .ok (.aload_n 1, 1) := by decide +kernel
theorem dX5_readFrom_46 : decode cX5_readFrom 46 = .ok (.invokestatic 56, 3) := by decide +kernel
theorem dX5_readFrom_49 : decode cX5_readFrom 49 = .ok (.istore 5, 2) := by decide +kernel
theorem dX5_readFrom_51 : decode cX5_readFrom 51 = .ok (.iload 5, 2) := by decide +kernel
theorem dX5_readFrom_53 : decode cX5_readFrom 53 = .ok (.iconst (-1), 1) := by decide +kernel
theorem dX5_readFrom_54 : decode cX5_readFrom 54 = .ok (.if_icmp .ne 13, 3) := by decide +kernel
theorem dX5_readFrom_57 : decode cX5_readFrom 57 = .ok (.aload_n 1, 1) := by decide +kernel
theorem dX5_readFrom_58 : decode cX5_readFrom 58 = .ok (.iconst 1, 1) := by decide +kernel
theorem dX5_readFrom_59 : decode cX5_readFrom 59 = .ok (.iload 4, 2) := by decide +kernel
theorem dX5_readFrom_61 : decode cX5_readFrom 61 = .ok (.invokevirtual 60, 3) := by decide +kernel
theorem dX5_readFrom_64 : decode cX5_readFrom 64 = .ok (.goto 49, 3) := by decide +kernel
theorem dX5_readFrom_67 : decode cX5_readFrom 67 = .ok (.iload_n 2, 1) := by decide +kernel
theorem dX5_readFrom_68 : decode cX5_readFrom 68 = .ok (.iload 5, 2) := by decide +kernel
theorem dX5_readFrom_70 : decode cX5_readFrom 70 = .ok (.ishr, 1) := by decide +kernel
theorem dX5_readFrom_71 : decode cX5_readFrom 71 = .ok (.iconst 1, 1) := by decide +kernel
theorem dX5_readFrom_72 : decode cX5_readFrom 72 = .ok (.iand, 1) := by decide +kernel
theorem dX5_readFrom_73 : decode cX5_readFrom 73 = .ok (.ifCond .eq 13, 3) := by decide +kernel
theorem dX5_readFrom_76 : decode cX5_readFrom 76 = .ok (.aload_n 1, 1) := by decide +kernel
theorem dX5_readFrom_77 : decode cX5_readFrom 77 = .ok (.iconst 3, 1) := by decide +kernel
theorem dX5_readFrom_78 : decode cX5_readFrom 78 = .ok (.iload 4, 2) := by decide +kernel
theorem dX5_readFrom_80 : decode cX5_readFrom 80 = .ok (.invokevirtual 60, 3) := by decide +kernel
theorem dX5_readFrom_83 : decode cX5_readFrom 83 = .ok (.goto 30, 3) := by decide +kernel
theorem dX5_readFrom_86 : decode cX5_readFrom 86 = .ok (.iload 5, 2) := by decide +kernel
theorem dX5_readFrom_88 : decode cX5_readFrom 88 = .ok (.ifCond .ne 11, 3) := by decide +kernel
theorem dX5_readFrom_91 : decode cX5_readFrom 91 = .ok (.aload_n 0, 1) := by decide +kernel
theorem dX5_readFrom_92 : decode cX5_readFrom 92 = .ok (.aload_n 1, 1) := by decide +kernel
theorem dX5_readFrom_93 : decode cX5_readFrom 93 = .ok (.invokevirtual 64, 3) := by decide +kernel
theorem dX5_readFrom_96 : decode cX5_readFrom 96 = .ok (.goto 17, 3) := by decide +kernel
theorem dX5_readFrom_99 : decode cX5_readFrom 99 = .ok (.aload_n 0, 1) := by decide +kernel
theorem dX5_readFrom_100 : decode cX5_readFrom 100 = .ok (.aload_n 1, 1) := by decide +kernel
theorem dX5_readFrom_101 : decode cX5_readFrom 101 = .ok (.iload 5, 2) := by decide +kernel
theorem dX5_readFrom_103 : decode cX5_readFrom 103 = .ok (.invokevirtual 68, 3) := by decide +kernel
theorem dX5_readFrom_106 : decode cX5_readFrom 106 = .ok (.iload_n 2, 1) := by decide +kernel
theorem dX5_readFrom_107 : decode cX5_readFrom 107 = .ok (.iconst 1, 1) := by decide +kernel
theorem dX5_readFrom_108 : decode cX5_readFrom 108 = .ok (.iload 5, 2) := by decide +kernel
theorem dX5_readFrom_110 : decode cX5_readFrom 110 = .ok (.ishl, 1) := by decide +kernel
theorem dX5_readFrom_111 : decode cX5_readFrom 111 = .ok (.ior, 1) := by decide +kernel
theorem dX5_readFrom_112 : decode cX5_readFrom 112 = .ok (.istore_n 2, 1) := by decide +kernel
theorem dX5_readFrom_113 : decode cX5_readFrom 113 = .ok (.iinc 3 1, 3) := by decide +kernel
theorem dX5_readFrom_116 : decode cX5_readFrom 116 = .ok (.goto (-98), 3) := by decide +kernel
theorem dX5_readFrom_119 : decode cX5_readFrom 119 = .ok (.aload_n 1, 1) := by decide +kernel
theorem dX5_readFrom_120 : decode cX5_readFrom 120 = .ok (.invokevirtual 43, 3) := by decide +kernel
theorem dX5_readFrom_123 : decode cX5_readFrom 123 = .ok (.ifCond .ne 19, 3) := by decide +kernel
theorem dX5_readFrom_126 : decode cX5_readFrom 126 = .ok (.aload_n 0, 1) := by decide +kernel
theorem dX5_readFrom_127 : decode cX5_readFrom 127 = .ok (.invokevirtual 72, 3) := by decide +kernel
theorem dX5_readFrom_130 : decode cX5_readFrom 130 = .ok (.ifCond .ne 12, 3) := by decide +kernel
theorem dX5_readFrom_133 : decode cX5_readFrom 133 = .ok (.aload_n 1, 1) := by decide +kernel
theorem dX5_readFrom_134 : decode cX5_readFrom 134 = .ok (.iconst 1, 1) := by decide +kernel
theorem dX5_readFrom_135 : decode cX5_readFrom 135 = .ok (.aload_n 1, 1) := by decide +kernel
theorem dX5_readFrom_136 : decode cX5_readFrom 136 = .ok (.getfield 76, 3) := by decide +kernel
theorem dX5_readFrom_139 : decode cX5_readFrom 139 = .ok (.invokevirtual 60, 3) := by decide +kernel
theorem dX5_readFrom_142 : decode cX5_readFrom 142 = .ok (.return_, 1) := by decide +kernel
theorem f_x_chanceOf_rows : True := trivial
theorem dX5_chanceOf_0 : decode cX5_chanceOf 0 = .ok (.iload_n 1, 1) := by decide +kernel
theorem dX5_chanceOf_1 : decode cX5_chanceOf 1 = .ok (.ifCond .ne 10, 3) := by decide +kernel
theorem dX5_chanceOf_4 : decode cX5_chanceOf 4 = .ok (.aload_n 0, 1) := by decide +kernel
theorem dX5_chanceOf_5 : decode cX5_chanceOf 5 = .ok (.getfield 15, 3) := by decide +kernel
theorem dX5_chanceOf_8 : decode cX5_chanceOf 8 = .ok (.iload_n 1, 1) := by decide +kernel
theorem dX5_chanceOf_9 : decode cX5_chanceOf 9 = .ok (.iaload, 1) := by decide +kernel
theorem dX5_chanceOf_10 : decode cX5_chanceOf 10 = .ok (.ireturn, 1) := by decide +kernel
theorem dX5_chanceOf_11 : decode cX5_chanceOf 11 = .ok (.iload_n 2, 1) := by decide +kernel
theorem dX5_chanceOf_12 : decode cX5_chanceOf 12 = .ok (.ifCond .eq 19, 3) := by decide +kernel
theorem dX5_chanceOf_15 : decode cX5_chanceOf 15 = .ok (.aload_n 0, 1) := by decide +kernel
theorem dX5_chanceOf_16 : decode cX5_chanceOf 16 = .ok (.getfield 15, 3) := by decide +kernel
theorem dX5_chanceOf_19 : decode cX5_chanceOf 19 = .ok (.iload_n 1, 1) := by decide +kernel
theorem dX5_chanceOf_20 : decode cX5_chanceOf 20 = .ok (.iaload, 1) := by decide +kernel
theorem dX5_chanceOf_21 : decode cX5_chanceOf 21 = .ok (.aload_n 0, 1) := by decide +kernel
theorem dX5_chanceOf_22 : decode cX5_chanceOf 22 = .ok (.getfield 9, 3) := by decide +kernel
theorem dX5_chanceOf_25 : decode cX5_chanceOf 25 = .ok (.iconst 1, 1) := by decide +kernel
theorem dX5_chanceOf_26 : decode cX5_chanceOf 26 = .ok (.iaload, 1) := by decide +kernel
theorem dX5_chanceOf_27 : decode cX5_chanceOf 27 = .ok (.iadd, 1) := by decide +kernel
theorem dX5_chanceOf_28 : decode cX5_chanceOf 28 = .ok (.goto 16, 3) := by decide +kernel
theorem dX5_chanceOf_31 : decode cX5_chanceOf 31 = .ok (.aload_n 0, 1) := by decide +kernel
theorem dX5_chanceOf_32 : decode cX5_chanceOf 32 = .ok (.getfield 15, 3) := by decide +kernel
theorem dX5_chanceOf_35 : decode cX5_chanceOf 35 = .ok (.iload_n 1, 1) := by decide +kernel
theorem dX5_chanceOf_36 : decode cX5_chanceOf 36 = .ok (.iaload, 1) := by decide +kernel
theorem dX5_chanceOf_37 : decode cX5_chanceOf 37 = .ok (.aload_n 0, 1) := by decide +kernel
theorem dX5_chanceOf_38 : decode cX5_chanceOf 38 = .ok (.getfield 9, 3) := by decide +kernel
theorem dX5_chanceOf_41 : decode cX5_chanceOf 41 = .ok (.iconst 1, 1) := by decide +kernel
theorem dX5_chanceOf_42 : decode cX5_chanceOf 42 = .ok (.iaload, 1) := by decide +kernel
theorem dX5_chanceOf_43 : decode cX5_chanceOf 43 = .ok (.isub, 1) := by decide +kernel
theorem dX5_chanceOf_44 : decode cX5_chanceOf 44 = .ok (.istore_n 3, 1) := by decide +kernel
theorem dX5_chanceOf_45 : decode cX5_chanceOf 45 = .ok (.iconst 0, 1) := by decide +kernel
theorem dX5_chanceOf_46 : decode cX5_chanceOf 46 = .ok (.bipush 100, 2) := by decide +kernel
theorem dX5_chanceOf_48 : decode cX5_chanceOf 48 = .ok (.iload_n 3, 1) := by decide +kernel
theorem dX5_chanceOf_49 : decode cX5_chanceOf 49 = .ok (.invokestatic 129, 3) := by decide +kernel
theorem dX5_chanceOf_52 : decode cX5_chanceOf 52 = .ok (.invokestatic 34, 3) := by decide +kernel
theorem dX5_chanceOf_55 : decode cX5_chanceOf 55 = .ok (.ireturn, 1) := by decide +kernel
theorem f_x_isLateIn_rows : True := trivial
theorem dX5_isLateIn_0 : decode cX5_isLateIn 0 = .ok (.aload_n 0, 1) := by decide +kernel
theorem dX5_isLateIn_1 : decode cX5_isLateIn 1 = .ok (.iload_n 1, 1) := by decide +kernel
theorem dX5_isLateIn_2 : decode cX5_isLateIn 2 = .ok (.invokevirtual 30, 3) := by decide +kernel
theorem dX5_isLateIn_5 : decode cX5_isLateIn 5 = .ok (.aload_n 0, 1) := by decide +kernel
theorem dX5_isLateIn_6 : decode cX5_isLateIn 6 = .ok (.getfield 9, 3) := by decide +kernel
theorem dX5_isLateIn_9 : decode cX5_isLateIn 9 = .ok (.iconst 5, 1) := by decide +kernel
theorem dX5_isLateIn_10 : decode cX5_isLateIn 10 = .ok (.iaload, 1) := by decide +kernel
theorem dX5_isLateIn_11 : decode cX5_isLateIn 11 = .ok (.if_icmp .le 7, 3) := by decide +kernel
theorem dX5_isLateIn_14 : decode cX5_isLateIn 14 = .ok (.iconst 1, 1) := by decide +kernel
theorem dX5_isLateIn_15 : decode cX5_isLateIn 15 = .ok (.goto 4, 3) := by decide +kernel
theorem dX5_isLateIn_18 : decode cX5_isLateIn 18 = .ok (.iconst 0, 1) := by decide +kernel
theorem dX5_isLateIn_19 : decode cX5_isLateIn 19 = .ok (.ireturn, 1) := by decide +kernel
theorem dX5_takingBy_0 : decode cX5_takingBy 0 = .ok (.aload_n 0, 1) := by decide +kernel
theorem dX5_takingBy_1 : decode cX5_takingBy 1 = .ok (.getfield 18, 3) := by decide +kernel
theorem dX5_takingBy_4 : decode cX5_takingBy 4 = .ok (.iload_n 3, 1) := by decide +kernel
theorem dX5_takingBy_5 : decode cX5_takingBy 5 = .ok (.iaload, 1) := by decide +kernel
theorem dX5_takingBy_6 : decode cX5_takingBy 6 = .ok (.iload_n 1, 1) := by decide +kernel
theorem dX5_takingBy_7 : decode cX5_takingBy 7 = .ok (.aload_n 0, 1) := by decide +kernel
theorem dX5_takingBy_8 : decode cX5_takingBy 8 = .ok (.getfield 9, 3) := by decide +kernel
theorem dX5_takingBy_11 : decode cX5_takingBy 11 = .ok (.iconst 0, 1) := by decide +kernel
theorem dX5_takingBy_12 : decode cX5_takingBy 12 = .ok (.iaload, 1) := by decide +kernel
theorem dX5_takingBy_13 : decode cX5_takingBy 13 = .ok (.iload_n 3, 1) := by decide +kernel
theorem dX5_takingBy_14 : decode cX5_takingBy 14 = .ok (.isub, 1) := by decide +kernel
theorem dX5_takingBy_15 : decode cX5_takingBy 15 = .ok (.imul, 1) := by decide +kernel
theorem dX5_takingBy_16 : decode cX5_takingBy 16 = .ok (.iadd, 1) := by decide +kernel
theorem dX5_takingBy_17 : decode cX5_takingBy 17 = .ok (.aload_n 0, 1) := by decide +kernel
theorem dX5_takingBy_18 : decode cX5_takingBy 18 = .ok (.getfield 21, 3) := by decide +kernel
theorem dX5_takingBy_21 : decode cX5_takingBy 21 = .ok (.iload_n 2, 1) := by decide +kernel
theorem dX5_takingBy_22 : decode cX5_takingBy 22 = .ok (.iaload, 1) := by decide +kernel
theorem dX5_takingBy_23 : decode cX5_takingBy 23 = .ok (.iadd, 1) := by decide +kernel
theorem dX5_takingBy_24 : decode cX5_takingBy 24 = .ok (.sipush 1000, 3) := by decide +kernel
theorem dX5_takingBy_27 : decode cX5_takingBy 27 = .ok (.imul, 1) := by decide +kernel
theorem dX5_takingBy_28 : decode cX5_takingBy 28 = .ok (.ireturn, 1) := by decide +kernel
set_option maxHeartbeats 4000000 in
set_option maxRecDepth 100000 in
theorem x_takingBy (l : Launch) (D : va_G) (k : Nat → ClassId) (st : Nat → Nat) (lo : Nat) (h0 : Nat) (h1 : Nat) (h2 : Nat) (h3 : Nat) (h4 : Nat) (n : Nat) (see : Nat) (tm : Nat) (g : Nat → Int32) (fp : Nat → Int32) (fl : Nat → Int32) (p0 : Int32) (rn : Nat) (i : Nat) (hrn : rn ≤ 3) (hi : i < 24) : CRi l D k st lo yX5_takingBy cX5_takingBy 4 (some .int) ({ frames := 0, cells := 0, slots := 0, locals := 0 }) [.ref h0, .int p0, .int (nI rn), .int (nI i)] [(h0, .inr (5, (fX5 h1 h2 h3 h4))), (aI k h1 10 (vv n see tm g)), (aI k h3 24 fp), (aI k h4 4 fl)] (fun _ => True) := by
  intro sz
  refine Met.ofW (cc := cX5_takingBy) (maxL := 4) (ret := (some .int)) (by decide) rfl ?_
  intro p e s m args below meth c s₁ B hml hv
  obtain ⟨rfl, hsz, hlo, hP, hK, hDL, hZ⟩ := hv
  have hx := B.exec
  have hb := B.bytes
  have hr := B.returns
  have hts := WS_ts B.pre
  have hown : s.vm.findClass RX5 = some m.cls := findClass_of_methodNamed B.named
  have hlocks := B.notSynchronized
  subst hsz
  have hA : ∀ q : Nat, s.heap.size ≤ q → (fun q : Nat => s.heap.size ≤ q) q := fun _ h => h
  have hAlo : ∀ q : Nat, (fun q : Nat => s.heap.size ≤ q) q → lo ≤ q := fun q h => Nat.le_trans hlo h
  have hS : va_S (fun q : Nat => s.heap.size ≤ q) s.heap s.heap [] := va_S.rf
  have hl := lv_entry ([.ref h0, .int p0, .int (nI rn), .int (nI i)]) (n := 4) (Nat.le_of_ble_eq_true rfl)
  rw [lg_entry_eq]
  generalize (lg_sl ([.ref h0, .int p0, .int (nI rn), .int (nI i)]) ++ List.replicate (4 - (lg_sl ([.ref h0, .int p0, .int (nI rn), .int (nI i)])).length) Slot.unset).toArray = ls at hl ⊢
  have hl : lv_has ls 4 [(0, .ref h0), (1, .int p0), (2, .int (nI rn)), (3, .int (nI i))] := hl
  refine lv_aload_n hx hb dX5_takingBy_0 rfl (lv_at hl 0 rfl) ?_
  refine va_get (D := D) (ci := 5) (v := .ref h3) (C := RX5) (T := TX5) (N := 4) hx hb hts inX5 hown hK hP 0 rfl rfl 2 (by decide) (hts _ tw_152) (fun _ h9 => h9) rfl dX5_takingBy_1 ?_
  refine lv_iload_n hx hb dX5_takingBy_4 rfl (lv_at hl 3 rfl) ?_
  refine va_iald hx hb hK hP 2 1 rfl rfl (vp_in_nI (by omega) (by decide)) dX5_takingBy_5 ?_
  refine lv_ti (y := (fp i)) (by rw [nI_clamp (by omega)]) ?_
  refine lv_iload_n hx hb dX5_takingBy_6 rfl (lv_at hl 1 rfl) ?_
  refine lv_aload_n hx hb dX5_takingBy_7 rfl (lv_at hl 0 rfl) ?_
  refine va_get (D := D) (ci := 5) (v := .ref h1) (C := RX5) (T := TX5) (N := 4) hx hb hts inX5 hown hK hP 0 rfl rfl 0 (by decide) (hts _ tw_146) (fun _ h9 => h9) rfl dX5_takingBy_8 ?_
  refine lv_iconst (v := 0) hx hb dX5_takingBy_11 (by decide) ?_
  refine va_iald hx hb hK hP 1 1 rfl rfl (by unfold vp_in; decide) dX5_takingBy_12 ?_
  refine lv_ti (y := (nI n)) (by rfl) ?_
  refine lv_iload_n hx hb dX5_takingBy_13 rfl (lv_at hl 3 rfl) ?_
  refine lv_isub hx hb dX5_takingBy_14 ?_
  refine lv_topi (fun x_1 ex_1 => ?_)
  refine lv_imul hx hb dX5_takingBy_15 ?_
  refine lv_topi (fun x_2 ex_2 => ?_)
  refine lv_iadd hx hb dX5_takingBy_16 ?_
  refine lv_topi (fun x_3 ex_3 => ?_)
  refine lv_aload_n hx hb dX5_takingBy_17 rfl (lv_at hl 0 rfl) ?_
  refine va_get (D := D) (ci := 5) (v := .ref h4) (C := RX5) (T := TX5) (N := 4) hx hb hts inX5 hown hK hP 0 rfl rfl 3 (by decide) (hts _ tw_154) (fun _ h9 => h9) rfl dX5_takingBy_18 ?_
  refine lv_iload_n hx hb dX5_takingBy_21 rfl (lv_at hl 2 rfl) ?_
  refine va_iald hx hb hK hP 3 1 rfl rfl (vp_in_nI (by omega) (by decide)) dX5_takingBy_22 ?_
  refine lv_ti (y := (fl rn)) (by rw [nI_clamp (by omega)]) ?_
  refine lv_iadd hx hb dX5_takingBy_23 ?_
  refine lv_topi (fun x_4 ex_4 => ?_)
  refine lv_sipush (v := 1000) hx hb dX5_takingBy_24 (by decide) ?_
  refine lv_imul hx hb dX5_takingBy_27 ?_
  refine lv_topi (fun x_5 ex_5 => ?_)
  exact W.iret (v := x_5) hx hb hr (fun t ht hW => ⟨⟨x_5, (), rfl, trivial, trivial⟩, hS.F ht⟩) hS.2.2 dX5_takingBy_28

theorem f_x_takingOf_rows : True := trivial
theorem dX5_takingOf_0 : decode cX5_takingOf 0 = .ok (.aload_n 0, 1) := by decide +kernel
theorem dX5_takingOf_1 : decode cX5_takingOf 1 = .ok (.aload_n 0, 1) := by decide +kernel
theorem dX5_takingOf_2 : decode cX5_takingOf 2 = .ok (.getfield 9, 3) := by decide +kernel
theorem dX5_takingOf_5 : decode cX5_takingOf 5 = .ok (.iconst 2, 1) := by decide +kernel
theorem dX5_takingOf_6 : decode cX5_takingOf 6 = .ok (.iaload, 1) := by decide +kernel
theorem dX5_takingOf_7 : decode cX5_takingOf 7 = .ok (.iload_n 1, 1) := by decide +kernel
theorem dX5_takingOf_8 : decode cX5_takingOf 8 = .ok (.iload_n 2, 1) := by decide +kernel
theorem dX5_takingOf_9 : decode cX5_takingOf 9 = .ok (.invokevirtual 132, 3) := by decide +kernel
theorem dX5_takingOf_12 : decode cX5_takingOf 12 = .ok (.ireturn, 1) := by decide +kernel
theorem dX5_garageOf_0 : decode cX5_garageOf 0 = .ok (.aload_n 0, 1) := by decide +kernel
theorem dX5_garageOf_1 : decode cX5_garageOf 1 = .ok (.getfield 9, 3) := by decide +kernel
theorem dX5_garageOf_4 : decode cX5_garageOf 4 = .ok (.bipush 9, 2) := by decide +kernel
theorem dX5_garageOf_6 : decode cX5_garageOf 6 = .ok (.iaload, 1) := by decide +kernel
theorem dX5_garageOf_7 : decode cX5_garageOf 7 = .ok (.aload_n 0, 1) := by decide +kernel
theorem dX5_garageOf_8 : decode cX5_garageOf 8 = .ok (.getfield 21, 3) := by decide +kernel
theorem dX5_garageOf_11 : decode cX5_garageOf 11 = .ok (.iload_n 1, 1) := by decide +kernel
theorem dX5_garageOf_12 : decode cX5_garageOf 12 = .ok (.iaload, 1) := by decide +kernel
theorem dX5_garageOf_13 : decode cX5_garageOf 13 = .ok (.iadd, 1) := by decide +kernel
theorem dX5_garageOf_14 : decode cX5_garageOf 14 = .ok (.sipush 1000, 3) := by decide +kernel
theorem dX5_garageOf_17 : decode cX5_garageOf 17 = .ok (.imul, 1) := by decide +kernel
theorem dX5_garageOf_18 : decode cX5_garageOf 18 = .ok (.ireturn, 1) := by decide +kernel
set_option maxHeartbeats 4000000 in
set_option maxRecDepth 100000 in
theorem x_garageOf (l : Launch) (D : va_G) (k : Nat → ClassId) (st : Nat → Nat) (lo : Nat) (h0 : Nat) (h1 : Nat) (h2 : Nat) (h3 : Nat) (h4 : Nat) (n : Nat) (see : Nat) (tm : Nat) (g : Nat → Int32) (fl : Nat → Int32) (rn : Nat) (hrn : rn ≤ 3) : CRi l D k st lo yX5_garageOf cX5_garageOf 2 (some .int) ({ frames := 0, cells := 0, slots := 0, locals := 0 }) [.ref h0, .int (nI rn)] [(h0, .inr (5, (fX5 h1 h2 h3 h4))), (aI k h1 10 (vv n see tm g)), (aI k h4 4 fl)] (fun _ => True) := by
  intro sz
  refine Met.ofW (cc := cX5_garageOf) (maxL := 2) (ret := (some .int)) (by decide) rfl ?_
  intro p e s m args below meth c s₁ B hml hv
  obtain ⟨rfl, hsz, hlo, hP, hK, hDL, hZ⟩ := hv
  have hx := B.exec
  have hb := B.bytes
  have hr := B.returns
  have hts := WS_ts B.pre
  have hown : s.vm.findClass RX5 = some m.cls := findClass_of_methodNamed B.named
  have hlocks := B.notSynchronized
  subst hsz
  have hA : ∀ q : Nat, s.heap.size ≤ q → (fun q : Nat => s.heap.size ≤ q) q := fun _ h => h
  have hAlo : ∀ q : Nat, (fun q : Nat => s.heap.size ≤ q) q → lo ≤ q := fun q h => Nat.le_trans hlo h
  have hS : va_S (fun q : Nat => s.heap.size ≤ q) s.heap s.heap [] := va_S.rf
  have hl := lv_entry ([.ref h0, .int (nI rn)]) (n := 2) (Nat.le_of_ble_eq_true rfl)
  rw [lg_entry_eq]
  generalize (lg_sl ([.ref h0, .int (nI rn)]) ++ List.replicate (2 - (lg_sl ([.ref h0, .int (nI rn)])).length) Slot.unset).toArray = ls at hl ⊢
  have hl : lv_has ls 2 [(0, .ref h0), (1, .int (nI rn))] := hl
  refine lv_aload_n hx hb dX5_garageOf_0 rfl (lv_at hl 0 rfl) ?_
  refine va_get (D := D) (ci := 5) (v := .ref h1) (C := RX5) (T := TX5) (N := 4) hx hb hts inX5 hown hK hP 0 rfl rfl 0 (by decide) (hts _ tw_146) (fun _ h9 => h9) rfl dX5_garageOf_1 ?_
  refine lv_bipush (v := 9) hx hb dX5_garageOf_4 (by decide) ?_
  refine va_iald hx hb hK hP 1 1 rfl rfl (by unfold vp_in; decide) dX5_garageOf_6 ?_
  refine lv_ti (y := (g 9)) (by rfl) ?_
  refine lv_aload_n hx hb dX5_garageOf_7 rfl (lv_at hl 0 rfl) ?_
  refine va_get (D := D) (ci := 5) (v := .ref h4) (C := RX5) (T := TX5) (N := 4) hx hb hts inX5 hown hK hP 0 rfl rfl 3 (by decide) (hts _ tw_154) (fun _ h9 => h9) rfl dX5_garageOf_8 ?_
  refine lv_iload_n hx hb dX5_garageOf_11 rfl (lv_at hl 1 rfl) ?_
  refine va_iald hx hb hK hP 2 1 rfl rfl (vp_in_nI (by omega) (by decide)) dX5_garageOf_12 ?_
  refine lv_ti (y := (fl rn)) (by rw [nI_clamp (by omega)]) ?_
  refine lv_iadd hx hb dX5_garageOf_13 ?_
  refine lv_topi (fun x_1 ex_1 => ?_)
  refine lv_sipush (v := 1000) hx hb dX5_garageOf_14 (by decide) ?_
  refine lv_imul hx hb dX5_garageOf_17 ?_
  refine lv_topi (fun x_2 ex_2 => ?_)
  exact W.iret (v := x_2) hx hb hr (fun t ht hW => ⟨⟨x_2, (), rfl, trivial, trivial⟩, hS.F ht⟩) hS.2.2 dX5_garageOf_18

theorem dX5_passing_0 : decode cX5_passing 0 = .ok (.aload_n 0, 1) := by decide +kernel
theorem dX5_passing_1 : decode cX5_passing 1 = .ok (.getfield 9, 3) := by decide +kernel
theorem dX5_passing_4 : decode cX5_passing 4 = .ok (.iconst 3, 1) := by decide +kernel
theorem dX5_passing_5 : decode cX5_passing 5 = .ok (.iaload, 1) := by decide +kernel
theorem dX5_passing_6 : decode cX5_passing 6 = .ok (.sipush 1000, 3) := by decide +kernel
theorem dX5_passing_9 : decode cX5_passing 9 = .ok (.imul, 1) := by decide +kernel
theorem dX5_passing_10 : decode cX5_passing 10 = .ok (.ireturn, 1) := by decide +kernel
set_option maxHeartbeats 4000000 in
set_option maxRecDepth 100000 in
theorem x_passing (l : Launch) (D : va_G) (k : Nat → ClassId) (st : Nat → Nat) (lo : Nat) (h0 : Nat) (h1 : Nat) (h2 : Nat) (h3 : Nat) (h4 : Nat) (n : Nat) (see : Nat) (tm : Nat) (g : Nat → Int32)  : CRi l D k st lo yX5_passing cX5_passing 1 (some .int) ({ frames := 0, cells := 0, slots := 0, locals := 0 }) [.ref h0] [(h0, .inr (5, (fX5 h1 h2 h3 h4))), (aI k h1 10 (vv n see tm g))] (fun _ => True) := by
  intro sz
  refine Met.ofW (cc := cX5_passing) (maxL := 1) (ret := (some .int)) (by decide) rfl ?_
  intro p e s m args below meth c s₁ B hml hv
  obtain ⟨rfl, hsz, hlo, hP, hK, hDL, hZ⟩ := hv
  have hx := B.exec
  have hb := B.bytes
  have hr := B.returns
  have hts := WS_ts B.pre
  have hown : s.vm.findClass RX5 = some m.cls := findClass_of_methodNamed B.named
  have hlocks := B.notSynchronized
  subst hsz
  have hA : ∀ q : Nat, s.heap.size ≤ q → (fun q : Nat => s.heap.size ≤ q) q := fun _ h => h
  have hAlo : ∀ q : Nat, (fun q : Nat => s.heap.size ≤ q) q → lo ≤ q := fun q h => Nat.le_trans hlo h
  have hS : va_S (fun q : Nat => s.heap.size ≤ q) s.heap s.heap [] := va_S.rf
  have hl := lv_entry ([.ref h0]) (n := 1) (Nat.le_of_ble_eq_true rfl)
  rw [lg_entry_eq]
  generalize (lg_sl ([.ref h0]) ++ List.replicate (1 - (lg_sl ([.ref h0])).length) Slot.unset).toArray = ls at hl ⊢
  have hl : lv_has ls 1 [(0, .ref h0)] := hl
  refine lv_aload_n hx hb dX5_passing_0 rfl (lv_at hl 0 rfl) ?_
  refine va_get (D := D) (ci := 5) (v := .ref h1) (C := RX5) (T := TX5) (N := 4) hx hb hts inX5 hown hK hP 0 rfl rfl 0 (by decide) (hts _ tw_146) (fun _ h9 => h9) rfl dX5_passing_1 ?_
  refine lv_iconst (v := 3) hx hb dX5_passing_4 (by decide) ?_
  refine va_iald hx hb hK hP 1 1 rfl rfl (by unfold vp_in; decide) dX5_passing_5 ?_
  refine lv_ti (y := (g 3)) (by rfl) ?_
  refine lv_sipush (v := 1000) hx hb dX5_passing_6 (by decide) ?_
  refine lv_imul hx hb dX5_passing_9 ?_
  refine lv_topi (fun x_1 ex_1 => ?_)
  exact W.iret (v := x_1) hx hb hr (fun t ht hW => ⟨⟨x_1, (), rfl, trivial, trivial⟩, hS.F ht⟩) hS.2.2 dX5_passing_10

theorem f_x_roundDrive_rows : True := trivial
theorem dX5_roundDrive_0 : decode cX5_roundDrive 0 = .ok (.aload_n 0, 1) := by decide +kernel
theorem dX5_roundDrive_1 : decode cX5_roundDrive 1 = .ok (.getfield 9, 3) := by decide +kernel
theorem dX5_roundDrive_4 : decode cX5_roundDrive 4 = .ok (.iconst 3, 1) := by decide +kernel
theorem dX5_roundDrive_5 : decode cX5_roundDrive 5 = .ok (.iaload, 1) := by decide +kernel
theorem dX5_roundDrive_6 : decode cX5_roundDrive 6 = .ok (.aload_n 0, 1) := by decide +kernel
theorem dX5_roundDrive_7 : decode cX5_roundDrive 7 = .ok (.getfield 9, 3) := by decide +kernel
theorem dX5_roundDrive_10 : decode cX5_roundDrive 10 = .ok (.bipush 7, 2) := by decide +kernel
theorem dX5_roundDrive_12 : decode cX5_roundDrive 12 = .ok (.iaload, 1) := by decide +kernel
theorem dX5_roundDrive_13 : decode cX5_roundDrive 13 = .ok (.imul, 1) := by decide +kernel
theorem dX5_roundDrive_14 : decode cX5_roundDrive 14 = .ok (.sipush 1000, 3) := by decide +kernel
theorem dX5_roundDrive_17 : decode cX5_roundDrive 17 = .ok (.imul, 1) := by decide +kernel
theorem dX5_roundDrive_18 : decode cX5_roundDrive 18 = .ok (.ireturn, 1) := by decide +kernel
theorem f_x_sightsAt_rows : True := trivial
theorem dX5_sightsAt_0 : decode cX5_sightsAt 0 = .ok (.iconst 1, 1) := by decide +kernel
theorem dX5_sightsAt_1 : decode cX5_sightsAt 1 = .ok (.aload_n 0, 1) := by decide +kernel
theorem dX5_sightsAt_2 : decode cX5_sightsAt 2 = .ok (.getfield 9, 3) := by decide +kernel
theorem dX5_sightsAt_5 : decode cX5_sightsAt 5 = .ok (.bipush 6, 2) := by decide +kernel
theorem dX5_sightsAt_7 : decode cX5_sightsAt 7 = .ok (.iaload, 1) := by decide +kernel
theorem dX5_sightsAt_8 : decode cX5_sightsAt 8 = .ok (.iconst 1, 1) := by decide +kernel
theorem dX5_sightsAt_9 : decode cX5_sightsAt 9 = .ok (.iadd, 1) := by decide +kernel
theorem dX5_sightsAt_10 : decode cX5_sightsAt 10 = .ok (.aload_n 0, 1) := by decide +kernel
theorem dX5_sightsAt_11 : decode cX5_sightsAt 11 = .ok (.getfield 9, 3) := by decide +kernel
theorem dX5_sightsAt_14 : decode cX5_sightsAt 14 = .ok (.iconst 0, 1) := by decide +kernel
theorem dX5_sightsAt_15 : decode cX5_sightsAt 15 = .ok (.iaload, 1) := by decide +kernel
theorem dX5_sightsAt_16 : decode cX5_sightsAt 16 = .ok (.iload_n 1, 1) := by decide +kernel
theorem dX5_sightsAt_17 : decode cX5_sightsAt 17 = .ok (.isub, 1) := by decide +kernel
theorem dX5_sightsAt_18 : decode cX5_sightsAt 18 = .ok (.invokestatic 129, 3) := by decide +kernel
theorem dX5_sightsAt_21 : decode cX5_sightsAt 21 = .ok (.ishl, 1) := by decide +kernel
theorem dX5_sightsAt_22 : decode cX5_sightsAt 22 = .ok (.ireturn, 1) := by decide +kernel
theorem tw_4 : Cond.selects RX0 yX0_reckonEnd yX0_reckonEnd ∈ LW := LWm (i := 4) (by decide +kernel) rfl
theorem tw_5 : Cond.selects RX0 yX0_reckonDoor yX0_reckonDoor ∈ LW := LWm (i := 5) (by decide +kernel) rfl
theorem tw_6 : Cond.selects RX0 yX0_reckonNext yX0_reckonNext ∈ LW := LWm (i := 6) (by decide +kernel) rfl
theorem tw_7 : Cond.selects RX0 yX0_reckonStart yX0_reckonStart ∈ LW := LWm (i := 7) (by decide +kernel) rfl
theorem tw_12 : Cond.selects RX0 yX0_isTakenByAll yX0_isTakenByAll ∈ LW := LWm (i := 12) (by decide +kernel) rfl
theorem tw_13 : Cond.selects RX0 yX0_isTakenByAny yX0_isTakenByAny ∈ LW := LWm (i := 13) (by decide +kernel) rfl
theorem tw_14 : Cond.selects RX3 yX3_readChange yX3_readChange ∈ LW := LWm (i := 14) (by decide +kernel) rfl
theorem tw_79 : Cond.initialized RX7 ∈ LW := LWm1 (i := 1) (by decide +kernel) rfl
theorem tw_82 : Cond.initialized RX4 ∈ LW := LWm1 (i := 4) (by decide +kernel) rfl
theorem tw_85 : Cond.initialized RX0 ∈ LW := LWm1 (i := 7) (by decide +kernel) rfl
theorem tw_86 : Cond.initialized RX3 ∈ LW := LWm1 (i := 8) (by decide +kernel) rfl
theorem tw_114 : Cond.fieldLink RX3 60 "LastPlace$Text" "at" "I" ∈ LW := LWm1 (i := 36) (by decide +kernel) rfl
theorem tw_117 : Cond.fieldLink RX3 67 "LastPlace$Text" "numberAt" "I" ∈ LW := LWm1 (i := 39) (by decide +kernel) rfl
theorem tw_147 : Cond.fieldLink RX0 28 "LastPlace$Street" "values" "[I" ∈ LW := LWm1 (i := 69) (by decide +kernel) rfl
theorem tw_148 : Cond.fieldLink RX3 70 "LastPlace$Street" "values" "[I" ∈ LW := LWm1 (i := 70) (by decide +kernel) rfl
theorem tw_173 : Cond.fieldLink RX4 9 "LastPlace$Scene" "walks" "[I" ∈ LW := LWm1 (i := 95) (by decide +kernel) rfl
theorem tw_175 : Cond.fieldLink RX4 15 "LastPlace$Scene" "bars" "[I" ∈ LW := LWm1 (i := 97) (by decide +kernel) rfl
theorem tw_178 : Cond.fieldLink RX4 18 "LastPlace$Scene" "carCount" "I" ∈ LW := LWm1 (i := 100) (by decide +kernel) rfl
theorem tw_181 : Cond.fieldLink RX4 22 "LastPlace$Scene" "rowSize" "I" ∈ LW := LWm1 (i := 103) (by decide +kernel) rfl
theorem tw_183 : Cond.fieldLink RX0 100 "LastPlace$Scene" "rowSize" "I" ∈ LW := LWm1 (i := 105) (by decide +kernel) rfl
theorem tw_185 : Cond.fieldLink RX4 25 "LastPlace$Scene" "rowFree" "I" ∈ LW := LWm1 (i := 107) (by decide +kernel) rfl
theorem tw_186 : Cond.fieldLink RX0 110 "LastPlace$Scene" "rowFree" "I" ∈ LW := LWm1 (i := 108) (by decide +kernel) rfl
theorem tw_188 : Cond.fieldLink RX4 28 "LastPlace$Scene" "seedNow" "I" ∈ LW := LWm1 (i := 110) (by decide +kernel) rfl
theorem tw_266 : Cond.fieldLink RX0 24 "LastPlace$BestWay" "street" "LLastPlace$Street;" ∈ LW := LWm1 (i := 188) (by decide +kernel) rfl
theorem tw_267 : Cond.fieldLink RX0 9 "LastPlace$BestWay" "onward" "[I" ∈ LW := LWm1 (i := 189) (by decide +kernel) rfl
theorem tw_268 : Cond.fieldLink RX0 15 "LastPlace$BestWay" "starts" "[I" ∈ LW := LWm1 (i := 190) (by decide +kernel) rfl
theorem tw_270 : Cond.fieldLink RX0 18 "LastPlace$BestWay" "ends" "[I" ∈ LW := LWm1 (i := 192) (by decide +kernel) rfl
theorem tw_272 : Cond.fieldLink RX0 21 "LastPlace$BestWay" "folded" "[I" ∈ LW := LWm1 (i := 194) (by decide +kernel) rfl
theorem tw_289 : Cond.fieldLink RX3 9 "LastPlace$Rule" "seen" "[I" ∈ LW := LWm1 (i := 211) (by decide +kernel) rfl
theorem tw_290 : Cond.fieldLink RX3 15 "LastPlace$Rule" "from" "[I" ∈ LW := LWm1 (i := 212) (by decide +kernel) rfl
theorem tw_291 : Cond.fieldLink RX3 18 "LastPlace$Rule" "firstFrom" "I" ∈ LW := LWm1 (i := 213) (by decide +kernel) rfl
theorem tw_292 : Cond.fieldLink RX3 22 "LastPlace$Rule" "changes" "I" ∈ LW := LWm1 (i := 214) (by decide +kernel) rfl
theorem tw_293 : Cond.fieldLink RX3 25 "LastPlace$Rule" "rounds" "I" ∈ LW := LWm1 (i := 215) (by decide +kernel) rfl
theorem tw_516 : Cond.methodLink RX0 33 yX0_reckonEnd ∈ LW := LWm2 (i := 198) (by decide +kernel) rfl
theorem tw_518 : Cond.instanceMethod yX0_reckonEnd ∈ LW := LWm2 (i := 200) (by decide +kernel) rfl
set_option maxRecDepth 100000 in theorem tw_519 : Cond.code yX0_reckonEnd cX0_reckonEnd 3 (some .int) ∈ LW := LWm2 (i := 201) rfl rfl
theorem tw_520 : Cond.methodLink RX0 48 yX5_garageOf ∈ LW := LWm2 (i := 202) (by decide +kernel) rfl
theorem tw_521 : Cond.instanceMethod yX5_garageOf ∈ LW := LWm2 (i := 203) (by decide +kernel) rfl
theorem tw_522 : Cond.selects RX5 yX5_garageOf yX5_garageOf ∈ LW := LWm2 (i := 204) (by decide +kernel) rfl
set_option maxRecDepth 100000 in theorem tw_523 : Cond.code yX5_garageOf cX5_garageOf 2 (some .int) ∈ LW := LWm2 (i := 205) rfl rfl
theorem tw_524 : Cond.methodLink RX0 51 yX5_roundDrive ∈ LW := LWm2 (i := 206) (by decide +kernel) rfl
theorem tw_525 : Cond.instanceMethod yX5_roundDrive ∈ LW := LWm2 (i := 207) (by decide +kernel) rfl
theorem tw_526 : Cond.selects RX5 yX5_roundDrive yX5_roundDrive ∈ LW := LWm2 (i := 208) (by decide +kernel) rfl
set_option maxRecDepth 100000 in theorem tw_527 : Cond.code yX5_roundDrive cX5_roundDrive 1 (some .int) ∈ LW := LWm2 (i := 209) rfl rfl
theorem tw_528 : Cond.methodLink RX0 54 yJ9_min_7cf53 ∈ LW := LWm2 (i := 210) (by decide +kernel) rfl
theorem tw_531 : Cond.methodLink RX0 37 yX5_doors ∈ LW := LWm2 (i := 213) (by decide +kernel) rfl
theorem tw_532 : Cond.methodLink RX0 41 yX0_reckonDoor ∈ LW := LWm2 (i := 214) (by decide +kernel) rfl
theorem tw_534 : Cond.instanceMethod yX0_reckonDoor ∈ LW := LWm2 (i := 216) (by decide +kernel) rfl
set_option maxRecDepth 100000 in theorem tw_535 : Cond.code yX0_reckonDoor cX0_reckonDoor 6 none ∈ LW := LWm2 (i := 217) rfl rfl
theorem tw_536 : Cond.methodLink RX0 60 yX5_sightsAt ∈ LW := LWm2 (i := 218) (by decide +kernel) rfl
theorem tw_537 : Cond.instanceMethod yX5_sightsAt ∈ LW := LWm2 (i := 219) (by decide +kernel) rfl
theorem tw_538 : Cond.selects RX5 yX5_sightsAt yX5_sightsAt ∈ LW := LWm2 (i := 220) (by decide +kernel) rfl
set_option maxRecDepth 100000 in theorem tw_539 : Cond.code yX5_sightsAt cX5_sightsAt 2 (some .int) ∈ LW := LWm2 (i := 221) rfl rfl
theorem tw_541 : Cond.methodLink RX0 63 yX0_reckonNext ∈ LW := LWm2 (i := 223) (by decide +kernel) rfl
theorem tw_543 : Cond.instanceMethod yX0_reckonNext ∈ LW := LWm2 (i := 225) (by decide +kernel) rfl
set_option maxRecDepth 100000 in theorem tw_544 : Cond.code yX0_reckonNext cX0_reckonNext 8 (some .int) ∈ LW := LWm2 (i := 226) rfl rfl
theorem tw_545 : Cond.methodLink RX0 73 yX0_worthOf ∈ LW := LWm2 (i := 227) (by decide +kernel) rfl
theorem tw_546 : Cond.instanceMethod yX0_worthOf ∈ LW := LWm2 (i := 228) (by decide +kernel) rfl
theorem tw_547 : Cond.selects RX0 yX0_worthOf yX0_worthOf ∈ LW := LWm2 (i := 229) (by decide +kernel) rfl
set_option maxRecDepth 100000 in theorem tw_548 : Cond.code yX0_worthOf cX0_worthOf 5 (some .int) ∈ LW := LWm2 (i := 230) rfl rfl
theorem tw_549 : Cond.methodLink RX0 86 yX0_onwardOf ∈ LW := LWm2 (i := 231) (by decide +kernel) rfl
theorem tw_550 : Cond.instanceMethod yX0_onwardOf ∈ LW := LWm2 (i := 232) (by decide +kernel) rfl
theorem tw_551 : Cond.selects RX0 yX0_onwardOf yX0_onwardOf ∈ LW := LWm2 (i := 233) (by decide +kernel) rfl
set_option maxRecDepth 100000 in theorem tw_552 : Cond.code yX0_onwardOf cX0_onwardOf 4 (some .int) ∈ LW := LWm2 (i := 234) rfl rfl
theorem tw_553 : Cond.methodLink RX0 67 yX0_slot ∈ LW := LWm2 (i := 235) (by decide +kernel) rfl
theorem tw_554 : Cond.static yX0_slot ∈ LW := LWm2 (i := 236) (by decide +kernel) rfl
set_option maxRecDepth 100000 in theorem tw_555 : Cond.code yX0_slot cX0_slot 3 (some .int) ∈ LW := LWm2 (i := 237) rfl rfl
theorem tw_556 : Cond.methodLink RX0 83 yX5_takingOf ∈ LW := LWm2 (i := 238) (by decide +kernel) rfl
theorem tw_557 : Cond.instanceMethod yX5_takingOf ∈ LW := LWm2 (i := 239) (by decide +kernel) rfl
theorem tw_558 : Cond.selects RX5 yX5_takingOf yX5_takingOf ∈ LW := LWm3 (i := 0) (by decide +kernel) rfl
set_option maxRecDepth 100000 in theorem tw_559 : Cond.code yX5_takingOf cX5_takingOf 3 (some .int) ∈ LW := LWm3 (i := 1) rfl rfl
theorem tw_564 : Cond.methodLink RX0 76 yX5_chanceOf ∈ LW := LWm3 (i := 6) (by decide +kernel) rfl
theorem tw_565 : Cond.instanceMethod yX5_chanceOf ∈ LW := LWm3 (i := 7) (by decide +kernel) rfl
theorem tw_566 : Cond.selects RX5 yX5_chanceOf yX5_chanceOf ∈ LW := LWm3 (i := 8) (by decide +kernel) rfl
set_option maxRecDepth 100000 in theorem tw_567 : Cond.code yX5_chanceOf cX5_chanceOf 4 (some .int) ∈ LW := LWm3 (i := 9) rfl rfl
theorem tw_569 : Cond.static yX7_mixed ∈ LW := LWm3 (i := 11) (by decide +kernel) rfl
set_option maxRecDepth 100000 in theorem tw_570 : Cond.code yX7_mixed cX7_mixed 3 (some .int) ∈ LW := LWm3 (i := 12) rfl rfl
theorem tw_571 : Cond.constantLong RX7 295 (100) ∈ LW := LWm3 (i := 13) (by decide +kernel) rfl
theorem tw_572 : Cond.methodLink RX0 70 yX5_passing ∈ LW := LWm3 (i := 14) (by decide +kernel) rfl
theorem tw_573 : Cond.instanceMethod yX5_passing ∈ LW := LWm3 (i := 15) (by decide +kernel) rfl
theorem tw_574 : Cond.selects RX5 yX5_passing yX5_passing ∈ LW := LWm3 (i := 16) (by decide +kernel) rfl
set_option maxRecDepth 100000 in theorem tw_575 : Cond.code yX5_passing cX5_passing 1 (some .int) ∈ LW := LWm3 (i := 17) rfl rfl
theorem tw_576 : Cond.methodLink RX0 45 yX0_reckonStart ∈ LW := LWm3 (i := 18) (by decide +kernel) rfl
theorem tw_578 : Cond.instanceMethod yX0_reckonStart ∈ LW := LWm3 (i := 20) (by decide +kernel) rfl
set_option maxRecDepth 100000 in theorem tw_579 : Cond.code yX0_reckonStart cX0_reckonStart 7 (some .int) ∈ LW := LWm3 (i := 21) rfl rfl
theorem tw_638 : Cond.instanceMethod yX0_isTaken ∈ LW := LWm3 (i := 80) (by decide +kernel) rfl
theorem tw_639 : Cond.selects RX0 yX0_isTaken yX0_isTaken ∈ LW := LWm3 (i := 81) (by decide +kernel) rfl
set_option maxRecDepth 100000 in theorem tw_640 : Cond.code yX0_isTaken cX0_isTaken 4 (some .boolean) ∈ LW := LWm3 (i := 82) rfl rfl
theorem tw_658 : Cond.methodLink RX0 89 yX0_isTakenByAll ∈ LW := LWm3 (i := 100) (by decide +kernel) rfl
theorem tw_660 : Cond.instanceMethod yX0_isTakenByAll ∈ LW := LWm3 (i := 102) (by decide +kernel) rfl
set_option maxRecDepth 100000 in theorem tw_661 : Cond.code yX0_isTakenByAll cX0_isTakenByAll 4 (some .boolean) ∈ LW := LWm3 (i := 103) rfl rfl
theorem tw_662 : Cond.methodLink RX0 96 yX0_isTaken ∈ LW := LWm3 (i := 104) (by decide +kernel) rfl
theorem tw_663 : Cond.methodLink RX0 93 yX0_isTakenByAny ∈ LW := LWm3 (i := 105) (by decide +kernel) rfl
theorem tw_665 : Cond.instanceMethod yX0_isTakenByAny ∈ LW := LWm3 (i := 107) (by decide +kernel) rfl
set_option maxRecDepth 100000 in theorem tw_666 : Cond.code yX0_isTakenByAny cX0_isTakenByAny 4 (some .boolean) ∈ LW := LWm3 (i := 108) rfl rfl
theorem tw_680 : Cond.methodLink RX3 29 yX6_needWord ∈ LW := LWm3 (i := 122) (by decide +kernel) rfl
theorem tw_681 : Cond.methodLink RX3 35 yX6_needNumber ∈ LW := LWm3 (i := 123) (by decide +kernel) rfl
theorem tw_682 : Cond.methodLink RX3 39 yX6_failed ∈ LW := LWm3 (i := 124) (by decide +kernel) rfl
theorem tw_684 : Cond.methodLink RX3 44 yX6_takeWord ∈ LW := LWm3 (i := 126) (by decide +kernel) rfl
theorem tw_685 : Cond.methodLink RX3 48 yX3_readChange ∈ LW := LWm3 (i := 127) (by decide +kernel) rfl
theorem tw_687 : Cond.instanceMethod yX3_readChange ∈ LW := LWm3 (i := 129) (by decide +kernel) rfl
set_option maxRecDepth 100000 in theorem tw_688 : Cond.code yX3_readChange cX3_readChange 4 none ∈ LW := LWm3 (i := 130) rfl rfl
theorem tw_689 : Cond.methodLink RX3 63 yX6_fail ∈ LW := LWm3 (i := 131) (by decide +kernel) rfl
theorem tw_692 : Cond.methodLink RX3 57 yX6_isAtEnd ∈ LW := LWm3 (i := 134) (by decide +kernel) rfl
theorem tw_709 : Cond.methodLink RX3 75 yJ9_min_7cf53 ∈ LW := LWm3 (i := 151) (by decide +kernel) rfl
theorem tw_753 : Cond.instanceMethod yX4_sawFree ∈ LW := LWm3 (i := 195) (by decide +kernel) rfl
theorem tw_754 : Cond.selects RX4 yX4_sawFree yX4_sawFree ∈ LW := LWm3 (i := 196) (by decide +kernel) rfl
set_option maxRecDepth 100000 in theorem tw_755 : Cond.code yX4_sawFree cX4_sawFree 2 (some .boolean) ∈ LW := LWm3 (i := 197) rfl rfl
theorem tw_760 : Cond.methodLink RX0 106 yX4_sawFree ∈ LW := LWm3 (i := 202) (by decide +kernel) rfl
theorem tw_883 : Cond.methodLink RX4 31 arraycopyName ∈ LW := LWm4 (i := 85) (by decide +kernel) rfl
theorem tw_936 : Cond.constantLong RX4 37 (1103515245) ∈ LW := LWm4 (i := 138) (by decide +kernel) rfl
theorem tw_937 : Cond.constantLong RX4 39 (12345) ∈ LW := LWm4 (i := 139) (by decide +kernel) rfl
theorem tw_938 : Cond.constantLong RX4 41 (2147483647) ∈ LW := LWm4 (i := 140) (by decide +kernel) rfl
theorem tw_939 : Cond.constant RX4 43 (65536) ∈ LW := LWm4 (i := 141) (by decide +kernel) rfl
theorem f_x_readChange_rows : True := trivial
theorem dX3_readChange_0 : decode cX3_readChange 0 = .ok (.aload_n 1, 1) := by decide +kernel
theorem dX3_readChange_1 : decode cX3_readChange 1 = .ok (.iconst 1, 1) := by decide +kernel
theorem dX3_readChange_2 : decode cX3_readChange 2 = .ok (.bipush 24, 2) := by decide +kernel
theorem dX3_readChange_4 : decode cX3_readChange 4 = .ok (.invokevirtual 35, 3) := by decide +kernel
theorem dX3_readChange_7 : decode cX3_readChange 7 = .ok (.istore_n 2, 1) := by decide +kernel
theorem dX3_readChange_8 : decode cX3_readChange 8 = .ok (.aload_n 1, 1) := by decide +kernel
theorem dX3_readChange_9 : decode cX3_readChange 9 = .ok (.invokevirtual 39, 3) := by decide +kernel
theorem dX3_readChange_12 : decode cX3_readChange 12 = .ok (.ifCond .ne 34, 3) := by decide +kernel
theorem dX3_readChange_15 : decode cX3_readChange 15 = .ok (.aload_n 0, 1) := by decide +kernel
theorem dX3_readChange_16 : decode cX3_readChange 16 = .ok (.getfield 22, 3) := by decide +kernel
theorem dX3_readChange_19 : decode cX3_readChange 19 = .ok (.ifCond .le 27, 3) := by decide +kernel
theorem dX3_readChange_22 : decode cX3_readChange 22 = .ok (.iload_n 2, 1) := by decide +kernel
theorem dX3_readChange_23 : decode cX3_readChange 23 = .ok (.aload_n 0, 1) := by decide +kernel
theorem dX3_readChange_24 : decode cX3_readChange 24 = .ok (.getfield 9, 3) := by decide +kernel
theorem dX3_readChange_27 : decode cX3_readChange 27 = .ok (.aload_n 0, 1) := by decide +kernel
theorem dX3_readChange_28 : decode cX3_readChange 28 = .ok (.getfield 22, 3) := by decide +kernel
theorem dX3_readChange_31 : decode cX3_readChange 31 = .ok (.iconst 1, 1) := by decide +kernel
theorem dX3_readChange_32 : decode cX3_readChange 32 = .ok (.isub, 1) := by decide +kernel
theorem dX3_readChange_33 : decode cX3_readChange 33 = .ok (.iaload, 1) := by decide +kernel
theorem dX3_readChange_34 : decode cX3_readChange 34 = .ok (.if_icmp .gt 12, 3) := by decide +kernel
theorem dX3_readChange_37 : decode cX3_readChange 37 = .ok (.aload_n 1, 1) := by decide +kernel
theorem dX3_readChange_38 : decode cX3_readChange 38 = .ok (.iconst 3, 1) := by decide +kernel
theorem dX3_readChange_39 : decode cX3_readChange 39 = .ok (.aload_n 1, 1) := by decide +kernel
theorem dX3_readChange_40 : decode cX3_readChange 40 = .ok (.getfield 67, 3) := by decide +kernel
theorem dX3_readChange_43 : decode cX3_readChange 43 = .ok (.invokevirtual 63, 3) := by decide +kernel
theorem dX3_readChange_46 : decode cX3_readChange 46 = .ok (.aload_n 1, 1) := by decide +kernel
theorem dX3_readChange_47 : decode cX3_readChange 47 = .ok (.ldc 28, 2) := by decide +kernel
theorem dX3_readChange_49 : decode cX3_readChange 49 = .ok (.invokevirtual 29, 3) := by decide +kernel
theorem dX3_readChange_52 : decode cX3_readChange 52 = .ok (.aload_n 1, 1) := by decide +kernel
theorem dX3_readChange_53 : decode cX3_readChange 53 = .ok (.iconst 0, 1) := by decide +kernel
theorem dX3_readChange_54 : decode cX3_readChange 54 = .ok (.bipush 24, 2) := by decide +kernel
theorem dX3_readChange_56 : decode cX3_readChange 56 = .ok (.invokevirtual 35, 3) := by decide +kernel
theorem dX3_readChange_59 : decode cX3_readChange 59 = .ok (.istore_n 3, 1) := by decide +kernel
theorem dX3_readChange_60 : decode cX3_readChange 60 = .ok (.aload_n 1, 1) := by decide +kernel
theorem dX3_readChange_61 : decode cX3_readChange 61 = .ok (.invokevirtual 39, 3) := by decide +kernel
theorem dX3_readChange_64 : decode cX3_readChange 64 = .ok (.ifCond .ne 42, 3) := by decide +kernel
theorem dX3_readChange_67 : decode cX3_readChange 67 = .ok (.aload_n 0, 1) := by decide +kernel
theorem dX3_readChange_68 : decode cX3_readChange 68 = .ok (.getfield 22, 3) := by decide +kernel
theorem dX3_readChange_71 : decode cX3_readChange 71 = .ok (.bipush 24, 2) := by decide +kernel
theorem dX3_readChange_73 : decode cX3_readChange 73 = .ok (.if_icmp .ge 33, 3) := by decide +kernel
theorem dX3_readChange_76 : decode cX3_readChange 76 = .ok (.aload_n 0, 1) := by decide +kernel
theorem dX3_readChange_77 : decode cX3_readChange 77 = .ok (.getfield 9, 3) := by decide +kernel
theorem dX3_readChange_80 : decode cX3_readChange 80 = .ok (.aload_n 0, 1) := by decide +kernel
theorem dX3_readChange_81 : decode cX3_readChange 81 = .ok (.getfield 22, 3) := by decide +kernel
theorem dX3_readChange_84 : decode cX3_readChange 84 = .ok (.iload_n 2, 1) := by decide +kernel
theorem dX3_readChange_85 : decode cX3_readChange 85 = .ok (.iastore, 1) := by decide +kernel
theorem dX3_readChange_86 : decode cX3_readChange 86 = .ok (.aload_n 0, 1) := by decide +kernel
theorem dX3_readChange_87 : decode cX3_readChange 87 = .ok (.getfield 15, 3) := by decide +kernel
theorem dX3_readChange_90 : decode cX3_readChange 90 = .ok (.aload_n 0, 1) := by decide +kernel
theorem dX3_readChange_91 : decode cX3_readChange 91 = .ok (.getfield 22, 3) := by decide +kernel
theorem dX3_readChange_94 : decode cX3_readChange 94 = .ok (.iload_n 3, 1) := by decide +kernel
theorem dX3_readChange_95 : decode cX3_readChange 95 = .ok (.iastore, 1) := by decide +kernel
theorem dX3_readChange_96 : decode cX3_readChange 96 = .ok (.aload_n 0, 1) := by decide +kernel
theorem dX3_readChange_97 : decode cX3_readChange 97 = .ok (.dup, 1) := by decide +kernel
theorem dX3_readChange_98 : decode cX3_readChange 98 = .ok (.getfield 22, 3) := by decide +kernel
theorem dX3_readChange_101 : decode cX3_readChange 101 = .ok (.iconst 1, 1) := by decide +kernel
theorem dX3_readChange_102 : decode cX3_readChange 102 = .ok (.iadd, 1) := by decide +kernel
theorem dX3_readChange_103 : decode cX3_readChange 103 = .ok (.putfield 22, 3) := by decide +kernel
theorem dX3_readChange_106 : decode cX3_readChange 106 = .ok (.return_, 1) := by decide +kernel
theorem f_x_Rule_readFrom_rows : True := trivial
theorem dX3_readFrom_0 : decode cX3_readFrom 0 = .ok (.aload_n 0, 1) := by decide +kernel
theorem dX3_readFrom_1 : decode cX3_readFrom 1 = .ok (.iconst 0, 1) := by decide +kernel
theorem dX3_readFrom_2 : decode cX3_readFrom 2 = .ok (.putfield 22, 3) := by decide +kernel
theorem dX3_readFrom_5 : decode cX3_readFrom 5 = .ok (.aload_n 0, 1) := by decide +kernel
theorem dX3_readFrom_6 : decode cX3_readFrom 6 = .ok (.iconst 0, 1) := by decide +kernel
theorem dX3_readFrom_7 : decode cX3_readFrom 7 = .ok (.putfield 25, 3) := by decide +kernel
theorem dX3_readFrom_10 : decode cX3_readFrom 10 = .ok (.aload_n 1, 1) := by decide +kernel
theorem dX3_readFrom_11 : decode cX3_readFrom 11 = .ok (.ldc 28, 2) := by decide +kernel
theorem dX3_readFrom_13 : decode cX3_readFrom 13 = .ok (.invokevirtual 29, 3) := by decide +kernel
theorem dX3_readFrom_16 : decode cX3_readFrom 16 = .ok (.aload_n 0, 1) := by decide +kernel
theorem dX3_readFrom_17 : decode cX3_readFrom 17 = .ok (.aload_n 1, 1) := by decide +kernel
theorem dX3_readFrom_18 : decode cX3_readFrom 18 = .ok (.iconst 0, 1) := by decide +kernel
theorem dX3_readFrom_19 : decode cX3_readFrom 19 = .ok (.bipush 24, 2) := by decide +kernel
theorem dX3_readFrom_21 : decode cX3_readFrom 21 = .ok (.invokevirtual 35, 3) := by decide +kernel
theorem dX3_readFrom_24 : decode cX3_readFrom 24 = .ok (.putfield 18, 3) := by decide +kernel
theorem dX3_readFrom_27 : decode cX3_readFrom 27 = .ok (.iconst 0, 1) := by decide +kernel
theorem dX3_readFrom_28 : decode cX3_readFrom 28 = .ok (.istore_n 2, 1) := by decide +kernel
theorem dX3_readFrom_29 : decode cX3_readFrom 29 = .ok (.iload_n 2, 1) := by decide +kernel
theorem dX3_readFrom_30 : decode cX3_readFrom 30 = .ok (.bipush 24, 2) := by decide +kernel
theorem dX3_readFrom_32 : decode cX3_readFrom 32 = .ok (.if_icmp .ge 30, 3) := by decide +kernel
theorem dX3_readFrom_35 : decode cX3_readFrom 35 = .ok (.aload_n 1, 1) := by decide +kernel
theorem dX3_readFrom_36 : decode cX3_readFrom 36 = .ok (.invokevirtual 39, 3) := by decide +kernel
theorem dX3_readFrom_39 : decode cX3_readFrom 39 = .ok (.ifCond .ne 23, 3) := by decide +kernel
theorem dX3_readFrom_42 : decode cX3_readFrom 42 = .ok (.aload_n 1, 1) := by decide +kernel
theorem dX3_readFrom_43 : decode cX3_readFrom 43 = .ok (.ldc 43, 2) := by decide +kernel
theorem dX3_readFrom_45 : decode cX3_readFrom 45 = .ok (.invokevirtual 44, 3) := by decide +kernel
theorem dX3_readFrom_48 : decode cX3_readFrom 48 = .ok (.ifCond .eq 14, 3) := by decide +kernel
theorem dX3_readFrom_51 : decode cX3_readFrom 51 = .ok (.aload_n 0, 1) := by decide +kernel
theorem dX3_readFrom_52 : decode cX3_readFrom 52 = .ok (.aload_n 1, 1) := by decide +kernel
theorem dX3_readFrom_53 : decode cX3_readFrom 53 = .ok (.invokevirtual 48, 3) := by decide +kernel
theorem dX3_readFrom_56 : decode cX3_readFrom 56 = .ok (.iinc 2 1, 3) := by decide +kernel
theorem dX3_readFrom_59 : decode cX3_readFrom 59 = .ok (.goto (-30), 3) := by decide +kernel
theorem dX3_readFrom_62 : decode cX3_readFrom 62 = .ok (.aload_n 1, 1) := by decide +kernel
theorem dX3_readFrom_63 : decode cX3_readFrom 63 = .ok (.invokevirtual 39, 3) := by decide +kernel
theorem dX3_readFrom_66 : decode cX3_readFrom 66 = .ok (.ifCond .ne 27, 3) := by decide +kernel
theorem dX3_readFrom_69 : decode cX3_readFrom 69 = .ok (.aload_n 1, 1) := by decide +kernel
theorem dX3_readFrom_70 : decode cX3_readFrom 70 = .ok (.ldc 52, 2) := by decide +kernel
theorem dX3_readFrom_72 : decode cX3_readFrom 72 = .ok (.invokevirtual 44, 3) := by decide +kernel
theorem dX3_readFrom_75 : decode cX3_readFrom 75 = .ok (.ifCond .eq 18, 3) := by decide +kernel
theorem dX3_readFrom_78 : decode cX3_readFrom 78 = .ok (.aload_n 0, 1) := by decide +kernel
theorem dX3_readFrom_79 : decode cX3_readFrom 79 = .ok (.aload_n 1, 1) := by decide +kernel
theorem dX3_readFrom_80 : decode cX3_readFrom 80 = .ok (.iconst 0, 1) := by decide +kernel
theorem dX3_readFrom_81 : decode cX3_readFrom 81 = .ok (.getstatic 54, 3) := by decide +kernel
theorem dX3_readFrom_84 : decode cX3_readFrom 84 = .ok (.bipush 8, 2) := by decide +kernel
theorem dX3_readFrom_86 : decode cX3_readFrom 86 = .ok (.iaload, 1) := by decide +kernel
theorem dX3_readFrom_87 : decode cX3_readFrom 87 = .ok (.invokevirtual 35, 3) := by decide +kernel
theorem dX3_readFrom_90 : decode cX3_readFrom 90 = .ok (.putfield 25, 3) := by decide +kernel
theorem dX3_readFrom_93 : decode cX3_readFrom 93 = .ok (.aload_n 1, 1) := by decide +kernel
theorem dX3_readFrom_94 : decode cX3_readFrom 94 = .ok (.invokevirtual 39, 3) := by decide +kernel
theorem dX3_readFrom_97 : decode cX3_readFrom 97 = .ok (.ifCond .ne 19, 3) := by decide +kernel
theorem dX3_readFrom_100 : decode cX3_readFrom 100 = .ok (.aload_n 1, 1) := by decide +kernel
theorem dX3_readFrom_101 : decode cX3_readFrom 101 = .ok (.invokevirtual 57, 3) := by decide +kernel
theorem dX3_readFrom_104 : decode cX3_readFrom 104 = .ok (.ifCond .ne 12, 3) := by decide +kernel
theorem dX3_readFrom_107 : decode cX3_readFrom 107 = .ok (.aload_n 1, 1) := by decide +kernel
theorem dX3_readFrom_108 : decode cX3_readFrom 108 = .ok (.iconst 1, 1) := by decide +kernel
theorem dX3_readFrom_109 : decode cX3_readFrom 109 = .ok (.aload_n 1, 1) := by decide +kernel
theorem dX3_readFrom_110 : decode cX3_readFrom 110 = .ok (.getfield 60, 3) := by decide +kernel
theorem dX3_readFrom_113 : decode cX3_readFrom 113 = .ok (.invokevirtual 63, 3) := by decide +kernel
theorem dX3_readFrom_116 : decode cX3_readFrom 116 = .ok (.return_, 1) := by decide +kernel
theorem f_x_barAfter_rows : True := trivial
theorem dX3_barAfter_0 : decode cX3_barAfter 0 = .ok (.aload_n 0, 1) := by decide +kernel
theorem dX3_barAfter_1 : decode cX3_barAfter 1 = .ok (.getfield 22, 3) := by decide +kernel
theorem dX3_barAfter_4 : decode cX3_barAfter 4 = .ok (.iconst 1, 1) := by decide +kernel
theorem dX3_barAfter_5 : decode cX3_barAfter 5 = .ok (.isub, 1) := by decide +kernel
theorem dX3_barAfter_6 : decode cX3_barAfter 6 = .ok (.istore_n 2, 1) := by decide +kernel
theorem dX3_barAfter_7 : decode cX3_barAfter 7 = .ok (.iload_n 2, 1) := by decide +kernel
theorem dX3_barAfter_8 : decode cX3_barAfter 8 = .ok (.ifCond .lt 26, 3) := by decide +kernel
theorem dX3_barAfter_11 : decode cX3_barAfter 11 = .ok (.aload_n 0, 1) := by decide +kernel
theorem dX3_barAfter_12 : decode cX3_barAfter 12 = .ok (.getfield 9, 3) := by decide +kernel
theorem dX3_barAfter_15 : decode cX3_barAfter 15 = .ok (.iload_n 2, 1) := by decide +kernel
theorem dX3_barAfter_16 : decode cX3_barAfter 16 = .ok (.iaload, 1) := by decide +kernel
theorem dX3_barAfter_17 : decode cX3_barAfter 17 = .ok (.iload_n 1, 1) := by decide +kernel
theorem dX3_barAfter_18 : decode cX3_barAfter 18 = .ok (.if_icmp .gt 10, 3) := by decide +kernel
theorem dX3_barAfter_21 : decode cX3_barAfter 21 = .ok (.aload_n 0, 1) := by decide +kernel
theorem dX3_barAfter_22 : decode cX3_barAfter 22 = .ok (.getfield 15, 3) := by decide +kernel
theorem dX3_barAfter_25 : decode cX3_barAfter 25 = .ok (.iload_n 2, 1) := by decide +kernel
theorem dX3_barAfter_26 : decode cX3_barAfter 26 = .ok (.iaload, 1) := by decide +kernel
theorem dX3_barAfter_27 : decode cX3_barAfter 27 = .ok (.ireturn, 1) := by decide +kernel
theorem dX3_barAfter_28 : decode cX3_barAfter 28 = .ok (.iinc 2 (-1), 3) := by decide +kernel
theorem dX3_barAfter_31 : decode cX3_barAfter 31 = .ok (.goto (-24), 3) := by decide +kernel
theorem dX3_barAfter_34 : decode cX3_barAfter 34 = .ok (.aload_n 0, 1) := by decide +kernel
theorem dX3_barAfter_35 : decode cX3_barAfter 35 = .ok (.getfield 18, 3) := by decide +kernel
theorem dX3_barAfter_38 : decode cX3_barAfter 38 = .ok (.ireturn, 1) := by decide +kernel
theorem dX3_roundsIn_0 : decode cX3_roundsIn 0 = .ok (.aload_n 0, 1) := by decide +kernel
theorem dX3_roundsIn_1 : decode cX3_roundsIn 1 = .ok (.getfield 25, 3) := by decide +kernel
theorem dX3_roundsIn_4 : decode cX3_roundsIn 4 = .ok (.aload_n 1, 1) := by decide +kernel
theorem dX3_roundsIn_5 : decode cX3_roundsIn 5 = .ok (.getfield 70, 3) := by decide +kernel
theorem dX3_roundsIn_8 : decode cX3_roundsIn 8 = .ok (.bipush 8, 2) := by decide +kernel
theorem dX3_roundsIn_10 : decode cX3_roundsIn 10 = .ok (.iaload, 1) := by decide +kernel
theorem dX3_roundsIn_11 : decode cX3_roundsIn 11 = .ok (.invokestatic 75, 3) := by decide +kernel
theorem dX3_roundsIn_14 : decode cX3_roundsIn 14 = .ok (.ireturn, 1) := by decide +kernel
set_option maxHeartbeats 4000000 in
set_option maxRecDepth 100000 in
theorem x_roundsIn (l : Launch) (D : va_G) (k : Nat → ClassId) (st : Nat → Nat) (lo : Nat) (u0 : Nat) (u1 : Nat) (u2 : Nat) (rf : Int32) (rc : Nat) (rr : Nat) (h0 : Nat) (h1 : Nat) (h2 : Nat) (h3 : Nat) (h4 : Nat) (n : Nat) (see : Nat) (tm : Nat) (g : Nat → Int32) (hrr : rr ≤ 3) (htm9 : tm ≤ 3) : CRi l D k st lo yX3_roundsIn cX3_roundsIn 2 (some .int) ({ frames := 1, cells := 0, slots := 0, locals := 60 }) [.ref u0, .ref h0] [(u0, .inr (3, (fX3 u1 u2 rf (nI rc) (nI rr)))), (h0, .inr (5, (fX5 h1 h2 h3 h4))), (aI k h1 10 (vv n see tm g))] (fun r => r = nI (min rr tm)) := by
  intro sz
  refine Met.ofW (cc := cX3_roundsIn) (maxL := 2) (ret := (some .int)) (by decide) rfl ?_
  intro p e s m args below meth c s₁ B hml hv
  obtain ⟨rfl, hsz, hlo, hP, hK, hDL, hZ⟩ := hv
  have hx := B.exec
  have hb := B.bytes
  have hr := B.returns
  have hts := WS_ts B.pre
  have hown : s.vm.findClass RX3 = some m.cls := findClass_of_methodNamed B.named
  have hlocks := B.notSynchronized
  subst hsz
  have hA : ∀ q : Nat, s.heap.size ≤ q → (fun q : Nat => s.heap.size ≤ q) q := fun _ h => h
  have hAlo : ∀ q : Nat, (fun q : Nat => s.heap.size ≤ q) q → lo ≤ q := fun q h => Nat.le_trans hlo h
  have hS : va_S (fun q : Nat => s.heap.size ≤ q) s.heap s.heap [] := va_S.rf
  have hl := lv_entry ([.ref u0, .ref h0]) (n := 2) (Nat.le_of_ble_eq_true rfl)
  rw [lg_entry_eq]
  generalize (lg_sl ([.ref u0, .ref h0]) ++ List.replicate (2 - (lg_sl ([.ref u0, .ref h0])).length) Slot.unset).toArray = ls at hl ⊢
  have hl : lv_has ls 2 [(0, .ref u0), (1, .ref h0)] := hl
  refine lv_aload_n hx hb dX3_roundsIn_0 rfl (lv_at hl 0 rfl) ?_
  refine va_get (D := D) (ci := 3) (v := .int (nI rr)) (C := RX3) (T := TX3) (N := 5) hx hb hts inX3 hown hK hP 0 rfl rfl 4 (by decide) (hts _ tw_293) (fun _ h9 => h9) rfl dX3_roundsIn_1 ?_
  refine lv_aload_n hx hb dX3_roundsIn_4 rfl (lv_at hl 1 rfl) ?_
  refine va_get (D := D) (ci := 5) (v := .ref h1) (C := RX5) (T := TX5) (N := 4) hx hb hts inX5 hown hK hP 1 rfl rfl 0 (by decide) (hts _ tw_148) (fun _ h9 => h9) rfl dX3_roundsIn_5 ?_
  refine lv_bipush (v := 8) hx hb dX3_roundsIn_8 (by decide) ?_
  refine va_iald hx hb hK hP 2 1 rfl rfl (by unfold vp_in; decide) dX3_roundsIn_10 ?_
  refine lv_ti (y := (nI tm)) (by rfl) ?_
  refine va_mmin hx hb (by rw [hml]; exact hl.1.symm) hown (hts _ tw_709) (hts _ tw_529) (hts _ tw_93) (hts _ tw_530) (Nat.le_of_ble_eq_true rfl) (Nat.le_of_ble_eq_true rfl) (Nat.le_of_ble_eq_true rfl) (Nat.le_of_ble_eq_true rfl) dX3_roundsIn_11 ?_
  refine lv_ti (y := (nI (min rr tm))) (mminN (by omega) (by omega)) ?_
  exact W.iret (v := (nI (min rr tm))) hx hb hr (fun t ht hW => ⟨⟨(nI (min rr tm)), (), rfl, rfl, trivial⟩, hS.F ht⟩) hS.2.2 dX3_roundsIn_14

theorem f_x_copyFrom_rows : True := trivial
theorem dX4_copyFrom_0 : decode cX4_copyFrom 0 = .ok (.aload_n 1, 1) := by decide +kernel
theorem dX4_copyFrom_1 : decode cX4_copyFrom 1 = .ok (.getfield 9, 3) := by decide +kernel
theorem dX4_copyFrom_4 : decode cX4_copyFrom 4 = .ok (.iconst 0, 1) := by decide +kernel
theorem dX4_copyFrom_5 : decode cX4_copyFrom 5 = .ok (.aload_n 0, 1) := by decide +kernel
theorem dX4_copyFrom_6 : decode cX4_copyFrom 6 = .ok (.getfield 9, 3) := by decide +kernel
theorem dX4_copyFrom_9 : decode cX4_copyFrom 9 = .ok (.iconst 0, 1) := by decide +kernel
theorem dX4_copyFrom_10 : decode cX4_copyFrom 10 = .ok (.iconst 4, 1) := by decide +kernel
theorem dX4_copyFrom_11 : decode cX4_copyFrom 11 = .ok (.invokestatic 31, 3) := by decide +kernel
theorem dX4_copyFrom_14 : decode cX4_copyFrom 14 = .ok (.aload_n 1, 1) := by decide +kernel
theorem dX4_copyFrom_15 : decode cX4_copyFrom 15 = .ok (.getfield 15, 3) := by decide +kernel
theorem dX4_copyFrom_18 : decode cX4_copyFrom 18 = .ok (.iconst 0, 1) := by decide +kernel
theorem dX4_copyFrom_19 : decode cX4_copyFrom 19 = .ok (.aload_n 0, 1) := by decide +kernel
theorem dX4_copyFrom_20 : decode cX4_copyFrom 20 = .ok (.getfield 15, 3) := by decide +kernel
theorem dX4_copyFrom_23 : decode cX4_copyFrom 23 = .ok (.iconst 0, 1) := by decide +kernel
theorem dX4_copyFrom_24 : decode cX4_copyFrom 24 = .ok (.iconst 4, 1) := by decide +kernel
theorem dX4_copyFrom_25 : decode cX4_copyFrom 25 = .ok (.invokestatic 31, 3) := by decide +kernel
theorem dX4_copyFrom_28 : decode cX4_copyFrom 28 = .ok (.aload_n 0, 1) := by decide +kernel
theorem dX4_copyFrom_29 : decode cX4_copyFrom 29 = .ok (.aload_n 1, 1) := by decide +kernel
theorem dX4_copyFrom_30 : decode cX4_copyFrom 30 = .ok (.getfield 18, 3) := by decide +kernel
theorem dX4_copyFrom_33 : decode cX4_copyFrom 33 = .ok (.putfield 18, 3) := by decide +kernel
theorem dX4_copyFrom_36 : decode cX4_copyFrom 36 = .ok (.aload_n 0, 1) := by decide +kernel
theorem dX4_copyFrom_37 : decode cX4_copyFrom 37 = .ok (.aload_n 1, 1) := by decide +kernel
theorem dX4_copyFrom_38 : decode cX4_copyFrom 38 = .ok (.getfield 22, 3) := by decide +kernel
theorem dX4_copyFrom_41 : decode cX4_copyFrom 41 = .ok (.putfield 22, 3) := by decide +kernel
theorem dX4_copyFrom_44 : decode cX4_copyFrom 44 = .ok (.aload_n 0, 1) := by decide +kernel
theorem dX4_copyFrom_45 : decode cX4_copyFrom 45 = .ok (.aload_n 1, 1) := by decide +kernel
theorem dX4_copyFrom_46 : decode cX4_copyFrom 46 = .ok (.getfield 25, 3) := by decide +kernel
theorem dX4_copyFrom_49 : decode cX4_copyFrom 49 = .ok (.putfield 25, 3) := by decide +kernel
theorem dX4_copyFrom_52 : decode cX4_copyFrom 52 = .ok (.aload_n 0, 1) := by decide +kernel
theorem dX4_copyFrom_53 : decode cX4_copyFrom 53 = .ok (.aload_n 1, 1) := by decide +kernel
theorem dX4_copyFrom_54 : decode cX4_copyFrom 54 = .ok (.getfield 28, 3) := by decide +kernel
theorem dX4_copyFrom_57 : decode cX4_copyFrom 57 = .ok (.putfield 28, 3) := by decide +kernel
theorem dX4_copyFrom_60 : decode cX4_copyFrom 60 = .ok (.return_, 1) := by decide +kernel
theorem f_x_see_rows : True := trivial
theorem dX4_see_0 : decode cX4_see 0 = .ok (.iload_n 1, 1) := by decide +kernel
theorem dX4_see_1 : decode cX4_see 1 = .ok (.ifCond .eq 18, 3) := by decide +kernel
theorem dX4_see_4 : decode cX4_see 4 = .ok (.aload_n 0, 1) := by decide +kernel
theorem dX4_see_5 : decode cX4_see 5 = .ok (.dup, 1) := by decide +kernel
theorem dX4_see_6 : decode cX4_see 6 = .ok (.getfield 25, 3) := by decide +kernel
theorem dX4_see_9 : decode cX4_see 9 = .ok (.iconst 1, 1) := by decide +kernel
theorem dX4_see_10 : decode cX4_see 10 = .ok (.aload_n 0, 1) := by decide +kernel
theorem dX4_see_11 : decode cX4_see 11 = .ok (.getfield 22, 3) := by decide +kernel
theorem dX4_see_14 : decode cX4_see 14 = .ok (.ishl, 1) := by decide +kernel
theorem dX4_see_15 : decode cX4_see 15 = .ok (.ior, 1) := by decide +kernel
theorem dX4_see_16 : decode cX4_see 16 = .ok (.putfield 25, 3) := by decide +kernel
theorem dX4_see_19 : decode cX4_see 19 = .ok (.aload_n 0, 1) := by decide +kernel
theorem dX4_see_20 : decode cX4_see 20 = .ok (.dup, 1) := by decide +kernel
theorem dX4_see_21 : decode cX4_see 21 = .ok (.getfield 22, 3) := by decide +kernel
theorem dX4_see_24 : decode cX4_see 24 = .ok (.iconst 1, 1) := by decide +kernel
theorem dX4_see_25 : decode cX4_see 25 = .ok (.iadd, 1) := by decide +kernel
theorem dX4_see_26 : decode cX4_see 26 = .ok (.putfield 22, 3) := by decide +kernel
theorem dX4_see_29 : decode cX4_see 29 = .ok (.aload_n 0, 1) := by decide +kernel
theorem dX4_see_30 : decode cX4_see 30 = .ok (.getfield 22, 3) := by decide +kernel
theorem dX4_see_33 : decode cX4_see 33 = .ok (.ireturn, 1) := by decide +kernel
theorem f_x_sawFree_rows : True := trivial
theorem dX4_sawFree_0 : decode cX4_sawFree 0 = .ok (.aload_n 0, 1) := by decide +kernel
theorem dX4_sawFree_1 : decode cX4_sawFree 1 = .ok (.getfield 25, 3) := by decide +kernel
theorem dX4_sawFree_4 : decode cX4_sawFree 4 = .ok (.iload_n 1, 1) := by decide +kernel
theorem dX4_sawFree_5 : decode cX4_sawFree 5 = .ok (.ishr, 1) := by decide +kernel
theorem dX4_sawFree_6 : decode cX4_sawFree 6 = .ok (.iconst 1, 1) := by decide +kernel
theorem dX4_sawFree_7 : decode cX4_sawFree 7 = .ok (.iand, 1) := by decide +kernel
theorem dX4_sawFree_8 : decode cX4_sawFree 8 = .ok (.ifCond .eq 7, 3) := by decide +kernel
theorem dX4_sawFree_11 : decode cX4_sawFree 11 = .ok (.iconst 1, 1) := by decide +kernel
theorem dX4_sawFree_12 : decode cX4_sawFree 12 = .ok (.goto 4, 3) := by decide +kernel
theorem dX4_sawFree_15 : decode cX4_sawFree 15 = .ok (.iconst 0, 1) := by decide +kernel
theorem dX4_sawFree_16 : decode cX4_sawFree 16 = .ok (.ireturn, 1) := by decide +kernel
theorem f_x_addCar_rows : True := trivial
theorem dX4_addCar_0 : decode cX4_addCar 0 = .ok (.aload_n 0, 1) := by decide +kernel
theorem dX4_addCar_1 : decode cX4_addCar 1 = .ok (.getfield 18, 3) := by decide +kernel
theorem dX4_addCar_4 : decode cX4_addCar 4 = .ok (.istore_n 3, 1) := by decide +kernel
theorem dX4_addCar_5 : decode cX4_addCar 5 = .ok (.iload_n 3, 1) := by decide +kernel
theorem dX4_addCar_6 : decode cX4_addCar 6 = .ok (.iconst 4, 1) := by decide +kernel
theorem dX4_addCar_7 : decode cX4_addCar 7 = .ok (.if_icmp .ge 27, 3) := by decide +kernel
theorem dX4_addCar_10 : decode cX4_addCar 10 = .ok (.aload_n 0, 1) := by decide +kernel
theorem dX4_addCar_11 : decode cX4_addCar 11 = .ok (.getfield 9, 3) := by decide +kernel
theorem dX4_addCar_14 : decode cX4_addCar 14 = .ok (.iload_n 3, 1) := by decide +kernel
theorem dX4_addCar_15 : decode cX4_addCar 15 = .ok (.iload_n 1, 1) := by decide +kernel
theorem dX4_addCar_16 : decode cX4_addCar 16 = .ok (.iastore, 1) := by decide +kernel
theorem dX4_addCar_17 : decode cX4_addCar 17 = .ok (.aload_n 0, 1) := by decide +kernel
theorem dX4_addCar_18 : decode cX4_addCar 18 = .ok (.getfield 15, 3) := by decide +kernel
theorem dX4_addCar_21 : decode cX4_addCar 21 = .ok (.iload_n 3, 1) := by decide +kernel
theorem dX4_addCar_22 : decode cX4_addCar 22 = .ok (.iload_n 2, 1) := by decide +kernel
theorem dX4_addCar_23 : decode cX4_addCar 23 = .ok (.iastore, 1) := by decide +kernel
theorem dX4_addCar_24 : decode cX4_addCar 24 = .ok (.aload_n 0, 1) := by decide +kernel
theorem dX4_addCar_25 : decode cX4_addCar 25 = .ok (.dup, 1) := by decide +kernel
theorem dX4_addCar_26 : decode cX4_addCar 26 = .ok (.getfield 18, 3) := by decide +kernel
theorem dX4_addCar_29 : decode cX4_addCar 29 = .ok (.iconst 1, 1) := by decide +kernel
theorem dX4_addCar_30 : decode cX4_addCar 30 = .ok (.iadd, 1) := by decide +kernel
theorem dX4_addCar_31 : decode cX4_addCar 31 = .ok (.putfield 18, 3) := by decide +kernel
theorem dX4_addCar_34 : decode cX4_addCar 34 = .ok (.iload_n 3, 1) := by decide +kernel
theorem dX4_addCar_35 : decode cX4_addCar 35 = .ok (.ireturn, 1) := by decide +kernel
theorem dX4_takeBars_0 : decode cX4_takeBars 0 = .ok (.aload_n 1, 1) := by decide +kernel
theorem dX4_takeBars_1 : decode cX4_takeBars 1 = .ok (.iconst 0, 1) := by decide +kernel
theorem dX4_takeBars_2 : decode cX4_takeBars 2 = .ok (.aload_n 0, 1) := by decide +kernel
theorem dX4_takeBars_3 : decode cX4_takeBars 3 = .ok (.getfield 15, 3) := by decide +kernel
theorem dX4_takeBars_6 : decode cX4_takeBars 6 = .ok (.iconst 0, 1) := by decide +kernel
theorem dX4_takeBars_7 : decode cX4_takeBars 7 = .ok (.iconst 4, 1) := by decide +kernel
theorem dX4_takeBars_8 : decode cX4_takeBars 8 = .ok (.invokestatic 31, 3) := by decide +kernel
theorem dX4_takeBars_11 : decode cX4_takeBars 11 = .ok (.return_, 1) := by decide +kernel
set_option maxHeartbeats 4000000 in
set_option maxRecDepth 100000 in
theorem x_takeBars (l : Launch) (D : va_G) (k : Nat → ClassId) (st : Nat → Nat) (lo : Nat) (c0 : Nat) (c1 : Nat) (c2 : Nat) (cc : Nat) (rz : Nat) (ro : Int32) (sd : Int32) (wk : Nat → Int32) (br : Nat → Nat) (z1 : Nat) (pb : Nat → Nat) (hbr : ∀ j, br j ≤ 24) (hpb : ∀ j, pb j ≤ 24) : CWv l D k st lo yX4_takeBars cX4_takeBars 2 none ({ frames := 1, cells := 0, slots := 0, locals := 60 }) 0 0 [.ref c0, .ref z1] [(c0, .inr (4, (fX4 c1 c2 (nI cc) (nI rz) ro sd))), (aI k c1 4 wk), (aI k c2 4 (nF br)), (aI k z1 4 (nF pb))] (fun (br_ : (Nat → Nat)) => ∀ j, br_ j ≤ 24) (fun (br_ : (Nat → Nat)) => [(c0, .inr (4, (fX4 c1 c2 (nI cc) (nI rz) ro sd))), (aI k c1 4 wk), (aI k c2 4 (nF br_)), (aI k z1 4 (nF pb))]) := by
  intro sz
  refine Met.ofW (cc := cX4_takeBars) (maxL := 2) (ret := none) (by decide) rfl ?_
  intro p e s m args below meth c s₁ B hml hv
  obtain ⟨rfl, hsz, hlo, hP, hK, hDL, hZ⟩ := hv
  have hx := B.exec
  have hb := B.bytes
  have hr := B.returns
  have hts := WS_ts B.pre
  have hown : s.vm.findClass RX4 = some m.cls := findClass_of_methodNamed B.named
  have hlocks := B.notSynchronized
  subst hsz
  have hD := hDL.self (sz := s.heap.size)
  have hAlo := A_lo hDL hlo
  generalize hAe : va_A [(c0, .inr (4, (fX4 c1 c2 (nI cc) (nI rz) ro sd))), (aI k c1 4 wk), (aI k c2 4 (nF br)), (aI k z1 4 (nF pb))] s.heap.size = A at hD hAlo ⊢
  have hA : ∀ q : Nat, s.heap.size ≤ q → A q := fun q h => by rw [← hAe]; exact Or.inr h
  have hS : va_S A s.heap s.heap [] := va_S.rf
  have hl := lv_entry ([.ref c0, .ref z1]) (n := 2) (Nat.le_of_ble_eq_true rfl)
  rw [lg_entry_eq]
  generalize (lg_sl ([.ref c0, .ref z1]) ++ List.replicate (2 - (lg_sl ([.ref c0, .ref z1])).length) Slot.unset).toArray = ls at hl ⊢
  have hl : lv_has ls 2 [(0, .ref c0), (1, .ref z1)] := hl
  refine lv_aload_n hx hb dX4_takeBars_0 rfl (lv_at hl 1 rfl) ?_
  refine lv_iconst (v := 0) hx hb dX4_takeBars_1 (by decide) ?_
  refine lv_aload_n hx hb dX4_takeBars_2 rfl (lv_at hl 0 rfl) ?_
  refine va_get (D := D) (ci := 4) (v := .ref c2) (C := RX4) (T := TX4) (N := 6) hx hb hts inX4 hown hK hP 0 rfl rfl 1 (by decide) (hts _ tw_175) (fun _ h9 => h9) rfl dX4_takeBars_3 ?_
  refine lv_iconst (v := 0) hx hb dX4_takeBars_6 (by decide) ?_
  refine lv_iconst (v := 4) hx hb dX4_takeBars_7 (by decide) ?_
  refine va_copyi hx hb (by rw [hml]; exact hl.1.symm) hown (hts _ tw_883) (hts _ tw_366) (hts _ tw_365) (hts _ tw_88) hK hP hD hS 3 2 1 1 rfl rfl rfl rfl rfl (by decide) (by decide) (by decide) (by decide) (by decide) (fun _ _ => rfl) (Nat.le_of_ble_eq_true rfl) (Nat.le_of_ble_eq_true rfl) dX4_takeBars_8 (fun H locs hP hD hS => ?_)
  have hQ9 := pd_mk [(c0, .inr (4, (fX4 c1 c2 (nI cc) (nI rz) ro sd))), (aI k c1 4 wk), (aI k c2 4 (va_cpy (nF pb) (nF br) 0 0 4)), (aI k z1 4 (nF pb))] hP hD
  clear hP hD
  obtain ⟨hP, hD⟩ := hQ9
  obtain ⟨d_1, hd_1, hbb_1⟩ := nF_cpy hpb hbr
  rw [show va_cpy (nF pb) (nF br) 0 0 4 = nF d_1 from hd_1] at hP hD
  have hQ9 := pd_mk [(c0, .inr (4, (fX4 c1 c2 (nI cc) (nI rz) ro sd))), (aI k c1 4 wk), (aI k c2 4 (nF d_1)), (aI k z1 4 (nF pb))] hP hD
  clear hP hD
  obtain ⟨hP, hD⟩ := hQ9
  obtain ⟨hP9, hD9⟩ := pd_sub [(c0, .inr (4, (fX4 c1 c2 (nI cc) (nI rz) ro sd))), (aI k c1 4 wk), (aI k c2 4 (nF d_1)), (aI k z1 4 (nF pb))] [0, 1, 2, 3] hP hD (by decide) rfl
  exact W.vret hx hb hr (fun t ht hW => ⟨⟨d_1, rfl, hbb_1, by rw [ht]; exact hP9, hD9⟩, hS.F ht⟩) hS.2.2 dX4_takeBars_11

theorem f_x_draw_rows : True := trivial
theorem dX4_draw_0 : decode cX4_draw 0 = .ok (.aload_n 0, 1) := by decide +kernel
theorem dX4_draw_1 : decode cX4_draw 1 = .ok (.aload_n 0, 1) := by decide +kernel
theorem dX4_draw_2 : decode cX4_draw 2 = .ok (.getfield 28, 3) := by decide +kernel
theorem dX4_draw_5 : decode cX4_draw 5 = .ok (.i2l, 1) := by decide +kernel
theorem dX4_draw_6 : decode cX4_draw 6 = .ok (.ldc2_w 37, 3) := by decide +kernel
theorem dX4_draw_9 : decode cX4_draw 9 = .ok (.lmul, 1) := by decide +kernel
theorem dX4_draw_10 : decode cX4_draw 10 = .ok (.ldc2_w 39, 3) := by decide +kernel
theorem dX4_draw_13 : decode cX4_draw 13 = .ok (.ladd, 1) := by decide +kernel
theorem dX4_draw_14 : decode cX4_draw 14 = .ok (.ldc2_w 41, 3) := by decide +kernel
theorem dX4_draw_17 : decode cX4_draw 17 = .ok (.land, 1) := by decide +kernel
theorem dX4_draw_18 : decode cX4_draw 18 = .ok (.l2i, 1) := by decide +kernel
theorem dX4_draw_19 : decode cX4_draw 19 = .ok (.putfield 28, 3) := by decide +kernel
theorem dX4_draw_22 : decode cX4_draw 22 = .ok (.aload_n 0, 1) := by decide +kernel
theorem dX4_draw_23 : decode cX4_draw 23 = .ok (.getfield 28, 3) := by decide +kernel
theorem dX4_draw_26 : decode cX4_draw 26 = .ok (.ldc 43, 2) := by decide +kernel
theorem dX4_draw_28 : decode cX4_draw 28 = .ok (.idiv, 1) := by decide +kernel
theorem dX4_draw_29 : decode cX4_draw 29 = .ok (.bipush 100, 2) := by decide +kernel
theorem dX4_draw_31 : decode cX4_draw 31 = .ok (.irem, 1) := by decide +kernel
theorem dX4_draw_32 : decode cX4_draw 32 = .ok (.ireturn, 1) := by decide +kernel
theorem dX0_slot_0 : decode cX0_slot 0 = .ok (.iload_n 0, 1) := by decide +kernel
theorem dX0_slot_1 : decode cX0_slot 1 = .ok (.bipush 24, 2) := by decide +kernel
theorem dX0_slot_3 : decode cX0_slot 3 = .ok (.imul, 1) := by decide +kernel
theorem dX0_slot_4 : decode cX0_slot 4 = .ok (.iload_n 1, 1) := by decide +kernel
theorem dX0_slot_5 : decode cX0_slot 5 = .ok (.iadd, 1) := by decide +kernel
theorem dX0_slot_6 : decode cX0_slot 6 = .ok (.bipush 8, 2) := by decide +kernel
theorem dX0_slot_8 : decode cX0_slot 8 = .ok (.imul, 1) := by decide +kernel
theorem dX0_slot_9 : decode cX0_slot 9 = .ok (.iload_n 2, 1) := by decide +kernel
theorem dX0_slot_10 : decode cX0_slot 10 = .ok (.iadd, 1) := by decide +kernel
theorem dX0_slot_11 : decode cX0_slot 11 = .ok (.ireturn, 1) := by decide +kernel
set_option maxHeartbeats 4000000 in
set_option maxRecDepth 100000 in
theorem x_slot (l : Launch) (D : va_G) (k : Nat → ClassId) (st : Nat → Nat) (lo : Nat) (rn : Nat) (i : Nat) (gg : Nat)  : CRi l D k st lo yX0_slot cX0_slot 3 (some .int) ({ frames := 0, cells := 0, slots := 0, locals := 0 }) [.int (nI rn), .int (nI i), .int (nI gg)] [] (fun r => r = nI ((rn * 24 + i) * 8 + gg)) := by
  intro sz
  refine Met.ofW (cc := cX0_slot) (maxL := 3) (ret := (some .int)) (by decide) rfl ?_
  intro p e s m args below meth c s₁ B hml hv
  obtain ⟨rfl, hsz, hlo, hP, hK, hDL, hZ⟩ := hv
  have hx := B.exec
  have hb := B.bytes
  have hr := B.returns
  have hts := WS_ts B.pre
  have hown : s.vm.findClass RX0 = some m.cls := findClass_of_methodNamed B.named
  have hlocks := B.notSynchronized
  subst hsz
  have hA : ∀ q : Nat, s.heap.size ≤ q → (fun q : Nat => s.heap.size ≤ q) q := fun _ h => h
  have hAlo : ∀ q : Nat, (fun q : Nat => s.heap.size ≤ q) q → lo ≤ q := fun q h => Nat.le_trans hlo h
  have hS : va_S (fun q : Nat => s.heap.size ≤ q) s.heap s.heap [] := va_S.rf
  have hl := lv_entry ([.int (nI rn), .int (nI i), .int (nI gg)]) (n := 3) (Nat.le_of_ble_eq_true rfl)
  rw [lg_entry_eq]
  generalize (lg_sl ([.int (nI rn), .int (nI i), .int (nI gg)]) ++ List.replicate (3 - (lg_sl ([.int (nI rn), .int (nI i), .int (nI gg)])).length) Slot.unset).toArray = ls at hl ⊢
  have hl : lv_has ls 3 [(0, .int (nI rn)), (1, .int (nI i)), (2, .int (nI gg))] := hl
  refine lv_iload_n hx hb dX0_slot_0 rfl (lv_at hl 0 rfl) ?_
  refine lv_bipush (v := 24) hx hb dX0_slot_1 (by decide) ?_
  refine lv_imul hx hb dX0_slot_3 ?_
  refine lv_ti (y := (nI (rn * 24))) (pk_mul rn 24) ?_
  refine lv_iload_n hx hb dX0_slot_4 rfl (lv_at hl 1 rfl) ?_
  refine lv_iadd hx hb dX0_slot_5 ?_
  refine lv_ti (y := (nI (rn * 24 + i))) (nI_add (rn * 24) i) ?_
  refine lv_bipush (v := 8) hx hb dX0_slot_6 (by decide) ?_
  refine lv_imul hx hb dX0_slot_8 ?_
  refine lv_ti (y := (nI ((rn * 24 + i) * 8))) (pk_mul (rn * 24 + i) 8) ?_
  refine lv_iload_n hx hb dX0_slot_9 rfl (lv_at hl 2 rfl) ?_
  refine lv_iadd hx hb dX0_slot_10 ?_
  refine lv_ti (y := (nI ((rn * 24 + i) * 8 + gg))) (nI_add ((rn * 24 + i) * 8) gg) ?_
  exact W.iret (v := (nI ((rn * 24 + i) * 8 + gg))) hx hb hr (fun t ht hW => ⟨⟨(nI ((rn * 24 + i) * 8 + gg)), (), rfl, rfl, trivial⟩, hS.F ht⟩) hS.2.2 dX0_slot_11

theorem f_x_onwardOf_rows : True := trivial
theorem dX0_onwardOf_0 : decode cX0_onwardOf 0 = .ok (.aload_n 0, 1) := by decide +kernel
theorem dX0_onwardOf_1 : decode cX0_onwardOf 1 = .ok (.getfield 9, 3) := by decide +kernel
theorem dX0_onwardOf_4 : decode cX0_onwardOf 4 = .ok (.iload_n 1, 1) := by decide +kernel
theorem dX0_onwardOf_5 : decode cX0_onwardOf 5 = .ok (.iload_n 2, 1) := by decide +kernel
theorem dX0_onwardOf_6 : decode cX0_onwardOf 6 = .ok (.iload_n 3, 1) := by decide +kernel
theorem dX0_onwardOf_7 : decode cX0_onwardOf 7 = .ok (.invokestatic 67, 3) := by decide +kernel
theorem dX0_onwardOf_10 : decode cX0_onwardOf 10 = .ok (.iaload, 1) := by decide +kernel
theorem dX0_onwardOf_11 : decode cX0_onwardOf 11 = .ok (.ireturn, 1) := by decide +kernel
theorem f_x_isTaken_rows : True := trivial
theorem dX0_isTaken_0 : decode cX0_isTaken 0 = .ok (.iload_n 3, 1) := by decide +kernel
theorem dX0_isTaken_1 : decode cX0_isTaken 1 = .ok (.iconst 1, 1) := by decide +kernel
theorem dX0_isTaken_2 : decode cX0_isTaken 2 = .ok (.iand, 1) := by decide +kernel
theorem dX0_isTaken_3 : decode cX0_isTaken 3 = .ok (.ifCond .eq 26, 3) := by decide +kernel
theorem dX0_isTaken_6 : decode cX0_isTaken 6 = .ok (.aload_n 0, 1) := by decide +kernel
theorem dX0_isTaken_7 : decode cX0_isTaken 7 = .ok (.getfield 24, 3) := by decide +kernel
theorem dX0_isTaken_10 : decode cX0_isTaken 10 = .ok (.iload_n 1, 1) := by decide +kernel
theorem dX0_isTaken_11 : decode cX0_isTaken 11 = .ok (.iload_n 2, 1) := by decide +kernel
theorem dX0_isTaken_12 : decode cX0_isTaken 12 = .ok (.invokevirtual 83, 3) := by decide +kernel
theorem dX0_isTaken_15 : decode cX0_isTaken 15 = .ok (.aload_n 0, 1) := by decide +kernel
theorem dX0_isTaken_16 : decode cX0_isTaken 16 = .ok (.iload_n 1, 1) := by decide +kernel
theorem dX0_isTaken_17 : decode cX0_isTaken 17 = .ok (.iload_n 2, 1) := by decide +kernel
theorem dX0_isTaken_18 : decode cX0_isTaken 18 = .ok (.iload_n 3, 1) := by decide +kernel
theorem dX0_isTaken_19 : decode cX0_isTaken 19 = .ok (.invokevirtual 86, 3) := by decide +kernel
theorem dX0_isTaken_22 : decode cX0_isTaken 22 = .ok (.if_icmp .gt 7, 3) := by decide +kernel
theorem dX0_isTaken_25 : decode cX0_isTaken 25 = .ok (.iconst 1, 1) := by decide +kernel
theorem dX0_isTaken_26 : decode cX0_isTaken 26 = .ok (.goto 4, 3) := by decide +kernel
theorem dX0_isTaken_29 : decode cX0_isTaken 29 = .ok (.iconst 0, 1) := by decide +kernel
theorem dX0_isTaken_30 : decode cX0_isTaken 30 = .ok (.ireturn, 1) := by decide +kernel
theorem f_x_worthOf_rows : True := trivial
theorem dX0_worthOf_0 : decode cX0_worthOf 0 = .ok (.aload_n 0, 1) := by decide +kernel
theorem dX0_worthOf_1 : decode cX0_worthOf 1 = .ok (.iload_n 1, 1) := by decide +kernel
theorem dX0_worthOf_2 : decode cX0_worthOf 2 = .ok (.iload_n 2, 1) := by decide +kernel
theorem dX0_worthOf_3 : decode cX0_worthOf 3 = .ok (.iload_n 3, 1) := by decide +kernel
theorem dX0_worthOf_4 : decode cX0_worthOf 4 = .ok (.invokevirtual 86, 3) := by decide +kernel
theorem dX0_worthOf_7 : decode cX0_worthOf 7 = .ok (.istore 4, 2) := by decide +kernel
theorem dX0_worthOf_9 : decode cX0_worthOf 9 = .ok (.iload_n 3, 1) := by decide +kernel
theorem dX0_worthOf_10 : decode cX0_worthOf 10 = .ok (.iconst 1, 1) := by decide +kernel
theorem dX0_worthOf_11 : decode cX0_worthOf 11 = .ok (.iand, 1) := by decide +kernel
theorem dX0_worthOf_12 : decode cX0_worthOf 12 = .ok (.ifCond .ne 8, 3) := by decide +kernel
theorem dX0_worthOf_15 : decode cX0_worthOf 15 = .ok (.iload 4, 2) := by decide +kernel
theorem dX0_worthOf_17 : decode cX0_worthOf 17 = .ok (.goto 17, 3) := by decide +kernel
theorem dX0_worthOf_20 : decode cX0_worthOf 20 = .ok (.iload 4, 2) := by decide +kernel
theorem dX0_worthOf_22 : decode cX0_worthOf 22 = .ok (.aload_n 0, 1) := by decide +kernel
theorem dX0_worthOf_23 : decode cX0_worthOf 23 = .ok (.getfield 24, 3) := by decide +kernel
theorem dX0_worthOf_26 : decode cX0_worthOf 26 = .ok (.iload_n 1, 1) := by decide +kernel
theorem dX0_worthOf_27 : decode cX0_worthOf 27 = .ok (.iload_n 2, 1) := by decide +kernel
theorem dX0_worthOf_28 : decode cX0_worthOf 28 = .ok (.invokevirtual 83, 3) := by decide +kernel
theorem dX0_worthOf_31 : decode cX0_worthOf 31 = .ok (.invokestatic 54, 3) := by decide +kernel
theorem dX0_worthOf_34 : decode cX0_worthOf 34 = .ok (.ireturn, 1) := by decide +kernel
theorem f_x_mixed_rows : True := trivial
theorem dX7_mixed_0 : decode cX7_mixed 0 = .ok (.iload_n 0, 1) := by decide +kernel
theorem dX7_mixed_1 : decode cX7_mixed 1 = .ok (.i2l, 1) := by decide +kernel
theorem dX7_mixed_2 : decode cX7_mixed 2 = .ok (.iload_n 1, 1) := by decide +kernel
theorem dX7_mixed_3 : decode cX7_mixed 3 = .ok (.i2l, 1) := by decide +kernel
theorem dX7_mixed_4 : decode cX7_mixed 4 = .ok (.lmul, 1) := by decide +kernel
theorem dX7_mixed_5 : decode cX7_mixed 5 = .ok (.bipush 100, 2) := by decide +kernel
theorem dX7_mixed_7 : decode cX7_mixed 7 = .ok (.iload_n 0, 1) := by decide +kernel
theorem dX7_mixed_8 : decode cX7_mixed 8 = .ok (.isub, 1) := by decide +kernel
theorem dX7_mixed_9 : decode cX7_mixed 9 = .ok (.i2l, 1) := by decide +kernel
theorem dX7_mixed_10 : decode cX7_mixed 10 = .ok (.iload_n 2, 1) := by decide +kernel
theorem dX7_mixed_11 : decode cX7_mixed 11 = .ok (.i2l, 1) := by decide +kernel
theorem dX7_mixed_12 : decode cX7_mixed 12 = .ok (.lmul, 1) := by decide +kernel
theorem dX7_mixed_13 : decode cX7_mixed 13 = .ok (.ladd, 1) := by decide +kernel
theorem dX7_mixed_14 : decode cX7_mixed 14 = .ok (.ldc2_w 295, 3) := by decide +kernel
theorem dX7_mixed_17 : decode cX7_mixed 17 = .ok (.ldiv, 1) := by decide +kernel
theorem dX7_mixed_18 : decode cX7_mixed 18 = .ok (.l2i, 1) := by decide +kernel
theorem dX7_mixed_19 : decode cX7_mixed 19 = .ok (.ireturn, 1) := by decide +kernel
theorem f_x_reckonEnd_rows : True := trivial
theorem dX0_reckonEnd_0 : decode cX0_reckonEnd 0 = .ok (.aload_n 0, 1) := by decide +kernel
theorem dX0_reckonEnd_1 : decode cX0_reckonEnd 1 = .ok (.getfield 24, 3) := by decide +kernel
theorem dX0_reckonEnd_4 : decode cX0_reckonEnd 4 = .ok (.iload_n 1, 1) := by decide +kernel
theorem dX0_reckonEnd_5 : decode cX0_reckonEnd 5 = .ok (.invokevirtual 48, 3) := by decide +kernel
theorem dX0_reckonEnd_8 : decode cX0_reckonEnd 8 = .ok (.istore_n 2, 1) := by decide +kernel
theorem dX0_reckonEnd_9 : decode cX0_reckonEnd 9 = .ok (.iload_n 1, 1) := by decide +kernel
theorem dX0_reckonEnd_10 : decode cX0_reckonEnd 10 = .ok (.aload_n 0, 1) := by decide +kernel
theorem dX0_reckonEnd_11 : decode cX0_reckonEnd 11 = .ok (.getfield 24, 3) := by decide +kernel
theorem dX0_reckonEnd_14 : decode cX0_reckonEnd 14 = .ok (.getfield 28, 3) := by decide +kernel
theorem dX0_reckonEnd_17 : decode cX0_reckonEnd 17 = .ok (.bipush 8, 2) := by decide +kernel
theorem dX0_reckonEnd_19 : decode cX0_reckonEnd 19 = .ok (.iaload, 1) := by decide +kernel
theorem dX0_reckonEnd_20 : decode cX0_reckonEnd 20 = .ok (.if_icmp .lt 5, 3) := by decide +kernel
theorem dX0_reckonEnd_23 : decode cX0_reckonEnd 23 = .ok (.iload_n 2, 1) := by decide +kernel
theorem dX0_reckonEnd_24 : decode cX0_reckonEnd 24 = .ok (.ireturn, 1) := by decide +kernel
theorem dX0_reckonEnd_25 : decode cX0_reckonEnd 25 = .ok (.iload_n 2, 1) := by decide +kernel
theorem dX0_reckonEnd_26 : decode cX0_reckonEnd 26 = .ok (.aload_n 0, 1) := by decide +kernel
theorem dX0_reckonEnd_27 : decode cX0_reckonEnd 27 = .ok (.getfield 24, 3) := by decide +kernel
theorem dX0_reckonEnd_30 : decode cX0_reckonEnd 30 = .ok (.invokevirtual 51, 3) := by decide +kernel
theorem dX0_reckonEnd_33 : decode cX0_reckonEnd 33 = .ok (.aload_n 0, 1) := by decide +kernel
theorem dX0_reckonEnd_34 : decode cX0_reckonEnd 34 = .ok (.getfield 15, 3) := by decide +kernel
theorem dX0_reckonEnd_37 : decode cX0_reckonEnd 37 = .ok (.iload_n 1, 1) := by decide +kernel
theorem dX0_reckonEnd_38 : decode cX0_reckonEnd 38 = .ok (.iconst 1, 1) := by decide +kernel
theorem dX0_reckonEnd_39 : decode cX0_reckonEnd 39 = .ok (.iadd, 1) := by decide +kernel
theorem dX0_reckonEnd_40 : decode cX0_reckonEnd 40 = .ok (.iaload, 1) := by decide +kernel
theorem dX0_reckonEnd_41 : decode cX0_reckonEnd 41 = .ok (.iadd, 1) := by decide +kernel
theorem dX0_reckonEnd_42 : decode cX0_reckonEnd 42 = .ok (.invokestatic 54, 3) := by decide +kernel
theorem dX0_reckonEnd_45 : decode cX0_reckonEnd 45 = .ok (.ireturn, 1) := by decide +kernel

theorem dX8_leastAll_0 : decode cX8_leastAll 0 = .ok (.aload_n 0, 1) := by decide +kernel
theorem dX8_leastAll_1 : decode cX8_leastAll 1 = .ok (.getfield 7, 3) := by decide +kernel
theorem dX8_leastAll_4 : decode cX8_leastAll 4 = .ok (.iload_n 1, 1) := by decide +kernel
theorem dX8_leastAll_5 : decode cX8_leastAll 5 = .ok (.iaload, 1) := by decide +kernel
theorem dX8_leastAll_6 : decode cX8_leastAll 6 = .ok (.istore_n 3, 1) := by decide +kernel
theorem dX8_leastAll_7 : decode cX8_leastAll 7 = .ok (.iconst (-1), 1) := by decide +kernel
theorem dX8_leastAll_8 : decode cX8_leastAll 8 = .ok (.istore 4, 2) := by decide +kernel
theorem dX8_leastAll_10 : decode cX8_leastAll 10 = .ok (.iconst (-1), 1) := by decide +kernel
theorem dX8_leastAll_11 : decode cX8_leastAll 11 = .ok (.istore 5, 2) := by decide +kernel
theorem dX8_leastAll_13 : decode cX8_leastAll 13 = .ok (.iload 5, 2) := by decide +kernel
theorem dX8_leastAll_15 : decode cX8_leastAll 15 = .ok (.aload_n 0, 1) := by decide +kernel
theorem dX8_leastAll_16 : decode cX8_leastAll 16 = .ok (.getfield 315, 3) := by decide +kernel
theorem dX8_leastAll_19 : decode cX8_leastAll 19 = .ok (.ifCond .le 7, 3) := by decide +kernel
theorem dX8_leastAll_22 : decode cX8_leastAll 22 = .ok (.iload_n 3, 1) := by decide +kernel
theorem dX8_leastAll_23 : decode cX8_leastAll 23 = .ok (.goto 4, 3) := by decide +kernel
theorem dX8_leastAll_26 : decode cX8_leastAll 26 = .ok (.iconst 0, 1) := by decide +kernel
theorem dX8_leastAll_27 : decode cX8_leastAll 27 = .ok (.if_icmp .ge 150, 3) := by decide +kernel
theorem dX8_leastAll_30 : decode cX8_leastAll 30 = .ok (.iconst (-1), 1) := by decide +kernel
theorem dX8_leastAll_31 : decode cX8_leastAll 31 = .ok (.istore 6, 2) := by decide +kernel
theorem dX8_leastAll_33 : decode cX8_leastAll 33 = .ok (.iload 6, 2) := by decide +kernel
theorem dX8_leastAll_35 : decode cX8_leastAll 35 = .ok (.aload_n 0, 1) := by decide +kernel
theorem dX8_leastAll_36 : decode cX8_leastAll 36 = .ok (.getfield 315, 3) := by decide +kernel
theorem dX8_leastAll_39 : decode cX8_leastAll 39 = .ok (.iconst 1, 1) := by decide +kernel
theorem dX8_leastAll_40 : decode cX8_leastAll 40 = .ok (.if_icmp .le 7, 3) := by decide +kernel
theorem dX8_leastAll_43 : decode cX8_leastAll 43 = .ok (.iload_n 3, 1) := by decide +kernel
theorem dX8_leastAll_44 : decode cX8_leastAll 44 = .ok (.goto 4, 3) := by decide +kernel
theorem dX8_leastAll_47 : decode cX8_leastAll 47 = .ok (.iconst 0, 1) := by decide +kernel
theorem dX8_leastAll_48 : decode cX8_leastAll 48 = .ok (.if_icmp .ge 123, 3) := by decide +kernel
theorem dX8_leastAll_51 : decode cX8_leastAll 51 = .ok (.iconst (-1), 1) := by decide +kernel
theorem dX8_leastAll_52 : decode cX8_leastAll 52 = .ok (.istore 7, 2) := by decide +kernel
theorem dX8_leastAll_54 : decode cX8_leastAll 54 = .ok (.iload 7, 2) := by decide +kernel
theorem dX8_leastAll_56 : decode cX8_leastAll 56 = .ok (.aload_n 0, 1) := by decide +kernel
theorem dX8_leastAll_57 : decode cX8_leastAll 57 = .ok (.getfield 315, 3) := by decide +kernel
theorem dX8_leastAll_60 : decode cX8_leastAll 60 = .ok (.iconst 2, 1) := by decide +kernel
theorem dX8_leastAll_61 : decode cX8_leastAll 61 = .ok (.if_icmp .le 7, 3) := by decide +kernel
theorem dX8_leastAll_64 : decode cX8_leastAll 64 = .ok (.iload_n 3, 1) := by decide +kernel
theorem dX8_leastAll_65 : decode cX8_leastAll 65 = .ok (.goto 4, 3) := by decide +kernel
theorem dX8_leastAll_68 : decode cX8_leastAll 68 = .ok (.iconst 0, 1) := by decide +kernel
theorem dX8_leastAll_69 : decode cX8_leastAll 69 = .ok (.if_icmp .ge 96, 3) := by decide +kernel
theorem dX8_leastAll_72 : decode cX8_leastAll 72 = .ok (.iconst (-1), 1) := by decide +kernel
theorem dX8_leastAll_73 : decode cX8_leastAll 73 = .ok (.istore 8, 2) := by decide +kernel
theorem dX8_leastAll_75 : decode cX8_leastAll 75 = .ok (.iload 8, 2) := by decide +kernel
theorem dX8_leastAll_77 : decode cX8_leastAll 77 = .ok (.aload_n 0, 1) := by decide +kernel
theorem dX8_leastAll_78 : decode cX8_leastAll 78 = .ok (.getfield 315, 3) := by decide +kernel
theorem dX8_leastAll_81 : decode cX8_leastAll 81 = .ok (.iconst 3, 1) := by decide +kernel
theorem dX8_leastAll_82 : decode cX8_leastAll 82 = .ok (.if_icmp .le 7, 3) := by decide +kernel
theorem dX8_leastAll_85 : decode cX8_leastAll 85 = .ok (.iload_n 3, 1) := by decide +kernel
theorem dX8_leastAll_86 : decode cX8_leastAll 86 = .ok (.goto 4, 3) := by decide +kernel
theorem dX8_leastAll_89 : decode cX8_leastAll 89 = .ok (.iconst 0, 1) := by decide +kernel
theorem dX8_leastAll_90 : decode cX8_leastAll 90 = .ok (.if_icmp .ge 69, 3) := by decide +kernel
theorem dX8_leastAll_93 : decode cX8_leastAll 93 = .ok (.iload_n 2, 1) := by decide +kernel
theorem dX8_leastAll_94 : decode cX8_leastAll 94 = .ok (.iload 5, 2) := by decide +kernel
theorem dX8_leastAll_96 : decode cX8_leastAll 96 = .ok (.iload 6, 2) := by decide +kernel
theorem dX8_leastAll_98 : decode cX8_leastAll 98 = .ok (.iload 7, 2) := by decide +kernel
theorem dX8_leastAll_100 : decode cX8_leastAll 100 = .ok (.iload 8, 2) := by decide +kernel
theorem dX8_leastAll_102 : decode cX8_leastAll 102 = .ok (.invokestatic 354, 3) := by decide +kernel
theorem dX8_leastAll_105 : decode cX8_leastAll 105 = .ok (.ifCond .eq 19, 3) := by decide +kernel
theorem dX8_leastAll_108 : decode cX8_leastAll 108 = .ok (.aload_n 0, 1) := by decide +kernel
theorem dX8_leastAll_109 : decode cX8_leastAll 109 = .ok (.iload_n 1, 1) := by decide +kernel
theorem dX8_leastAll_110 : decode cX8_leastAll 110 = .ok (.iload 5, 2) := by decide +kernel
theorem dX8_leastAll_112 : decode cX8_leastAll 112 = .ok (.iload 6, 2) := by decide +kernel
theorem dX8_leastAll_114 : decode cX8_leastAll 114 = .ok (.iload 7, 2) := by decide +kernel
theorem dX8_leastAll_116 : decode cX8_leastAll 116 = .ok (.iload 8, 2) := by decide +kernel
theorem dX8_leastAll_118 : decode cX8_leastAll 118 = .ok (.invokevirtual 358, 3) := by decide +kernel
theorem dX8_leastAll_121 : decode cX8_leastAll 121 = .ok (.goto 4, 3) := by decide +kernel
theorem dX8_leastAll_124 : decode cX8_leastAll 124 = .ok (.iconst (-1), 1) := by decide +kernel
theorem dX8_leastAll_125 : decode cX8_leastAll 125 = .ok (.istore 9, 2) := by decide +kernel
theorem dX8_leastAll_127 : decode cX8_leastAll 127 = .ok (.iload 9, 2) := by decide +kernel
theorem dX8_leastAll_129 : decode cX8_leastAll 129 = .ok (.ifCond .lt 20, 3) := by decide +kernel
theorem dX8_leastAll_132 : decode cX8_leastAll 132 = .ok (.iload 4, 2) := by decide +kernel
theorem dX8_leastAll_134 : decode cX8_leastAll 134 = .ok (.ifCond .lt 10, 3) := by decide +kernel
theorem dX8_leastAll_137 : decode cX8_leastAll 137 = .ok (.iload 9, 2) := by decide +kernel
theorem dX8_leastAll_139 : decode cX8_leastAll 139 = .ok (.iload 4, 2) := by decide +kernel
theorem dX8_leastAll_141 : decode cX8_leastAll 141 = .ok (.if_icmp .ge 8, 3) := by decide +kernel
theorem dX8_leastAll_144 : decode cX8_leastAll 144 = .ok (.iload 9, 2) := by decide +kernel
theorem dX8_leastAll_146 : decode cX8_leastAll 146 = .ok (.goto 5, 3) := by decide +kernel
theorem dX8_leastAll_149 : decode cX8_leastAll 149 = .ok (.iload 4, 2) := by decide +kernel
theorem dX8_leastAll_151 : decode cX8_leastAll 151 = .ok (.istore 4, 2) := by decide +kernel
theorem dX8_leastAll_153 : decode cX8_leastAll 153 = .ok (.iinc 8 1, 3) := by decide +kernel
theorem dX8_leastAll_156 : decode cX8_leastAll 156 = .ok (.goto (-81), 3) := by decide +kernel
theorem dX8_leastAll_159 : decode cX8_leastAll 159 = .ok (.iinc 7 1, 3) := by decide +kernel
theorem dX8_leastAll_162 : decode cX8_leastAll 162 = .ok (.goto (-108), 3) := by decide +kernel
theorem dX8_leastAll_165 : decode cX8_leastAll 165 = .ok (.iinc 6 1, 3) := by decide +kernel
theorem dX8_leastAll_168 : decode cX8_leastAll 168 = .ok (.goto (-135), 3) := by decide +kernel
theorem dX8_leastAll_171 : decode cX8_leastAll 171 = .ok (.iinc 5 1, 3) := by decide +kernel
theorem dX8_leastAll_174 : decode cX8_leastAll 174 = .ok (.goto (-161), 3) := by decide +kernel
theorem dX8_leastAll_177 : decode cX8_leastAll 177 = .ok (.iload 4, 2) := by decide +kernel
theorem dX8_leastAll_179 : decode cX8_leastAll 179 = .ok (.ireturn, 1) := by decide +kernel
set_option maxHeartbeats 4000000 in
set_option maxRecDepth 100000 in
theorem m_leastAll (l : Launch) (D : va_G) (k : Nat → ClassId) (st : Nat → Nat) (lo : Nat) (a : Nat → Nat) (tx : Nat) (t0 : Nat) (we : Nat) (rd : Nat) (ru : Nat) (rw : Nat) (ca : Nat) (fp : Int32) (wd : Int64) (nu : Int32) (na : Int32) (ts : Int32) (df : Int32) (db : Int32) (sd : Int32) (dn : Nat → Nat) (se : Nat → Nat) (tm : Nat → Nat) (gs : Nat → Int32) (fprices : Nat → Int32) (fwalks : Nat → Int32) (sn : Nat) (p1 : Int32) (hdn : ∀ j, dn j ≤ 24) (hca : ca ≤ 4) (hs : sn < 3) : CRi l D k st lo yX8_leastAll cX8_leastAll 10 (some .int) ({ frames := 5, cells := 0, slots := 0, locals := 120 }) [.ref (a 0), .int (nI sn), .int p1] [((a 0), .inr (8, (fX8 a (nI tx) fp (nI t0) wd (nI we) nu na (nI rd) ts (nI ru) (nI rw) (nI ca) df db sd))), (aI k (a 1) 3 (nF dn)), (aI k (a 4) 27 (sg se tm gs)), (aI k (a 3) 72 fprices), (aI k (a 36) 4 fwalks)] (fun r => True) := by
  intro sz
  refine Met.ofW (cc := cX8_leastAll) (maxL := 10) (ret := (some .int)) (by decide) rfl ?_
  intro p e s m args below meth c s₁ B hml hv
  obtain ⟨rfl, hsz, hlo, hP, hK, hDL, hZ⟩ := hv
  have hx := B.exec
  have hb := B.bytes
  have hr := B.returns
  have hts := WS_ts B.pre
  have hown : s.vm.findClass RX8 = some m.cls := findClass_of_methodNamed B.named
  have hlocks := B.notSynchronized
  subst hsz
  have hA : ∀ q : Nat, s.heap.size ≤ q → (fun q : Nat => s.heap.size ≤ q) q := fun _ h => h
  have hAlo : ∀ q : Nat, (fun q : Nat => s.heap.size ≤ q) q → lo ≤ q := fun q h => Nat.le_trans hlo h
  have hS : va_S (fun q : Nat => s.heap.size ≤ q) s.heap s.heap [] := va_S.rf
  have hl := lv_entry ([.ref (a 0), .int (nI sn), .int p1]) (n := 10) (Nat.le_of_ble_eq_true rfl)
  rw [lg_entry_eq]
  generalize (lg_sl ([.ref (a 0), .int (nI sn), .int p1]) ++ List.replicate (10 - (lg_sl ([.ref (a 0), .int (nI sn), .int p1])).length) Slot.unset).toArray = ls at hl ⊢
  have hl : lv_has ls 10 [(0, .ref (a 0)), (1, .int (nI sn)), (2, .int p1)] := hl
  have hd_9 := hdn sn
  refine lv_aload_n hx hb dX8_leastAll_0 rfl (lv_at hl 0 rfl) ?_
  refine va_get (D := D) (ci := 8) (v := .ref (a 1)) (C := RX8) (T := TX8) (N := 44) hx hb hts inX8 hown hK hP 0 rfl rfl 0 (by decide) (hts _ tw_973) (fun _ h9 => h9) rfl dX8_leastAll_1 ?_
  refine lv_iload_n hx hb dX8_leastAll_4 rfl (lv_at hl 1 rfl) ?_
  refine va_iald hx hb hK hP 1 1 rfl rfl (vp_in_nI (by omega) (by decide)) dX8_leastAll_5 ?_
  refine lv_ti (y := (nI (dn sn))) (by rw [nI_clamp (by omega)]; rfl) ?_
  refine lv_istore_n (lv' := [(3, .int (nI (dn sn))), (0, .ref (a 0)), (1, .int (nI sn)), (2, .int p1)]) hx hb dX8_leastAll_6 rfl hl (by decide) rfl (fun ls hl => ?_)
  refine lv_iconst (v := (-1)) hx hb dX8_leastAll_7 (by decide) ?_
  refine lv_istore (lv' := [(4, .int (-1)), (3, .int (nI (dn sn))), (0, .ref (a 0)), (1, .int (nI sn)), (2, .int p1)]) hx hb dX8_leastAll_8 hl (by decide) rfl (fun ls hl => ?_)
  refine lv_iconst (v := (-1)) hx hb dX8_leastAll_10 (by decide) ?_
  refine lv_istore (lv' := [(5, .int (-1)), (4, .int (-1)), (3, .int (nI (dn sn))), (0, .ref (a 0)), (1, .int (nI sn)), (2, .int p1)]) hx hb dX8_leastAll_11 hl (by decide) rfl (fun ls hl => ?_)
  refine W_loop (σ := Nat × Int32) (fun (n_ : Nat) (x_ : Nat × Int32) (H : Heap) (locs : List Loc) (ls : Array Slot) => match x_ with | (q5_1, be_1) => n_ = 26 - q5_1 ∧ (q5_1 ≤ 25) ∧ va_P D classes [((a 0), .inr (8, (fX8 a (nI tx) fp (nI t0) wd (nI we) nu na (nI rd) ts (nI ru) (nI rw) (nI ca) df db sd))), (aI k (a 1) 3 (nF dn)), (aI k (a 4) 27 (sg se tm gs)), (aI k (a 3) 72 fprices), (aI k (a 36) 4 fwalks)] H ∧ va_S (fun q : Nat => s.heap.size ≤ q) s.heap H locs ∧ lv_has ls 10 [(5, .int (nI q5_1 - 1)), (4, .int be_1), (3, .int (nI (dn sn))), (0, .ref (a 0)), (1, .int (nI sn)), (2, .int p1)]) (fun n_1 x_1 H locs ls hI ih_1 => ?_) _ (0, (-1)) ⟨rfl, (by omega), hP, hS, (by rw [dn0]; exact lv_sub hl [0, 1, 2, 3, 4, 5] rfl)⟩
  obtain ⟨q5_1, be_1⟩ := x_1
  obtain ⟨hm_1, hv_1, hP, hS, hl⟩ := hI
  subst hm_1
  rcases q5_1 with _ | q5_1
  · rw [dn0] at hl
    refine lv_iload hx hb dX8_leastAll_13 (lv_at hl 0 rfl) ?_
    refine lv_aload_n hx hb dX8_leastAll_15 rfl (lv_at hl 3 rfl) ?_
    refine va_get (D := D) (ci := 8) (v := .int (nI ca)) (C := RX8) (T := TX8) (N := 44) hx hb hts inX8 hown hK hP 0 rfl rfl 34 (by decide) (hts _ tw_1007) (fun _ h9 => h9) rfl dX8_leastAll_16 ?_
    refine lv_if_le (tgt := 26) hx hb dX8_leastAll_19 (by decide) (fun c_2 => ?_) (fun c_2 => ?_)
    · have c_2 := (nI_leI (a := ca) (b := 0) (by omega) (by omega)).mp c_2
      refine lv_iconst (v := 0) hx hb dX8_leastAll_26 (by decide) ?_
      refine lv_icmp_ge (tgt := 177) hx hb dX8_leastAll_27 (by decide) (fun h => absurd h (by decide)) (fun _ => ?_)
      refine lv_iconst (v := (-1)) hx hb dX8_leastAll_30 (by decide) ?_
      refine lv_istore (lv' := [(6, .int (-1)), (5, .int (-1)), (4, .int be_1), (3, .int (nI (dn sn))), (0, .ref (a 0)), (1, .int (nI sn)), (2, .int p1)]) hx hb dX8_leastAll_31 hl (by decide) rfl (fun ls hl => ?_)
      refine W_loop (σ := Nat × Int32) (fun (n_ : Nat) (x_ : Nat × Int32) (H : Heap) (locs : List Loc) (ls : Array Slot) => match x_ with | (q6_3, be_3) => n_ = 26 - q6_3 ∧ (q6_3 ≤ 25) ∧ va_P D classes [((a 0), .inr (8, (fX8 a (nI tx) fp (nI t0) wd (nI we) nu na (nI rd) ts (nI ru) (nI rw) (nI ca) df db sd))), (aI k (a 1) 3 (nF dn)), (aI k (a 4) 27 (sg se tm gs)), (aI k (a 3) 72 fprices), (aI k (a 36) 4 fwalks)] H ∧ va_S (fun q : Nat => s.heap.size ≤ q) s.heap H locs ∧ lv_has ls 10 [(6, .int (nI q6_3 - 1)), (5, .int (-1)), (4, .int be_3), (3, .int (nI (dn sn))), (0, .ref (a 0)), (1, .int (nI sn)), (2, .int p1)]) (fun n_3 x_3 H locs ls hI ih_3 => ?_) _ (0, be_1) ⟨rfl, (by omega), hP, hS, (by rw [dn0]; exact lv_sub hl [0, 1, 2, 3, 4, 5, 6] rfl)⟩
      obtain ⟨q6_3, be_3⟩ := x_3
      obtain ⟨hm_3, hv_3, hP, hS, hl⟩ := hI
      subst hm_3
      rcases q6_3 with _ | q6_3
      · rw [dn0] at hl
        refine lv_iload hx hb dX8_leastAll_33 (lv_at hl 0 rfl) ?_
        refine lv_aload_n hx hb dX8_leastAll_35 rfl (lv_at hl 4 rfl) ?_
        refine va_get (D := D) (ci := 8) (v := .int (nI ca)) (C := RX8) (T := TX8) (N := 44) hx hb hts inX8 hown hK hP 0 rfl rfl 34 (by decide) (hts _ tw_1007) (fun _ h9 => h9) rfl dX8_leastAll_36 ?_
        refine lv_iconst (v := 1) hx hb dX8_leastAll_39 (by decide) ?_
        refine lv_icmp_le (tgt := 47) hx hb dX8_leastAll_40 (by decide) (fun _ => ?_) (fun h => absurd ((nI_leI (a := ca) (b := 1) (by omega) (by omega)).mpr (by omega)) h)
        refine lv_iconst (v := 0) hx hb dX8_leastAll_47 (by decide) ?_
        refine lv_icmp_ge (tgt := 171) hx hb dX8_leastAll_48 (by decide) (fun h => absurd h (by decide)) (fun _ => ?_)
        refine lv_iconst (v := (-1)) hx hb dX8_leastAll_51 (by decide) ?_
        refine lv_istore (lv' := [(7, .int (-1)), (6, .int (-1)), (5, .int (-1)), (4, .int be_3), (3, .int (nI (dn sn))), (0, .ref (a 0)), (1, .int (nI sn)), (2, .int p1)]) hx hb dX8_leastAll_52 hl (by decide) rfl (fun ls hl => ?_)
        refine W_loop (σ := Nat × Int32) (fun (n_ : Nat) (x_ : Nat × Int32) (H : Heap) (locs : List Loc) (ls : Array Slot) => match x_ with | (q7_5, be_5) => n_ = 26 - q7_5 ∧ (q7_5 ≤ 25) ∧ va_P D classes [((a 0), .inr (8, (fX8 a (nI tx) fp (nI t0) wd (nI we) nu na (nI rd) ts (nI ru) (nI rw) (nI ca) df db sd))), (aI k (a 1) 3 (nF dn)), (aI k (a 4) 27 (sg se tm gs)), (aI k (a 3) 72 fprices), (aI k (a 36) 4 fwalks)] H ∧ va_S (fun q : Nat => s.heap.size ≤ q) s.heap H locs ∧ lv_has ls 10 [(7, .int (nI q7_5 - 1)), (6, .int (-1)), (5, .int (-1)), (4, .int be_5), (3, .int (nI (dn sn))), (0, .ref (a 0)), (1, .int (nI sn)), (2, .int p1)]) (fun n_5 x_5 H locs ls hI ih_5 => ?_) _ (0, be_3) ⟨rfl, (by omega), hP, hS, (by rw [dn0]; exact lv_sub hl [0, 1, 2, 3, 4, 5, 6, 7] rfl)⟩
        obtain ⟨q7_5, be_5⟩ := x_5
        obtain ⟨hm_5, hv_5, hP, hS, hl⟩ := hI
        subst hm_5
        rcases q7_5 with _ | q7_5
        · rw [dn0] at hl
          refine lv_iload hx hb dX8_leastAll_54 (lv_at hl 0 rfl) ?_
          refine lv_aload_n hx hb dX8_leastAll_56 rfl (lv_at hl 5 rfl) ?_
          refine va_get (D := D) (ci := 8) (v := .int (nI ca)) (C := RX8) (T := TX8) (N := 44) hx hb hts inX8 hown hK hP 0 rfl rfl 34 (by decide) (hts _ tw_1007) (fun _ h9 => h9) rfl dX8_leastAll_57 ?_
          refine lv_iconst (v := 2) hx hb dX8_leastAll_60 (by decide) ?_
          refine lv_icmp_le (tgt := 68) hx hb dX8_leastAll_61 (by decide) (fun _ => ?_) (fun h => absurd ((nI_leI (a := ca) (b := 2) (by omega) (by omega)).mpr (by omega)) h)
          refine lv_iconst (v := 0) hx hb dX8_leastAll_68 (by decide) ?_
          refine lv_icmp_ge (tgt := 165) hx hb dX8_leastAll_69 (by decide) (fun h => absurd h (by decide)) (fun _ => ?_)
          refine lv_iconst (v := (-1)) hx hb dX8_leastAll_72 (by decide) ?_
          refine lv_istore (lv' := [(8, .int (-1)), (7, .int (-1)), (6, .int (-1)), (5, .int (-1)), (4, .int be_5), (3, .int (nI (dn sn))), (0, .ref (a 0)), (1, .int (nI sn)), (2, .int p1)]) hx hb dX8_leastAll_73 hl (by decide) rfl (fun ls hl => ?_)
          refine W_loop (σ := Nat × Int32) (fun (n_ : Nat) (x_ : Nat × Int32) (H : Heap) (locs : List Loc) (ls : Array Slot) => match x_ with | (q8_7, be_7) => n_ = 26 - q8_7 ∧ (q8_7 ≤ 25) ∧ va_P D classes [((a 0), .inr (8, (fX8 a (nI tx) fp (nI t0) wd (nI we) nu na (nI rd) ts (nI ru) (nI rw) (nI ca) df db sd))), (aI k (a 1) 3 (nF dn)), (aI k (a 4) 27 (sg se tm gs)), (aI k (a 3) 72 fprices), (aI k (a 36) 4 fwalks)] H ∧ va_S (fun q : Nat => s.heap.size ≤ q) s.heap H locs ∧ lv_has ls 10 [(8, .int (nI q8_7 - 1)), (7, .int (-1)), (6, .int (-1)), (5, .int (-1)), (4, .int be_7), (3, .int (nI (dn sn))), (0, .ref (a 0)), (1, .int (nI sn)), (2, .int p1)]) (fun n_7 x_7 H locs ls hI ih_7 => ?_) _ (0, be_5) ⟨rfl, (by omega), hP, hS, (by rw [dn0]; exact lv_sub hl [0, 1, 2, 3, 4, 5, 6, 7, 8] rfl)⟩
          obtain ⟨q8_7, be_7⟩ := x_7
          obtain ⟨hm_7, hv_7, hP, hS, hl⟩ := hI
          subst hm_7
          rcases q8_7 with _ | q8_7
          · rw [dn0] at hl
            refine lv_iload hx hb dX8_leastAll_75 (lv_at hl 0 rfl) ?_
            refine lv_aload_n hx hb dX8_leastAll_77 rfl (lv_at hl 6 rfl) ?_
            refine va_get (D := D) (ci := 8) (v := .int (nI ca)) (C := RX8) (T := TX8) (N := 44) hx hb hts inX8 hown hK hP 0 rfl rfl 34 (by decide) (hts _ tw_1007) (fun _ h9 => h9) rfl dX8_leastAll_78 ?_
            refine lv_iconst (v := 3) hx hb dX8_leastAll_81 (by decide) ?_
            refine lv_icmp_le (tgt := 89) hx hb dX8_leastAll_82 (by decide) (fun _ => ?_) (fun h => absurd ((nI_leI (a := ca) (b := 3) (by omega) (by omega)).mpr (by omega)) h)
            refine lv_iconst (v := 0) hx hb dX8_leastAll_89 (by decide) ?_
            refine lv_icmp_ge (tgt := 159) hx hb dX8_leastAll_90 (by decide) (fun h => absurd h (by decide)) (fun _ => ?_)
            refine lv_iload_n hx hb dX8_leastAll_93 rfl (lv_at hl 8 rfl) ?_
            refine lv_iload hx hb dX8_leastAll_94 (lv_at hl 3 rfl) ?_
            refine lv_iload hx hb dX8_leastAll_96 (lv_at hl 2 rfl) ?_
            refine lv_iload hx hb dX8_leastAll_98 (lv_at hl 1 rfl) ?_
            refine lv_iload hx hb dX8_leastAll_100 (lv_at hl 0 rfl) ?_
            refine ro_i (D := D) (va_runS (As := [.int p1, .int (-1), .int (-1), .int (-1), .int (-1)]) (rest := []) ⟨hx, hb, hml, hown, hts⟩ ((m_canAll l D k st lo p1 (-1) (-1) (-1) (-1)) H.size) (va_cwS 5 hts (gS tw_1450 tw_1451 tw_87 tw_1452) rfl rfl rfl (by decide +kernel) ⟨Nat.le_of_ble_eq_true rfl, Nat.le_of_ble_eq_true rfl⟩) (pS hS hAlo hlo hP hK hDL hZ [] (by decide) rfl) rfl rfl hl.1 rfl (lv_room (Nat.le_of_ble_eq_true rfl)) dX8_leastAll_102 ⟨Nat.le_of_ble_eq_true rfl, Nat.le_of_ble_eq_true rfl⟩) hS hA hP (fun r_9 H locs hw_9 hP hS => ?_)
            try dsimp only at hw_9
            refine lv_if_eq (tgt := 124) hx hb dX8_leastAll_105 (by decide) (fun c_10 => ?_) (fun c_10 => ?_)
            · refine lv_iconst (v := (-1)) hx hb dX8_leastAll_124 (by decide) ?_
              refine lv_istore (lv' := [(9, .int (-1)), (8, .int (-1)), (7, .int (-1)), (6, .int (-1)), (5, .int (-1)), (4, .int be_7), (3, .int (nI (dn sn))), (0, .ref (a 0)), (1, .int (nI sn)), (2, .int p1)]) hx hb dX8_leastAll_125 hl (by decide) rfl (fun ls hl => ?_)
              refine lv_iload hx hb dX8_leastAll_127 (lv_at hl 0 rfl) ?_
              refine lv_if_lt (tgt := 149) hx hb dX8_leastAll_129 (by decide) (fun _ => ?_) (fun h => absurd (by decide) h)
              refine lv_iload hx hb dX8_leastAll_149 (lv_at hl 5 rfl) ?_
              refine lv_istore (lv' := [(4, .int be_7), (9, .int (-1)), (8, .int (-1)), (7, .int (-1)), (6, .int (-1)), (5, .int (-1)), (3, .int (nI (dn sn))), (0, .ref (a 0)), (1, .int (nI sn)), (2, .int p1)]) hx hb dX8_leastAll_151 hl (by decide) rfl (fun ls hl => ?_)
              refine lv_iinc (v := 0) (lv' := [(8, .int 0), (4, .int be_7), (9, .int (-1)), (7, .int (-1)), (6, .int (-1)), (5, .int (-1)), (3, .int (nI (dn sn))), (0, .ref (a 0)), (1, .int (nI sn)), (2, .int p1)]) hx hb dX8_leastAll_153 hl (k := 2) rfl (by decide) (by decide) rfl (fun ls hl => ?_)
              refine lv_goto (tgt := 75) hx hb dX8_leastAll_156 (by decide) ?_
              exact ih_7 _ (1, be_7) _ _ _ (by omega) ⟨rfl, (by omega), hP, hS, (by rw [nI_pred]; exact lv_sub hl [0, 3, 4, 5, 1, 6, 7, 8, 9] rfl)⟩
            · refine lv_aload_n hx hb dX8_leastAll_108 rfl (lv_at hl 6 rfl) ?_
              refine lv_iload_n hx hb dX8_leastAll_109 rfl (lv_at hl 7 rfl) ?_
              refine lv_iload hx hb dX8_leastAll_110 (lv_at hl 3 rfl) ?_
              refine lv_iload hx hb dX8_leastAll_112 (lv_at hl 2 rfl) ?_
              refine lv_iload hx hb dX8_leastAll_114 (lv_at hl 1 rfl) ?_
              refine lv_iload hx hb dX8_leastAll_116 (lv_at hl 0 rfl) ?_
              refine ro_i (D := D) (va_runV (As := [.int (nI sn), .int (-1), .int (-1), .int (-1), .int (-1)]) (rest := []) ⟨hx, hb, hml, hown, hts⟩ ((m_sumAll l D k st lo a tx t0 we rd ru rw ca fp wd nu na ts df db sd dn se tm gs fprices fwalks sn (-1) (-1) (-1) (-1) (by omega) (by omega) (.inl (by decide)) (.inl (by decide)) (.inl (by decide)) (.inl (by decide))) H.size) (cwV 5 hts (gV tw_1459 tw_1461 tw_75 tw_87 tw_1462) rfl rfl rfl (by decide +kernel) ⟨Nat.le_of_ble_eq_true rfl, Nat.le_of_ble_eq_true rfl⟩) (pV hS hAlo hlo hP hK hDL hZ [0, 1, 2, 3, 4] (by decide) rfl (ci := 8) (q := (RX8, TX8, 44)) (q0 := 0) rfl rfl) rfl rfl hl.1 rfl (lv_room (Nat.le_of_ble_eq_true rfl)) dX8_leastAll_118 ⟨Nat.le_of_ble_eq_true rfl, Nat.le_of_ble_eq_true rfl⟩) hS hA hP (fun r_11 H locs hw_11 hP hS => ?_)
              try dsimp only at hw_11
              refine lv_goto (tgt := 125) hx hb dX8_leastAll_121 (by decide) ?_
              refine lv_istore (lv' := [(9, .int r_11), (8, .int (-1)), (7, .int (-1)), (6, .int (-1)), (5, .int (-1)), (4, .int be_7), (3, .int (nI (dn sn))), (0, .ref (a 0)), (1, .int (nI sn)), (2, .int p1)]) hx hb dX8_leastAll_125 hl (by decide) rfl (fun ls hl => ?_)
              refine lv_iload hx hb dX8_leastAll_127 (lv_at hl 0 rfl) ?_
              refine lv_if_lt (tgt := 149) hx hb dX8_leastAll_129 (by decide) (fun c_12 => ?_) (fun c_12 => ?_)
              · refine lv_iload hx hb dX8_leastAll_149 (lv_at hl 5 rfl) ?_
                refine lv_istore (lv' := [(4, .int be_7), (9, .int r_11), (8, .int (-1)), (7, .int (-1)), (6, .int (-1)), (5, .int (-1)), (3, .int (nI (dn sn))), (0, .ref (a 0)), (1, .int (nI sn)), (2, .int p1)]) hx hb dX8_leastAll_151 hl (by decide) rfl (fun ls hl => ?_)
                refine lv_iinc (v := 0) (lv' := [(8, .int 0), (4, .int be_7), (9, .int r_11), (7, .int (-1)), (6, .int (-1)), (5, .int (-1)), (3, .int (nI (dn sn))), (0, .ref (a 0)), (1, .int (nI sn)), (2, .int p1)]) hx hb dX8_leastAll_153 hl (k := 2) rfl (by decide) (by decide) rfl (fun ls hl => ?_)
                refine lv_goto (tgt := 75) hx hb dX8_leastAll_156 (by decide) ?_
                exact ih_7 _ (1, be_7) _ _ _ (by omega) ⟨rfl, (by omega), hP, hS, (by rw [nI_pred]; exact lv_sub hl [0, 3, 4, 5, 1, 6, 7, 8, 9] rfl)⟩
              · refine lv_iload hx hb dX8_leastAll_132 (lv_at hl 5 rfl) ?_
                refine lv_if_lt (tgt := 144) hx hb dX8_leastAll_134 (by decide) (fun c_13 => ?_) (fun c_13 => ?_)
                · refine lv_iload hx hb dX8_leastAll_144 (lv_at hl 0 rfl) ?_
                  refine lv_goto (tgt := 151) hx hb dX8_leastAll_146 (by decide) ?_
                  refine lv_istore (lv' := [(4, .int r_11), (9, .int r_11), (8, .int (-1)), (7, .int (-1)), (6, .int (-1)), (5, .int (-1)), (3, .int (nI (dn sn))), (0, .ref (a 0)), (1, .int (nI sn)), (2, .int p1)]) hx hb dX8_leastAll_151 hl (by decide) rfl (fun ls hl => ?_)
                  refine lv_iinc (v := 0) (lv' := [(8, .int 0), (4, .int r_11), (9, .int r_11), (7, .int (-1)), (6, .int (-1)), (5, .int (-1)), (3, .int (nI (dn sn))), (0, .ref (a 0)), (1, .int (nI sn)), (2, .int p1)]) hx hb dX8_leastAll_153 hl (k := 2) rfl (by decide) (by decide) rfl (fun ls hl => ?_)
                  refine lv_goto (tgt := 75) hx hb dX8_leastAll_156 (by decide) ?_
                  exact ih_7 _ (1, r_11) _ _ _ (by omega) ⟨rfl, (by omega), hP, hS, (by rw [nI_pred]; exact lv_sub hl [0, 3, 4, 5, 1, 6, 7, 8, 9] rfl)⟩
                · refine lv_iload hx hb dX8_leastAll_137 (lv_at hl 0 rfl) ?_
                  refine lv_iload hx hb dX8_leastAll_139 (lv_at hl 5 rfl) ?_
                  refine lv_icmp_ge (tgt := 149) hx hb dX8_leastAll_141 (by decide) (fun c_14 => ?_) (fun c_14 => ?_)
                  · refine lv_iload hx hb dX8_leastAll_149 (lv_at hl 5 rfl) ?_
                    refine lv_istore (lv' := [(4, .int be_7), (9, .int r_11), (8, .int (-1)), (7, .int (-1)), (6, .int (-1)), (5, .int (-1)), (3, .int (nI (dn sn))), (0, .ref (a 0)), (1, .int (nI sn)), (2, .int p1)]) hx hb dX8_leastAll_151 hl (by decide) rfl (fun ls hl => ?_)
                    refine lv_iinc (v := 0) (lv' := [(8, .int 0), (4, .int be_7), (9, .int r_11), (7, .int (-1)), (6, .int (-1)), (5, .int (-1)), (3, .int (nI (dn sn))), (0, .ref (a 0)), (1, .int (nI sn)), (2, .int p1)]) hx hb dX8_leastAll_153 hl (k := 2) rfl (by decide) (by decide) rfl (fun ls hl => ?_)
                    refine lv_goto (tgt := 75) hx hb dX8_leastAll_156 (by decide) ?_
                    exact ih_7 _ (1, be_7) _ _ _ (by omega) ⟨rfl, (by omega), hP, hS, (by rw [nI_pred]; exact lv_sub hl [0, 3, 4, 5, 1, 6, 7, 8, 9] rfl)⟩
                  · refine lv_iload hx hb dX8_leastAll_144 (lv_at hl 0 rfl) ?_
                    refine lv_goto (tgt := 151) hx hb dX8_leastAll_146 (by decide) ?_
                    refine lv_istore (lv' := [(4, .int r_11), (9, .int r_11), (8, .int (-1)), (7, .int (-1)), (6, .int (-1)), (5, .int (-1)), (3, .int (nI (dn sn))), (0, .ref (a 0)), (1, .int (nI sn)), (2, .int p1)]) hx hb dX8_leastAll_151 hl (by decide) rfl (fun ls hl => ?_)
                    refine lv_iinc (v := 0) (lv' := [(8, .int 0), (4, .int r_11), (9, .int r_11), (7, .int (-1)), (6, .int (-1)), (5, .int (-1)), (3, .int (nI (dn sn))), (0, .ref (a 0)), (1, .int (nI sn)), (2, .int p1)]) hx hb dX8_leastAll_153 hl (k := 2) rfl (by decide) (by decide) rfl (fun ls hl => ?_)
                    refine lv_goto (tgt := 75) hx hb dX8_leastAll_156 (by decide) ?_
                    exact ih_7 _ (1, r_11) _ _ _ (by omega) ⟨rfl, (by omega), hP, hS, (by rw [nI_pred]; exact lv_sub hl [0, 3, 4, 5, 1, 6, 7, 8, 9] rfl)⟩
          · rw [nI_pred] at hl
            refine lv_iload hx hb dX8_leastAll_75 (lv_at hl 0 rfl) ?_
            refine lv_aload_n hx hb dX8_leastAll_77 rfl (lv_at hl 6 rfl) ?_
            refine va_get (D := D) (ci := 8) (v := .int (nI ca)) (C := RX8) (T := TX8) (N := 44) hx hb hts inX8 hown hK hP 0 rfl rfl 34 (by decide) (hts _ tw_1007) (fun _ h9 => h9) rfl dX8_leastAll_78 ?_
            refine lv_iconst (v := 3) hx hb dX8_leastAll_81 (by decide) ?_
            refine lv_icmp_le (tgt := 89) hx hb dX8_leastAll_82 (by decide) (fun _ => ?_) (fun h => absurd ((nI_leI (a := ca) (b := 3) (by omega) (by omega)).mpr (by omega)) h)
            refine lv_iconst (v := 0) hx hb dX8_leastAll_89 (by decide) ?_
            refine lv_icmp_ge (tgt := 159) hx hb dX8_leastAll_90 (by decide) (fun _ => ?_) (fun h => absurd (nI_ge0 (by omega)) h)
            refine lv_iinc (v := 0) (lv' := [(7, .int 0), (8, .int (nI q8_7)), (6, .int (-1)), (5, .int (-1)), (4, .int be_7), (3, .int (nI (dn sn))), (0, .ref (a 0)), (1, .int (nI sn)), (2, .int p1)]) hx hb dX8_leastAll_159 hl (k := 1) rfl (by decide) (by decide) rfl (fun ls hl => ?_)
            refine lv_goto (tgt := 54) hx hb dX8_leastAll_162 (by decide) ?_
            exact ih_5 _ (1, be_7) _ _ _ (by omega) ⟨rfl, (by omega), hP, hS, (by rw [nI_pred]; exact lv_sub hl [0, 2, 3, 4, 5, 6, 7, 8] rfl)⟩
        · rw [nI_pred] at hl
          refine lv_iload hx hb dX8_leastAll_54 (lv_at hl 0 rfl) ?_
          refine lv_aload_n hx hb dX8_leastAll_56 rfl (lv_at hl 5 rfl) ?_
          refine va_get (D := D) (ci := 8) (v := .int (nI ca)) (C := RX8) (T := TX8) (N := 44) hx hb hts inX8 hown hK hP 0 rfl rfl 34 (by decide) (hts _ tw_1007) (fun _ h9 => h9) rfl dX8_leastAll_57 ?_
          refine lv_iconst (v := 2) hx hb dX8_leastAll_60 (by decide) ?_
          refine lv_icmp_le (tgt := 68) hx hb dX8_leastAll_61 (by decide) (fun _ => ?_) (fun h => absurd ((nI_leI (a := ca) (b := 2) (by omega) (by omega)).mpr (by omega)) h)
          refine lv_iconst (v := 0) hx hb dX8_leastAll_68 (by decide) ?_
          refine lv_icmp_ge (tgt := 165) hx hb dX8_leastAll_69 (by decide) (fun _ => ?_) (fun h => absurd (nI_ge0 (by omega)) h)
          refine lv_iinc (v := 0) (lv' := [(6, .int 0), (7, .int (nI q7_5)), (5, .int (-1)), (4, .int be_5), (3, .int (nI (dn sn))), (0, .ref (a 0)), (1, .int (nI sn)), (2, .int p1)]) hx hb dX8_leastAll_165 hl (k := 1) rfl (by decide) (by decide) rfl (fun ls hl => ?_)
          refine lv_goto (tgt := 33) hx hb dX8_leastAll_168 (by decide) ?_
          exact ih_3 _ (1, be_5) _ _ _ (by omega) ⟨rfl, (by omega), hP, hS, (by rw [nI_pred]; exact lv_sub hl [0, 2, 3, 4, 5, 6, 7] rfl)⟩
      · rw [nI_pred] at hl
        refine lv_iload hx hb dX8_leastAll_33 (lv_at hl 0 rfl) ?_
        refine lv_aload_n hx hb dX8_leastAll_35 rfl (lv_at hl 4 rfl) ?_
        refine va_get (D := D) (ci := 8) (v := .int (nI ca)) (C := RX8) (T := TX8) (N := 44) hx hb hts inX8 hown hK hP 0 rfl rfl 34 (by decide) (hts _ tw_1007) (fun _ h9 => h9) rfl dX8_leastAll_36 ?_
        refine lv_iconst (v := 1) hx hb dX8_leastAll_39 (by decide) ?_
        refine lv_icmp_le (tgt := 47) hx hb dX8_leastAll_40 (by decide) (fun _ => ?_) (fun h => absurd ((nI_leI (a := ca) (b := 1) (by omega) (by omega)).mpr (by omega)) h)
        refine lv_iconst (v := 0) hx hb dX8_leastAll_47 (by decide) ?_
        refine lv_icmp_ge (tgt := 171) hx hb dX8_leastAll_48 (by decide) (fun _ => ?_) (fun h => absurd (nI_ge0 (by omega)) h)
        refine lv_iinc (v := 0) (lv' := [(5, .int 0), (6, .int (nI q6_3)), (4, .int be_3), (3, .int (nI (dn sn))), (0, .ref (a 0)), (1, .int (nI sn)), (2, .int p1)]) hx hb dX8_leastAll_171 hl (k := 1) rfl (by decide) (by decide) rfl (fun ls hl => ?_)
        refine lv_goto (tgt := 13) hx hb dX8_leastAll_174 (by decide) ?_
        exact ih_1 _ (1, be_3) _ _ _ (by omega) ⟨rfl, (by omega), hP, hS, (by rw [nI_pred]; exact lv_sub hl [0, 2, 3, 4, 5, 6] rfl)⟩
    · have c_2 : ¬ (ca ≤ 0) := fun h => c_2 ((nI_leI (a := ca) (b := 0) (by omega) (by omega)).mpr h)
      refine lv_iload_n hx hb dX8_leastAll_22 rfl (lv_at hl 2 rfl) ?_
      refine lv_goto (tgt := 27) hx hb dX8_leastAll_23 (by decide) ?_
      refine lv_icmp_ge (tgt := 177) hx hb dX8_leastAll_27 (by decide) (fun c_18 => ?_) (fun c_18 => ?_)
      · refine lv_iload hx hb dX8_leastAll_177 (lv_at hl 1 rfl) ?_
        exact W.iret (v := be_1) hx hb hr (fun t ht hW => ⟨⟨be_1, (), rfl, trivial, trivial⟩, hS.F ht⟩) hS.2.2 dX8_leastAll_179
      · refine lv_iconst (v := (-1)) hx hb dX8_leastAll_30 (by decide) ?_
        refine lv_istore (lv' := [(6, .int (-1)), (5, .int (-1)), (4, .int be_1), (3, .int (nI (dn sn))), (0, .ref (a 0)), (1, .int (nI sn)), (2, .int p1)]) hx hb dX8_leastAll_31 hl (by decide) rfl (fun ls hl => ?_)
        refine W_loop (σ := Nat × Int32) (fun (n_ : Nat) (x_ : Nat × Int32) (H : Heap) (locs : List Loc) (ls : Array Slot) => match x_ with | (q6_19, be_19) => n_ = 26 - q6_19 ∧ (q6_19 ≤ 25) ∧ va_P D classes [((a 0), .inr (8, (fX8 a (nI tx) fp (nI t0) wd (nI we) nu na (nI rd) ts (nI ru) (nI rw) (nI ca) df db sd))), (aI k (a 1) 3 (nF dn)), (aI k (a 4) 27 (sg se tm gs)), (aI k (a 3) 72 fprices), (aI k (a 36) 4 fwalks)] H ∧ va_S (fun q : Nat => s.heap.size ≤ q) s.heap H locs ∧ lv_has ls 10 [(6, .int (nI q6_19 - 1)), (5, .int (-1)), (4, .int be_19), (3, .int (nI (dn sn))), (0, .ref (a 0)), (1, .int (nI sn)), (2, .int p1)]) (fun n_19 x_19 H locs ls hI ih_19 => ?_) _ (0, be_1) ⟨rfl, (by omega), hP, hS, (by rw [dn0]; exact lv_sub hl [0, 1, 2, 3, 4, 5, 6] rfl)⟩
        obtain ⟨q6_19, be_19⟩ := x_19
        obtain ⟨hm_19, hv_19, hP, hS, hl⟩ := hI
        subst hm_19
        rcases q6_19 with _ | q6_19
        · rw [dn0] at hl
          refine lv_iload hx hb dX8_leastAll_33 (lv_at hl 0 rfl) ?_
          refine lv_aload_n hx hb dX8_leastAll_35 rfl (lv_at hl 4 rfl) ?_
          refine va_get (D := D) (ci := 8) (v := .int (nI ca)) (C := RX8) (T := TX8) (N := 44) hx hb hts inX8 hown hK hP 0 rfl rfl 34 (by decide) (hts _ tw_1007) (fun _ h9 => h9) rfl dX8_leastAll_36 ?_
          refine lv_iconst (v := 1) hx hb dX8_leastAll_39 (by decide) ?_
          refine lv_icmp_le (tgt := 47) hx hb dX8_leastAll_40 (by decide) (fun c_20 => ?_) (fun c_20 => ?_)
          · have c_20 := (nI_leI (a := ca) (b := 1) (by omega) (by omega)).mp c_20
            refine lv_iconst (v := 0) hx hb dX8_leastAll_47 (by decide) ?_
            refine lv_icmp_ge (tgt := 171) hx hb dX8_leastAll_48 (by decide) (fun h => absurd h (by decide)) (fun _ => ?_)
            refine lv_iconst (v := (-1)) hx hb dX8_leastAll_51 (by decide) ?_
            refine lv_istore (lv' := [(7, .int (-1)), (6, .int (-1)), (5, .int (-1)), (4, .int be_19), (3, .int (nI (dn sn))), (0, .ref (a 0)), (1, .int (nI sn)), (2, .int p1)]) hx hb dX8_leastAll_52 hl (by decide) rfl (fun ls hl => ?_)
            refine W_loop (σ := Nat × Int32) (fun (n_ : Nat) (x_ : Nat × Int32) (H : Heap) (locs : List Loc) (ls : Array Slot) => match x_ with | (q7_21, be_21) => n_ = 26 - q7_21 ∧ (q7_21 ≤ 25) ∧ va_P D classes [((a 0), .inr (8, (fX8 a (nI tx) fp (nI t0) wd (nI we) nu na (nI rd) ts (nI ru) (nI rw) (nI ca) df db sd))), (aI k (a 1) 3 (nF dn)), (aI k (a 4) 27 (sg se tm gs)), (aI k (a 3) 72 fprices), (aI k (a 36) 4 fwalks)] H ∧ va_S (fun q : Nat => s.heap.size ≤ q) s.heap H locs ∧ lv_has ls 10 [(7, .int (nI q7_21 - 1)), (6, .int (-1)), (5, .int (-1)), (4, .int be_21), (3, .int (nI (dn sn))), (0, .ref (a 0)), (1, .int (nI sn)), (2, .int p1)]) (fun n_21 x_21 H locs ls hI ih_21 => ?_) _ (0, be_19) ⟨rfl, (by omega), hP, hS, (by rw [dn0]; exact lv_sub hl [0, 1, 2, 3, 4, 5, 6, 7] rfl)⟩
            obtain ⟨q7_21, be_21⟩ := x_21
            obtain ⟨hm_21, hv_21, hP, hS, hl⟩ := hI
            subst hm_21
            rcases q7_21 with _ | q7_21
            · rw [dn0] at hl
              refine lv_iload hx hb dX8_leastAll_54 (lv_at hl 0 rfl) ?_
              refine lv_aload_n hx hb dX8_leastAll_56 rfl (lv_at hl 5 rfl) ?_
              refine va_get (D := D) (ci := 8) (v := .int (nI ca)) (C := RX8) (T := TX8) (N := 44) hx hb hts inX8 hown hK hP 0 rfl rfl 34 (by decide) (hts _ tw_1007) (fun _ h9 => h9) rfl dX8_leastAll_57 ?_
              refine lv_iconst (v := 2) hx hb dX8_leastAll_60 (by decide) ?_
              refine lv_icmp_le (tgt := 68) hx hb dX8_leastAll_61 (by decide) (fun c_22 => ?_) (fun c_22 => ?_)
              · have c_22 := (nI_leI (a := ca) (b := 2) (by omega) (by omega)).mp c_22
                refine lv_iconst (v := 0) hx hb dX8_leastAll_68 (by decide) ?_
                refine lv_icmp_ge (tgt := 165) hx hb dX8_leastAll_69 (by decide) (fun h => absurd h (by decide)) (fun _ => ?_)
                refine lv_iconst (v := (-1)) hx hb dX8_leastAll_72 (by decide) ?_
                refine lv_istore (lv' := [(8, .int (-1)), (7, .int (-1)), (6, .int (-1)), (5, .int (-1)), (4, .int be_21), (3, .int (nI (dn sn))), (0, .ref (a 0)), (1, .int (nI sn)), (2, .int p1)]) hx hb dX8_leastAll_73 hl (by decide) rfl (fun ls hl => ?_)
                refine W_loop (σ := Nat × Int32) (fun (n_ : Nat) (x_ : Nat × Int32) (H : Heap) (locs : List Loc) (ls : Array Slot) => match x_ with | (q8_23, be_23) => n_ = 26 - q8_23 ∧ (q8_23 ≤ 25) ∧ va_P D classes [((a 0), .inr (8, (fX8 a (nI tx) fp (nI t0) wd (nI we) nu na (nI rd) ts (nI ru) (nI rw) (nI ca) df db sd))), (aI k (a 1) 3 (nF dn)), (aI k (a 4) 27 (sg se tm gs)), (aI k (a 3) 72 fprices), (aI k (a 36) 4 fwalks)] H ∧ va_S (fun q : Nat => s.heap.size ≤ q) s.heap H locs ∧ lv_has ls 10 [(8, .int (nI q8_23 - 1)), (7, .int (-1)), (6, .int (-1)), (5, .int (-1)), (4, .int be_23), (3, .int (nI (dn sn))), (0, .ref (a 0)), (1, .int (nI sn)), (2, .int p1)]) (fun n_23 x_23 H locs ls hI ih_23 => ?_) _ (0, be_21) ⟨rfl, (by omega), hP, hS, (by rw [dn0]; exact lv_sub hl [0, 1, 2, 3, 4, 5, 6, 7, 8] rfl)⟩
                obtain ⟨q8_23, be_23⟩ := x_23
                obtain ⟨hm_23, hv_23, hP, hS, hl⟩ := hI
                subst hm_23
                rcases q8_23 with _ | q8_23
                · rw [dn0] at hl
                  refine lv_iload hx hb dX8_leastAll_75 (lv_at hl 0 rfl) ?_
                  refine lv_aload_n hx hb dX8_leastAll_77 rfl (lv_at hl 6 rfl) ?_
                  refine va_get (D := D) (ci := 8) (v := .int (nI ca)) (C := RX8) (T := TX8) (N := 44) hx hb hts inX8 hown hK hP 0 rfl rfl 34 (by decide) (hts _ tw_1007) (fun _ h9 => h9) rfl dX8_leastAll_78 ?_
                  refine lv_iconst (v := 3) hx hb dX8_leastAll_81 (by decide) ?_
                  refine lv_icmp_le (tgt := 89) hx hb dX8_leastAll_82 (by decide) (fun c_24 => ?_) (fun c_24 => ?_)
                  · have c_24 := (nI_leI (a := ca) (b := 3) (by omega) (by omega)).mp c_24
                    refine lv_iconst (v := 0) hx hb dX8_leastAll_89 (by decide) ?_
                    refine lv_icmp_ge (tgt := 159) hx hb dX8_leastAll_90 (by decide) (fun h => absurd h (by decide)) (fun _ => ?_)
                    refine lv_iload_n hx hb dX8_leastAll_93 rfl (lv_at hl 8 rfl) ?_
                    refine lv_iload hx hb dX8_leastAll_94 (lv_at hl 3 rfl) ?_
                    refine lv_iload hx hb dX8_leastAll_96 (lv_at hl 2 rfl) ?_
                    refine lv_iload hx hb dX8_leastAll_98 (lv_at hl 1 rfl) ?_
                    refine lv_iload hx hb dX8_leastAll_100 (lv_at hl 0 rfl) ?_
                    refine ro_i (D := D) (va_runS (As := [.int p1, .int (-1), .int (-1), .int (-1), .int (-1)]) (rest := []) ⟨hx, hb, hml, hown, hts⟩ ((m_canAll l D k st lo p1 (-1) (-1) (-1) (-1)) H.size) (va_cwS 5 hts (gS tw_1450 tw_1451 tw_87 tw_1452) rfl rfl rfl (by decide +kernel) ⟨Nat.le_of_ble_eq_true rfl, Nat.le_of_ble_eq_true rfl⟩) (pS hS hAlo hlo hP hK hDL hZ [] (by decide) rfl) rfl rfl hl.1 rfl (lv_room (Nat.le_of_ble_eq_true rfl)) dX8_leastAll_102 ⟨Nat.le_of_ble_eq_true rfl, Nat.le_of_ble_eq_true rfl⟩) hS hA hP (fun r_25 H locs hw_25 hP hS => ?_)
                    try dsimp only at hw_25
                    refine lv_if_eq (tgt := 124) hx hb dX8_leastAll_105 (by decide) (fun c_26 => ?_) (fun c_26 => ?_)
                    · refine lv_iconst (v := (-1)) hx hb dX8_leastAll_124 (by decide) ?_
                      refine lv_istore (lv' := [(9, .int (-1)), (8, .int (-1)), (7, .int (-1)), (6, .int (-1)), (5, .int (-1)), (4, .int be_23), (3, .int (nI (dn sn))), (0, .ref (a 0)), (1, .int (nI sn)), (2, .int p1)]) hx hb dX8_leastAll_125 hl (by decide) rfl (fun ls hl => ?_)
                      refine lv_iload hx hb dX8_leastAll_127 (lv_at hl 0 rfl) ?_
                      refine lv_if_lt (tgt := 149) hx hb dX8_leastAll_129 (by decide) (fun _ => ?_) (fun h => absurd (by decide) h)
                      refine lv_iload hx hb dX8_leastAll_149 (lv_at hl 5 rfl) ?_
                      refine lv_istore (lv' := [(4, .int be_23), (9, .int (-1)), (8, .int (-1)), (7, .int (-1)), (6, .int (-1)), (5, .int (-1)), (3, .int (nI (dn sn))), (0, .ref (a 0)), (1, .int (nI sn)), (2, .int p1)]) hx hb dX8_leastAll_151 hl (by decide) rfl (fun ls hl => ?_)
                      refine lv_iinc (v := 0) (lv' := [(8, .int 0), (4, .int be_23), (9, .int (-1)), (7, .int (-1)), (6, .int (-1)), (5, .int (-1)), (3, .int (nI (dn sn))), (0, .ref (a 0)), (1, .int (nI sn)), (2, .int p1)]) hx hb dX8_leastAll_153 hl (k := 2) rfl (by decide) (by decide) rfl (fun ls hl => ?_)
                      refine lv_goto (tgt := 75) hx hb dX8_leastAll_156 (by decide) ?_
                      exact ih_23 _ (1, be_23) _ _ _ (by omega) ⟨rfl, (by omega), hP, hS, (by rw [nI_pred]; exact lv_sub hl [0, 3, 4, 5, 1, 6, 7, 8, 9] rfl)⟩
                    · refine lv_aload_n hx hb dX8_leastAll_108 rfl (lv_at hl 6 rfl) ?_
                      refine lv_iload_n hx hb dX8_leastAll_109 rfl (lv_at hl 7 rfl) ?_
                      refine lv_iload hx hb dX8_leastAll_110 (lv_at hl 3 rfl) ?_
                      refine lv_iload hx hb dX8_leastAll_112 (lv_at hl 2 rfl) ?_
                      refine lv_iload hx hb dX8_leastAll_114 (lv_at hl 1 rfl) ?_
                      refine lv_iload hx hb dX8_leastAll_116 (lv_at hl 0 rfl) ?_
                      refine ro_i (D := D) (va_runV (As := [.int (nI sn), .int (-1), .int (-1), .int (-1), .int (-1)]) (rest := []) ⟨hx, hb, hml, hown, hts⟩ ((m_sumAll l D k st lo a tx t0 we rd ru rw ca fp wd nu na ts df db sd dn se tm gs fprices fwalks sn (-1) (-1) (-1) (-1) (by omega) (by omega) (.inl (by decide)) (.inl (by decide)) (.inl (by decide)) (.inl (by decide))) H.size) (cwV 5 hts (gV tw_1459 tw_1461 tw_75 tw_87 tw_1462) rfl rfl rfl (by decide +kernel) ⟨Nat.le_of_ble_eq_true rfl, Nat.le_of_ble_eq_true rfl⟩) (pV hS hAlo hlo hP hK hDL hZ [0, 1, 2, 3, 4] (by decide) rfl (ci := 8) (q := (RX8, TX8, 44)) (q0 := 0) rfl rfl) rfl rfl hl.1 rfl (lv_room (Nat.le_of_ble_eq_true rfl)) dX8_leastAll_118 ⟨Nat.le_of_ble_eq_true rfl, Nat.le_of_ble_eq_true rfl⟩) hS hA hP (fun r_27 H locs hw_27 hP hS => ?_)
                      try dsimp only at hw_27
                      refine lv_goto (tgt := 125) hx hb dX8_leastAll_121 (by decide) ?_
                      refine lv_istore (lv' := [(9, .int r_27), (8, .int (-1)), (7, .int (-1)), (6, .int (-1)), (5, .int (-1)), (4, .int be_23), (3, .int (nI (dn sn))), (0, .ref (a 0)), (1, .int (nI sn)), (2, .int p1)]) hx hb dX8_leastAll_125 hl (by decide) rfl (fun ls hl => ?_)
                      refine lv_iload hx hb dX8_leastAll_127 (lv_at hl 0 rfl) ?_
                      refine lv_if_lt (tgt := 149) hx hb dX8_leastAll_129 (by decide) (fun c_28 => ?_) (fun c_28 => ?_)
                      · refine lv_iload hx hb dX8_leastAll_149 (lv_at hl 5 rfl) ?_
                        refine lv_istore (lv' := [(4, .int be_23), (9, .int r_27), (8, .int (-1)), (7, .int (-1)), (6, .int (-1)), (5, .int (-1)), (3, .int (nI (dn sn))), (0, .ref (a 0)), (1, .int (nI sn)), (2, .int p1)]) hx hb dX8_leastAll_151 hl (by decide) rfl (fun ls hl => ?_)
                        refine lv_iinc (v := 0) (lv' := [(8, .int 0), (4, .int be_23), (9, .int r_27), (7, .int (-1)), (6, .int (-1)), (5, .int (-1)), (3, .int (nI (dn sn))), (0, .ref (a 0)), (1, .int (nI sn)), (2, .int p1)]) hx hb dX8_leastAll_153 hl (k := 2) rfl (by decide) (by decide) rfl (fun ls hl => ?_)
                        refine lv_goto (tgt := 75) hx hb dX8_leastAll_156 (by decide) ?_
                        exact ih_23 _ (1, be_23) _ _ _ (by omega) ⟨rfl, (by omega), hP, hS, (by rw [nI_pred]; exact lv_sub hl [0, 3, 4, 5, 1, 6, 7, 8, 9] rfl)⟩
                      · refine lv_iload hx hb dX8_leastAll_132 (lv_at hl 5 rfl) ?_
                        refine lv_if_lt (tgt := 144) hx hb dX8_leastAll_134 (by decide) (fun c_29 => ?_) (fun c_29 => ?_)
                        · refine lv_iload hx hb dX8_leastAll_144 (lv_at hl 0 rfl) ?_
                          refine lv_goto (tgt := 151) hx hb dX8_leastAll_146 (by decide) ?_
                          refine lv_istore (lv' := [(4, .int r_27), (9, .int r_27), (8, .int (-1)), (7, .int (-1)), (6, .int (-1)), (5, .int (-1)), (3, .int (nI (dn sn))), (0, .ref (a 0)), (1, .int (nI sn)), (2, .int p1)]) hx hb dX8_leastAll_151 hl (by decide) rfl (fun ls hl => ?_)
                          refine lv_iinc (v := 0) (lv' := [(8, .int 0), (4, .int r_27), (9, .int r_27), (7, .int (-1)), (6, .int (-1)), (5, .int (-1)), (3, .int (nI (dn sn))), (0, .ref (a 0)), (1, .int (nI sn)), (2, .int p1)]) hx hb dX8_leastAll_153 hl (k := 2) rfl (by decide) (by decide) rfl (fun ls hl => ?_)
                          refine lv_goto (tgt := 75) hx hb dX8_leastAll_156 (by decide) ?_
                          exact ih_23 _ (1, r_27) _ _ _ (by omega) ⟨rfl, (by omega), hP, hS, (by rw [nI_pred]; exact lv_sub hl [0, 3, 4, 5, 1, 6, 7, 8, 9] rfl)⟩
                        · refine lv_iload hx hb dX8_leastAll_137 (lv_at hl 0 rfl) ?_
                          refine lv_iload hx hb dX8_leastAll_139 (lv_at hl 5 rfl) ?_
                          refine lv_icmp_ge (tgt := 149) hx hb dX8_leastAll_141 (by decide) (fun c_30 => ?_) (fun c_30 => ?_)
                          · refine lv_iload hx hb dX8_leastAll_149 (lv_at hl 5 rfl) ?_
                            refine lv_istore (lv' := [(4, .int be_23), (9, .int r_27), (8, .int (-1)), (7, .int (-1)), (6, .int (-1)), (5, .int (-1)), (3, .int (nI (dn sn))), (0, .ref (a 0)), (1, .int (nI sn)), (2, .int p1)]) hx hb dX8_leastAll_151 hl (by decide) rfl (fun ls hl => ?_)
                            refine lv_iinc (v := 0) (lv' := [(8, .int 0), (4, .int be_23), (9, .int r_27), (7, .int (-1)), (6, .int (-1)), (5, .int (-1)), (3, .int (nI (dn sn))), (0, .ref (a 0)), (1, .int (nI sn)), (2, .int p1)]) hx hb dX8_leastAll_153 hl (k := 2) rfl (by decide) (by decide) rfl (fun ls hl => ?_)
                            refine lv_goto (tgt := 75) hx hb dX8_leastAll_156 (by decide) ?_
                            exact ih_23 _ (1, be_23) _ _ _ (by omega) ⟨rfl, (by omega), hP, hS, (by rw [nI_pred]; exact lv_sub hl [0, 3, 4, 5, 1, 6, 7, 8, 9] rfl)⟩
                          · refine lv_iload hx hb dX8_leastAll_144 (lv_at hl 0 rfl) ?_
                            refine lv_goto (tgt := 151) hx hb dX8_leastAll_146 (by decide) ?_
                            refine lv_istore (lv' := [(4, .int r_27), (9, .int r_27), (8, .int (-1)), (7, .int (-1)), (6, .int (-1)), (5, .int (-1)), (3, .int (nI (dn sn))), (0, .ref (a 0)), (1, .int (nI sn)), (2, .int p1)]) hx hb dX8_leastAll_151 hl (by decide) rfl (fun ls hl => ?_)
                            refine lv_iinc (v := 0) (lv' := [(8, .int 0), (4, .int r_27), (9, .int r_27), (7, .int (-1)), (6, .int (-1)), (5, .int (-1)), (3, .int (nI (dn sn))), (0, .ref (a 0)), (1, .int (nI sn)), (2, .int p1)]) hx hb dX8_leastAll_153 hl (k := 2) rfl (by decide) (by decide) rfl (fun ls hl => ?_)
                            refine lv_goto (tgt := 75) hx hb dX8_leastAll_156 (by decide) ?_
                            exact ih_23 _ (1, r_27) _ _ _ (by omega) ⟨rfl, (by omega), hP, hS, (by rw [nI_pred]; exact lv_sub hl [0, 3, 4, 5, 1, 6, 7, 8, 9] rfl)⟩
                  · have c_24 : ¬ (ca ≤ 3) := fun h => c_24 ((nI_leI (a := ca) (b := 3) (by omega) (by omega)).mpr h)
                    refine lv_iload_n hx hb dX8_leastAll_85 rfl (lv_at hl 5 rfl) ?_
                    refine lv_goto (tgt := 90) hx hb dX8_leastAll_86 (by decide) ?_
                    refine lv_icmp_ge (tgt := 159) hx hb dX8_leastAll_90 (by decide) (fun c_31 => ?_) (fun c_31 => ?_)
                    · refine lv_iinc (v := 0) (lv' := [(7, .int 0), (8, .int (-1)), (6, .int (-1)), (5, .int (-1)), (4, .int be_23), (3, .int (nI (dn sn))), (0, .ref (a 0)), (1, .int (nI sn)), (2, .int p1)]) hx hb dX8_leastAll_159 hl (k := 1) rfl (by decide) (by decide) rfl (fun ls hl => ?_)
                      refine lv_goto (tgt := 54) hx hb dX8_leastAll_162 (by decide) ?_
                      exact ih_21 _ (1, be_23) _ _ _ (by omega) ⟨rfl, (by omega), hP, hS, (by rw [nI_pred]; exact lv_sub hl [0, 2, 3, 4, 5, 6, 7, 8] rfl)⟩
                    · refine lv_iload_n hx hb dX8_leastAll_93 rfl (lv_at hl 8 rfl) ?_
                      refine lv_iload hx hb dX8_leastAll_94 (lv_at hl 3 rfl) ?_
                      refine lv_iload hx hb dX8_leastAll_96 (lv_at hl 2 rfl) ?_
                      refine lv_iload hx hb dX8_leastAll_98 (lv_at hl 1 rfl) ?_
                      refine lv_iload hx hb dX8_leastAll_100 (lv_at hl 0 rfl) ?_
                      refine ro_i (D := D) (va_runS (As := [.int p1, .int (-1), .int (-1), .int (-1), .int (-1)]) (rest := []) ⟨hx, hb, hml, hown, hts⟩ ((m_canAll l D k st lo p1 (-1) (-1) (-1) (-1)) H.size) (va_cwS 5 hts (gS tw_1450 tw_1451 tw_87 tw_1452) rfl rfl rfl (by decide +kernel) ⟨Nat.le_of_ble_eq_true rfl, Nat.le_of_ble_eq_true rfl⟩) (pS hS hAlo hlo hP hK hDL hZ [] (by decide) rfl) rfl rfl hl.1 rfl (lv_room (Nat.le_of_ble_eq_true rfl)) dX8_leastAll_102 ⟨Nat.le_of_ble_eq_true rfl, Nat.le_of_ble_eq_true rfl⟩) hS hA hP (fun r_32 H locs hw_32 hP hS => ?_)
                      try dsimp only at hw_32
                      refine lv_if_eq (tgt := 124) hx hb dX8_leastAll_105 (by decide) (fun c_33 => ?_) (fun c_33 => ?_)
                      · refine lv_iconst (v := (-1)) hx hb dX8_leastAll_124 (by decide) ?_
                        refine lv_istore (lv' := [(9, .int (-1)), (8, .int (-1)), (7, .int (-1)), (6, .int (-1)), (5, .int (-1)), (4, .int be_23), (3, .int (nI (dn sn))), (0, .ref (a 0)), (1, .int (nI sn)), (2, .int p1)]) hx hb dX8_leastAll_125 hl (by decide) rfl (fun ls hl => ?_)
                        refine lv_iload hx hb dX8_leastAll_127 (lv_at hl 0 rfl) ?_
                        refine lv_if_lt (tgt := 149) hx hb dX8_leastAll_129 (by decide) (fun _ => ?_) (fun h => absurd (by decide) h)
                        refine lv_iload hx hb dX8_leastAll_149 (lv_at hl 5 rfl) ?_
                        refine lv_istore (lv' := [(4, .int be_23), (9, .int (-1)), (8, .int (-1)), (7, .int (-1)), (6, .int (-1)), (5, .int (-1)), (3, .int (nI (dn sn))), (0, .ref (a 0)), (1, .int (nI sn)), (2, .int p1)]) hx hb dX8_leastAll_151 hl (by decide) rfl (fun ls hl => ?_)
                        refine lv_iinc (v := 0) (lv' := [(8, .int 0), (4, .int be_23), (9, .int (-1)), (7, .int (-1)), (6, .int (-1)), (5, .int (-1)), (3, .int (nI (dn sn))), (0, .ref (a 0)), (1, .int (nI sn)), (2, .int p1)]) hx hb dX8_leastAll_153 hl (k := 2) rfl (by decide) (by decide) rfl (fun ls hl => ?_)
                        refine lv_goto (tgt := 75) hx hb dX8_leastAll_156 (by decide) ?_
                        exact ih_23 _ (1, be_23) _ _ _ (by omega) ⟨rfl, (by omega), hP, hS, (by rw [nI_pred]; exact lv_sub hl [0, 3, 4, 5, 1, 6, 7, 8, 9] rfl)⟩
                      · refine lv_aload_n hx hb dX8_leastAll_108 rfl (lv_at hl 6 rfl) ?_
                        refine lv_iload_n hx hb dX8_leastAll_109 rfl (lv_at hl 7 rfl) ?_
                        refine lv_iload hx hb dX8_leastAll_110 (lv_at hl 3 rfl) ?_
                        refine lv_iload hx hb dX8_leastAll_112 (lv_at hl 2 rfl) ?_
                        refine lv_iload hx hb dX8_leastAll_114 (lv_at hl 1 rfl) ?_
                        refine lv_iload hx hb dX8_leastAll_116 (lv_at hl 0 rfl) ?_
                        refine ro_i (D := D) (va_runV (As := [.int (nI sn), .int (-1), .int (-1), .int (-1), .int (-1)]) (rest := []) ⟨hx, hb, hml, hown, hts⟩ ((m_sumAll l D k st lo a tx t0 we rd ru rw ca fp wd nu na ts df db sd dn se tm gs fprices fwalks sn (-1) (-1) (-1) (-1) (by omega) (by omega) (.inl (by decide)) (.inl (by decide)) (.inl (by decide)) (.inl (by decide))) H.size) (cwV 5 hts (gV tw_1459 tw_1461 tw_75 tw_87 tw_1462) rfl rfl rfl (by decide +kernel) ⟨Nat.le_of_ble_eq_true rfl, Nat.le_of_ble_eq_true rfl⟩) (pV hS hAlo hlo hP hK hDL hZ [0, 1, 2, 3, 4] (by decide) rfl (ci := 8) (q := (RX8, TX8, 44)) (q0 := 0) rfl rfl) rfl rfl hl.1 rfl (lv_room (Nat.le_of_ble_eq_true rfl)) dX8_leastAll_118 ⟨Nat.le_of_ble_eq_true rfl, Nat.le_of_ble_eq_true rfl⟩) hS hA hP (fun r_34 H locs hw_34 hP hS => ?_)
                        try dsimp only at hw_34
                        refine lv_goto (tgt := 125) hx hb dX8_leastAll_121 (by decide) ?_
                        refine lv_istore (lv' := [(9, .int r_34), (8, .int (-1)), (7, .int (-1)), (6, .int (-1)), (5, .int (-1)), (4, .int be_23), (3, .int (nI (dn sn))), (0, .ref (a 0)), (1, .int (nI sn)), (2, .int p1)]) hx hb dX8_leastAll_125 hl (by decide) rfl (fun ls hl => ?_)
                        refine lv_iload hx hb dX8_leastAll_127 (lv_at hl 0 rfl) ?_
                        refine lv_if_lt (tgt := 149) hx hb dX8_leastAll_129 (by decide) (fun c_35 => ?_) (fun c_35 => ?_)
                        · refine lv_iload hx hb dX8_leastAll_149 (lv_at hl 5 rfl) ?_
                          refine lv_istore (lv' := [(4, .int be_23), (9, .int r_34), (8, .int (-1)), (7, .int (-1)), (6, .int (-1)), (5, .int (-1)), (3, .int (nI (dn sn))), (0, .ref (a 0)), (1, .int (nI sn)), (2, .int p1)]) hx hb dX8_leastAll_151 hl (by decide) rfl (fun ls hl => ?_)
                          refine lv_iinc (v := 0) (lv' := [(8, .int 0), (4, .int be_23), (9, .int r_34), (7, .int (-1)), (6, .int (-1)), (5, .int (-1)), (3, .int (nI (dn sn))), (0, .ref (a 0)), (1, .int (nI sn)), (2, .int p1)]) hx hb dX8_leastAll_153 hl (k := 2) rfl (by decide) (by decide) rfl (fun ls hl => ?_)
                          refine lv_goto (tgt := 75) hx hb dX8_leastAll_156 (by decide) ?_
                          exact ih_23 _ (1, be_23) _ _ _ (by omega) ⟨rfl, (by omega), hP, hS, (by rw [nI_pred]; exact lv_sub hl [0, 3, 4, 5, 1, 6, 7, 8, 9] rfl)⟩
                        · refine lv_iload hx hb dX8_leastAll_132 (lv_at hl 5 rfl) ?_
                          refine lv_if_lt (tgt := 144) hx hb dX8_leastAll_134 (by decide) (fun c_36 => ?_) (fun c_36 => ?_)
                          · refine lv_iload hx hb dX8_leastAll_144 (lv_at hl 0 rfl) ?_
                            refine lv_goto (tgt := 151) hx hb dX8_leastAll_146 (by decide) ?_
                            refine lv_istore (lv' := [(4, .int r_34), (9, .int r_34), (8, .int (-1)), (7, .int (-1)), (6, .int (-1)), (5, .int (-1)), (3, .int (nI (dn sn))), (0, .ref (a 0)), (1, .int (nI sn)), (2, .int p1)]) hx hb dX8_leastAll_151 hl (by decide) rfl (fun ls hl => ?_)
                            refine lv_iinc (v := 0) (lv' := [(8, .int 0), (4, .int r_34), (9, .int r_34), (7, .int (-1)), (6, .int (-1)), (5, .int (-1)), (3, .int (nI (dn sn))), (0, .ref (a 0)), (1, .int (nI sn)), (2, .int p1)]) hx hb dX8_leastAll_153 hl (k := 2) rfl (by decide) (by decide) rfl (fun ls hl => ?_)
                            refine lv_goto (tgt := 75) hx hb dX8_leastAll_156 (by decide) ?_
                            exact ih_23 _ (1, r_34) _ _ _ (by omega) ⟨rfl, (by omega), hP, hS, (by rw [nI_pred]; exact lv_sub hl [0, 3, 4, 5, 1, 6, 7, 8, 9] rfl)⟩
                          · refine lv_iload hx hb dX8_leastAll_137 (lv_at hl 0 rfl) ?_
                            refine lv_iload hx hb dX8_leastAll_139 (lv_at hl 5 rfl) ?_
                            refine lv_icmp_ge (tgt := 149) hx hb dX8_leastAll_141 (by decide) (fun c_37 => ?_) (fun c_37 => ?_)
                            · refine lv_iload hx hb dX8_leastAll_149 (lv_at hl 5 rfl) ?_
                              refine lv_istore (lv' := [(4, .int be_23), (9, .int r_34), (8, .int (-1)), (7, .int (-1)), (6, .int (-1)), (5, .int (-1)), (3, .int (nI (dn sn))), (0, .ref (a 0)), (1, .int (nI sn)), (2, .int p1)]) hx hb dX8_leastAll_151 hl (by decide) rfl (fun ls hl => ?_)
                              refine lv_iinc (v := 0) (lv' := [(8, .int 0), (4, .int be_23), (9, .int r_34), (7, .int (-1)), (6, .int (-1)), (5, .int (-1)), (3, .int (nI (dn sn))), (0, .ref (a 0)), (1, .int (nI sn)), (2, .int p1)]) hx hb dX8_leastAll_153 hl (k := 2) rfl (by decide) (by decide) rfl (fun ls hl => ?_)
                              refine lv_goto (tgt := 75) hx hb dX8_leastAll_156 (by decide) ?_
                              exact ih_23 _ (1, be_23) _ _ _ (by omega) ⟨rfl, (by omega), hP, hS, (by rw [nI_pred]; exact lv_sub hl [0, 3, 4, 5, 1, 6, 7, 8, 9] rfl)⟩
                            · refine lv_iload hx hb dX8_leastAll_144 (lv_at hl 0 rfl) ?_
                              refine lv_goto (tgt := 151) hx hb dX8_leastAll_146 (by decide) ?_
                              refine lv_istore (lv' := [(4, .int r_34), (9, .int r_34), (8, .int (-1)), (7, .int (-1)), (6, .int (-1)), (5, .int (-1)), (3, .int (nI (dn sn))), (0, .ref (a 0)), (1, .int (nI sn)), (2, .int p1)]) hx hb dX8_leastAll_151 hl (by decide) rfl (fun ls hl => ?_)
                              refine lv_iinc (v := 0) (lv' := [(8, .int 0), (4, .int r_34), (9, .int r_34), (7, .int (-1)), (6, .int (-1)), (5, .int (-1)), (3, .int (nI (dn sn))), (0, .ref (a 0)), (1, .int (nI sn)), (2, .int p1)]) hx hb dX8_leastAll_153 hl (k := 2) rfl (by decide) (by decide) rfl (fun ls hl => ?_)
                              refine lv_goto (tgt := 75) hx hb dX8_leastAll_156 (by decide) ?_
                              exact ih_23 _ (1, r_34) _ _ _ (by omega) ⟨rfl, (by omega), hP, hS, (by rw [nI_pred]; exact lv_sub hl [0, 3, 4, 5, 1, 6, 7, 8, 9] rfl)⟩
                · rw [nI_pred] at hl
                  refine lv_iload hx hb dX8_leastAll_75 (lv_at hl 0 rfl) ?_
                  refine lv_aload_n hx hb dX8_leastAll_77 rfl (lv_at hl 6 rfl) ?_
                  refine va_get (D := D) (ci := 8) (v := .int (nI ca)) (C := RX8) (T := TX8) (N := 44) hx hb hts inX8 hown hK hP 0 rfl rfl 34 (by decide) (hts _ tw_1007) (fun _ h9 => h9) rfl dX8_leastAll_78 ?_
                  refine lv_iconst (v := 3) hx hb dX8_leastAll_81 (by decide) ?_
                  refine lv_icmp_le (tgt := 89) hx hb dX8_leastAll_82 (by decide) (fun c_38 => ?_) (fun c_38 => ?_)
                  · have c_38 := (nI_leI (a := ca) (b := 3) (by omega) (by omega)).mp c_38
                    refine lv_iconst (v := 0) hx hb dX8_leastAll_89 (by decide) ?_
                    refine lv_icmp_ge (tgt := 159) hx hb dX8_leastAll_90 (by decide) (fun _ => ?_) (fun h => absurd (nI_ge0 (by omega)) h)
                    refine lv_iinc (v := 0) (lv' := [(7, .int 0), (8, .int (nI q8_23)), (6, .int (-1)), (5, .int (-1)), (4, .int be_23), (3, .int (nI (dn sn))), (0, .ref (a 0)), (1, .int (nI sn)), (2, .int p1)]) hx hb dX8_leastAll_159 hl (k := 1) rfl (by decide) (by decide) rfl (fun ls hl => ?_)
                    refine lv_goto (tgt := 54) hx hb dX8_leastAll_162 (by decide) ?_
                    exact ih_21 _ (1, be_23) _ _ _ (by omega) ⟨rfl, (by omega), hP, hS, (by rw [nI_pred]; exact lv_sub hl [0, 2, 3, 4, 5, 6, 7, 8] rfl)⟩
                  · have c_38 : ¬ (ca ≤ 3) := fun h => c_38 ((nI_leI (a := ca) (b := 3) (by omega) (by omega)).mpr h)
                    refine lv_iload_n hx hb dX8_leastAll_85 rfl (lv_at hl 5 rfl) ?_
                    refine lv_goto (tgt := 90) hx hb dX8_leastAll_86 (by decide) ?_
                    refine lv_icmp_ge (tgt := 159) hx hb dX8_leastAll_90 (by decide) (fun c_39 => ?_) (fun c_39 => ?_)
                    · have c_39 := (nI_leI (a := (dn sn)) (b := q8_23) (by omega) (by omega)).mp c_39
                      refine lv_iinc (v := 0) (lv' := [(7, .int 0), (8, .int (nI q8_23)), (6, .int (-1)), (5, .int (-1)), (4, .int be_23), (3, .int (nI (dn sn))), (0, .ref (a 0)), (1, .int (nI sn)), (2, .int p1)]) hx hb dX8_leastAll_159 hl (k := 1) rfl (by decide) (by decide) rfl (fun ls hl => ?_)
                      refine lv_goto (tgt := 54) hx hb dX8_leastAll_162 (by decide) ?_
                      exact ih_21 _ (1, be_23) _ _ _ (by omega) ⟨rfl, (by omega), hP, hS, (by rw [nI_pred]; exact lv_sub hl [0, 2, 3, 4, 5, 6, 7, 8] rfl)⟩
                    · have c_39 : ¬ ((dn sn) ≤ q8_23) := fun h => c_39 ((nI_leI (a := (dn sn)) (b := q8_23) (by omega) (by omega)).mpr h)
                      refine lv_iload_n hx hb dX8_leastAll_93 rfl (lv_at hl 8 rfl) ?_
                      refine lv_iload hx hb dX8_leastAll_94 (lv_at hl 3 rfl) ?_
                      refine lv_iload hx hb dX8_leastAll_96 (lv_at hl 2 rfl) ?_
                      refine lv_iload hx hb dX8_leastAll_98 (lv_at hl 1 rfl) ?_
                      refine lv_iload hx hb dX8_leastAll_100 (lv_at hl 0 rfl) ?_
                      refine ro_i (D := D) (va_runS (As := [.int p1, .int (-1), .int (-1), .int (-1), .int (nI q8_23)]) (rest := []) ⟨hx, hb, hml, hown, hts⟩ ((m_canAll l D k st lo p1 (-1) (-1) (-1) (nI q8_23)) H.size) (va_cwS 5 hts (gS tw_1450 tw_1451 tw_87 tw_1452) rfl rfl rfl (by decide +kernel) ⟨Nat.le_of_ble_eq_true rfl, Nat.le_of_ble_eq_true rfl⟩) (pS hS hAlo hlo hP hK hDL hZ [] (by decide) rfl) rfl rfl hl.1 rfl (lv_room (Nat.le_of_ble_eq_true rfl)) dX8_leastAll_102 ⟨Nat.le_of_ble_eq_true rfl, Nat.le_of_ble_eq_true rfl⟩) hS hA hP (fun r_40 H locs hw_40 hP hS => ?_)
                      try dsimp only at hw_40
                      refine lv_if_eq (tgt := 124) hx hb dX8_leastAll_105 (by decide) (fun c_41 => ?_) (fun c_41 => ?_)
                      · refine lv_iconst (v := (-1)) hx hb dX8_leastAll_124 (by decide) ?_
                        refine lv_istore (lv' := [(9, .int (-1)), (8, .int (nI q8_23)), (7, .int (-1)), (6, .int (-1)), (5, .int (-1)), (4, .int be_23), (3, .int (nI (dn sn))), (0, .ref (a 0)), (1, .int (nI sn)), (2, .int p1)]) hx hb dX8_leastAll_125 hl (by decide) rfl (fun ls hl => ?_)
                        refine lv_iload hx hb dX8_leastAll_127 (lv_at hl 0 rfl) ?_
                        refine lv_if_lt (tgt := 149) hx hb dX8_leastAll_129 (by decide) (fun _ => ?_) (fun h => absurd (by decide) h)
                        refine lv_iload hx hb dX8_leastAll_149 (lv_at hl 5 rfl) ?_
                        refine lv_istore (lv' := [(4, .int be_23), (9, .int (-1)), (8, .int (nI q8_23)), (7, .int (-1)), (6, .int (-1)), (5, .int (-1)), (3, .int (nI (dn sn))), (0, .ref (a 0)), (1, .int (nI sn)), (2, .int p1)]) hx hb dX8_leastAll_151 hl (by decide) rfl (fun ls hl => ?_)
                        refine lv_iinc (v := (nI (q8_23 + 1))) (lv' := [(8, .int (nI (q8_23 + 1))), (4, .int be_23), (9, .int (-1)), (7, .int (-1)), (6, .int (-1)), (5, .int (-1)), (3, .int (nI (dn sn))), (0, .ref (a 0)), (1, .int (nI sn)), (2, .int p1)]) hx hb dX8_leastAll_153 hl (k := 2) rfl (nI_add q8_23 1) (by decide) rfl (fun ls hl => ?_)
                        refine lv_goto (tgt := 75) hx hb dX8_leastAll_156 (by decide) ?_
                        exact ih_23 _ (q8_23 + 1 + 1, be_23) _ _ _ (by omega) ⟨rfl, (by omega), hP, hS, (by rw [nI_pred]; exact lv_sub hl [0, 3, 4, 5, 1, 6, 7, 8, 9] rfl)⟩
                      · refine lv_aload_n hx hb dX8_leastAll_108 rfl (lv_at hl 6 rfl) ?_
                        refine lv_iload_n hx hb dX8_leastAll_109 rfl (lv_at hl 7 rfl) ?_
                        refine lv_iload hx hb dX8_leastAll_110 (lv_at hl 3 rfl) ?_
                        refine lv_iload hx hb dX8_leastAll_112 (lv_at hl 2 rfl) ?_
                        refine lv_iload hx hb dX8_leastAll_114 (lv_at hl 1 rfl) ?_
                        refine lv_iload hx hb dX8_leastAll_116 (lv_at hl 0 rfl) ?_
                        refine ro_i (D := D) (va_runV (As := [.int (nI sn), .int (-1), .int (-1), .int (-1), .int (nI q8_23)]) (rest := []) ⟨hx, hb, hml, hown, hts⟩ ((m_sumAll l D k st lo a tx t0 we rd ru rw ca fp wd nu na ts df db sd dn se tm gs fprices fwalks sn (-1) (-1) (-1) (nI q8_23) (by omega) (by omega) (.inl (by decide)) (.inl (by decide)) (.inl (by decide)) (.inr ⟨q8_23, by omega, rfl⟩)) H.size) (cwV 5 hts (gV tw_1459 tw_1461 tw_75 tw_87 tw_1462) rfl rfl rfl (by decide +kernel) ⟨Nat.le_of_ble_eq_true rfl, Nat.le_of_ble_eq_true rfl⟩) (pV hS hAlo hlo hP hK hDL hZ [0, 1, 2, 3, 4] (by decide) rfl (ci := 8) (q := (RX8, TX8, 44)) (q0 := 0) rfl rfl) rfl rfl hl.1 rfl (lv_room (Nat.le_of_ble_eq_true rfl)) dX8_leastAll_118 ⟨Nat.le_of_ble_eq_true rfl, Nat.le_of_ble_eq_true rfl⟩) hS hA hP (fun r_42 H locs hw_42 hP hS => ?_)
                        try dsimp only at hw_42
                        refine lv_goto (tgt := 125) hx hb dX8_leastAll_121 (by decide) ?_
                        refine lv_istore (lv' := [(9, .int r_42), (8, .int (nI q8_23)), (7, .int (-1)), (6, .int (-1)), (5, .int (-1)), (4, .int be_23), (3, .int (nI (dn sn))), (0, .ref (a 0)), (1, .int (nI sn)), (2, .int p1)]) hx hb dX8_leastAll_125 hl (by decide) rfl (fun ls hl => ?_)
                        refine lv_iload hx hb dX8_leastAll_127 (lv_at hl 0 rfl) ?_
                        refine lv_if_lt (tgt := 149) hx hb dX8_leastAll_129 (by decide) (fun c_43 => ?_) (fun c_43 => ?_)
                        · refine lv_iload hx hb dX8_leastAll_149 (lv_at hl 5 rfl) ?_
                          refine lv_istore (lv' := [(4, .int be_23), (9, .int r_42), (8, .int (nI q8_23)), (7, .int (-1)), (6, .int (-1)), (5, .int (-1)), (3, .int (nI (dn sn))), (0, .ref (a 0)), (1, .int (nI sn)), (2, .int p1)]) hx hb dX8_leastAll_151 hl (by decide) rfl (fun ls hl => ?_)
                          refine lv_iinc (v := (nI (q8_23 + 1))) (lv' := [(8, .int (nI (q8_23 + 1))), (4, .int be_23), (9, .int r_42), (7, .int (-1)), (6, .int (-1)), (5, .int (-1)), (3, .int (nI (dn sn))), (0, .ref (a 0)), (1, .int (nI sn)), (2, .int p1)]) hx hb dX8_leastAll_153 hl (k := 2) rfl (nI_add q8_23 1) (by decide) rfl (fun ls hl => ?_)
                          refine lv_goto (tgt := 75) hx hb dX8_leastAll_156 (by decide) ?_
                          exact ih_23 _ (q8_23 + 1 + 1, be_23) _ _ _ (by omega) ⟨rfl, (by omega), hP, hS, (by rw [nI_pred]; exact lv_sub hl [0, 3, 4, 5, 1, 6, 7, 8, 9] rfl)⟩
                        · refine lv_iload hx hb dX8_leastAll_132 (lv_at hl 5 rfl) ?_
                          refine lv_if_lt (tgt := 144) hx hb dX8_leastAll_134 (by decide) (fun c_44 => ?_) (fun c_44 => ?_)
                          · refine lv_iload hx hb dX8_leastAll_144 (lv_at hl 0 rfl) ?_
                            refine lv_goto (tgt := 151) hx hb dX8_leastAll_146 (by decide) ?_
                            refine lv_istore (lv' := [(4, .int r_42), (9, .int r_42), (8, .int (nI q8_23)), (7, .int (-1)), (6, .int (-1)), (5, .int (-1)), (3, .int (nI (dn sn))), (0, .ref (a 0)), (1, .int (nI sn)), (2, .int p1)]) hx hb dX8_leastAll_151 hl (by decide) rfl (fun ls hl => ?_)
                            refine lv_iinc (v := (nI (q8_23 + 1))) (lv' := [(8, .int (nI (q8_23 + 1))), (4, .int r_42), (9, .int r_42), (7, .int (-1)), (6, .int (-1)), (5, .int (-1)), (3, .int (nI (dn sn))), (0, .ref (a 0)), (1, .int (nI sn)), (2, .int p1)]) hx hb dX8_leastAll_153 hl (k := 2) rfl (nI_add q8_23 1) (by decide) rfl (fun ls hl => ?_)
                            refine lv_goto (tgt := 75) hx hb dX8_leastAll_156 (by decide) ?_
                            exact ih_23 _ (q8_23 + 1 + 1, r_42) _ _ _ (by omega) ⟨rfl, (by omega), hP, hS, (by rw [nI_pred]; exact lv_sub hl [0, 3, 4, 5, 1, 6, 7, 8, 9] rfl)⟩
                          · refine lv_iload hx hb dX8_leastAll_137 (lv_at hl 0 rfl) ?_
                            refine lv_iload hx hb dX8_leastAll_139 (lv_at hl 5 rfl) ?_
                            refine lv_icmp_ge (tgt := 149) hx hb dX8_leastAll_141 (by decide) (fun c_45 => ?_) (fun c_45 => ?_)
                            · refine lv_iload hx hb dX8_leastAll_149 (lv_at hl 5 rfl) ?_
                              refine lv_istore (lv' := [(4, .int be_23), (9, .int r_42), (8, .int (nI q8_23)), (7, .int (-1)), (6, .int (-1)), (5, .int (-1)), (3, .int (nI (dn sn))), (0, .ref (a 0)), (1, .int (nI sn)), (2, .int p1)]) hx hb dX8_leastAll_151 hl (by decide) rfl (fun ls hl => ?_)
                              refine lv_iinc (v := (nI (q8_23 + 1))) (lv' := [(8, .int (nI (q8_23 + 1))), (4, .int be_23), (9, .int r_42), (7, .int (-1)), (6, .int (-1)), (5, .int (-1)), (3, .int (nI (dn sn))), (0, .ref (a 0)), (1, .int (nI sn)), (2, .int p1)]) hx hb dX8_leastAll_153 hl (k := 2) rfl (nI_add q8_23 1) (by decide) rfl (fun ls hl => ?_)
                              refine lv_goto (tgt := 75) hx hb dX8_leastAll_156 (by decide) ?_
                              exact ih_23 _ (q8_23 + 1 + 1, be_23) _ _ _ (by omega) ⟨rfl, (by omega), hP, hS, (by rw [nI_pred]; exact lv_sub hl [0, 3, 4, 5, 1, 6, 7, 8, 9] rfl)⟩
                            · refine lv_iload hx hb dX8_leastAll_144 (lv_at hl 0 rfl) ?_
                              refine lv_goto (tgt := 151) hx hb dX8_leastAll_146 (by decide) ?_
                              refine lv_istore (lv' := [(4, .int r_42), (9, .int r_42), (8, .int (nI q8_23)), (7, .int (-1)), (6, .int (-1)), (5, .int (-1)), (3, .int (nI (dn sn))), (0, .ref (a 0)), (1, .int (nI sn)), (2, .int p1)]) hx hb dX8_leastAll_151 hl (by decide) rfl (fun ls hl => ?_)
                              refine lv_iinc (v := (nI (q8_23 + 1))) (lv' := [(8, .int (nI (q8_23 + 1))), (4, .int r_42), (9, .int r_42), (7, .int (-1)), (6, .int (-1)), (5, .int (-1)), (3, .int (nI (dn sn))), (0, .ref (a 0)), (1, .int (nI sn)), (2, .int p1)]) hx hb dX8_leastAll_153 hl (k := 2) rfl (nI_add q8_23 1) (by decide) rfl (fun ls hl => ?_)
                              refine lv_goto (tgt := 75) hx hb dX8_leastAll_156 (by decide) ?_
                              exact ih_23 _ (q8_23 + 1 + 1, r_42) _ _ _ (by omega) ⟨rfl, (by omega), hP, hS, (by rw [nI_pred]; exact lv_sub hl [0, 3, 4, 5, 1, 6, 7, 8, 9] rfl)⟩
              · have c_22 : ¬ (ca ≤ 2) := fun h => c_22 ((nI_leI (a := ca) (b := 2) (by omega) (by omega)).mpr h)
                refine lv_iload_n hx hb dX8_leastAll_64 rfl (lv_at hl 4 rfl) ?_
                refine lv_goto (tgt := 69) hx hb dX8_leastAll_65 (by decide) ?_
                refine lv_icmp_ge (tgt := 165) hx hb dX8_leastAll_69 (by decide) (fun c_46 => ?_) (fun c_46 => ?_)
                · refine lv_iinc (v := 0) (lv' := [(6, .int 0), (7, .int (-1)), (5, .int (-1)), (4, .int be_21), (3, .int (nI (dn sn))), (0, .ref (a 0)), (1, .int (nI sn)), (2, .int p1)]) hx hb dX8_leastAll_165 hl (k := 1) rfl (by decide) (by decide) rfl (fun ls hl => ?_)
                  refine lv_goto (tgt := 33) hx hb dX8_leastAll_168 (by decide) ?_
                  exact ih_19 _ (1, be_21) _ _ _ (by omega) ⟨rfl, (by omega), hP, hS, (by rw [nI_pred]; exact lv_sub hl [0, 2, 3, 4, 5, 6, 7] rfl)⟩
                · refine lv_iconst (v := (-1)) hx hb dX8_leastAll_72 (by decide) ?_
                  refine lv_istore (lv' := [(8, .int (-1)), (7, .int (-1)), (6, .int (-1)), (5, .int (-1)), (4, .int be_21), (3, .int (nI (dn sn))), (0, .ref (a 0)), (1, .int (nI sn)), (2, .int p1)]) hx hb dX8_leastAll_73 hl (by decide) rfl (fun ls hl => ?_)
                  refine W_loop (σ := Nat × Int32) (fun (n_ : Nat) (x_ : Nat × Int32) (H : Heap) (locs : List Loc) (ls : Array Slot) => match x_ with | (q8_47, be_47) => n_ = 26 - q8_47 ∧ (q8_47 ≤ 25) ∧ va_P D classes [((a 0), .inr (8, (fX8 a (nI tx) fp (nI t0) wd (nI we) nu na (nI rd) ts (nI ru) (nI rw) (nI ca) df db sd))), (aI k (a 1) 3 (nF dn)), (aI k (a 4) 27 (sg se tm gs)), (aI k (a 3) 72 fprices), (aI k (a 36) 4 fwalks)] H ∧ va_S (fun q : Nat => s.heap.size ≤ q) s.heap H locs ∧ lv_has ls 10 [(8, .int (nI q8_47 - 1)), (7, .int (-1)), (6, .int (-1)), (5, .int (-1)), (4, .int be_47), (3, .int (nI (dn sn))), (0, .ref (a 0)), (1, .int (nI sn)), (2, .int p1)]) (fun n_47 x_47 H locs ls hI ih_47 => ?_) _ (0, be_21) ⟨rfl, (by omega), hP, hS, (by rw [dn0]; exact lv_sub hl [0, 1, 2, 3, 4, 5, 6, 7, 8] rfl)⟩
                  obtain ⟨q8_47, be_47⟩ := x_47
                  obtain ⟨hm_47, hv_47, hP, hS, hl⟩ := hI
                  subst hm_47
                  rcases q8_47 with _ | q8_47
                  · rw [dn0] at hl
                    refine lv_iload hx hb dX8_leastAll_75 (lv_at hl 0 rfl) ?_
                    refine lv_aload_n hx hb dX8_leastAll_77 rfl (lv_at hl 6 rfl) ?_
                    refine va_get (D := D) (ci := 8) (v := .int (nI ca)) (C := RX8) (T := TX8) (N := 44) hx hb hts inX8 hown hK hP 0 rfl rfl 34 (by decide) (hts _ tw_1007) (fun _ h9 => h9) rfl dX8_leastAll_78 ?_
                    refine lv_iconst (v := 3) hx hb dX8_leastAll_81 (by decide) ?_
                    refine lv_icmp_le (tgt := 89) hx hb dX8_leastAll_82 (by decide) (fun c_48 => ?_) (fun c_48 => ?_)
                    · have c_48 := (nI_leI (a := ca) (b := 3) (by omega) (by omega)).mp c_48
                      refine lv_iconst (v := 0) hx hb dX8_leastAll_89 (by decide) ?_
                      refine lv_icmp_ge (tgt := 159) hx hb dX8_leastAll_90 (by decide) (fun h => absurd h (by decide)) (fun _ => ?_)
                      refine lv_iload_n hx hb dX8_leastAll_93 rfl (lv_at hl 8 rfl) ?_
                      refine lv_iload hx hb dX8_leastAll_94 (lv_at hl 3 rfl) ?_
                      refine lv_iload hx hb dX8_leastAll_96 (lv_at hl 2 rfl) ?_
                      refine lv_iload hx hb dX8_leastAll_98 (lv_at hl 1 rfl) ?_
                      refine lv_iload hx hb dX8_leastAll_100 (lv_at hl 0 rfl) ?_
                      refine ro_i (D := D) (va_runS (As := [.int p1, .int (-1), .int (-1), .int (-1), .int (-1)]) (rest := []) ⟨hx, hb, hml, hown, hts⟩ ((m_canAll l D k st lo p1 (-1) (-1) (-1) (-1)) H.size) (va_cwS 5 hts (gS tw_1450 tw_1451 tw_87 tw_1452) rfl rfl rfl (by decide +kernel) ⟨Nat.le_of_ble_eq_true rfl, Nat.le_of_ble_eq_true rfl⟩) (pS hS hAlo hlo hP hK hDL hZ [] (by decide) rfl) rfl rfl hl.1 rfl (lv_room (Nat.le_of_ble_eq_true rfl)) dX8_leastAll_102 ⟨Nat.le_of_ble_eq_true rfl, Nat.le_of_ble_eq_true rfl⟩) hS hA hP (fun r_49 H locs hw_49 hP hS => ?_)
                      try dsimp only at hw_49
                      refine lv_if_eq (tgt := 124) hx hb dX8_leastAll_105 (by decide) (fun c_50 => ?_) (fun c_50 => ?_)
                      · refine lv_iconst (v := (-1)) hx hb dX8_leastAll_124 (by decide) ?_
                        refine lv_istore (lv' := [(9, .int (-1)), (8, .int (-1)), (7, .int (-1)), (6, .int (-1)), (5, .int (-1)), (4, .int be_47), (3, .int (nI (dn sn))), (0, .ref (a 0)), (1, .int (nI sn)), (2, .int p1)]) hx hb dX8_leastAll_125 hl (by decide) rfl (fun ls hl => ?_)
                        refine lv_iload hx hb dX8_leastAll_127 (lv_at hl 0 rfl) ?_
                        refine lv_if_lt (tgt := 149) hx hb dX8_leastAll_129 (by decide) (fun _ => ?_) (fun h => absurd (by decide) h)
                        refine lv_iload hx hb dX8_leastAll_149 (lv_at hl 5 rfl) ?_
                        refine lv_istore (lv' := [(4, .int be_47), (9, .int (-1)), (8, .int (-1)), (7, .int (-1)), (6, .int (-1)), (5, .int (-1)), (3, .int (nI (dn sn))), (0, .ref (a 0)), (1, .int (nI sn)), (2, .int p1)]) hx hb dX8_leastAll_151 hl (by decide) rfl (fun ls hl => ?_)
                        refine lv_iinc (v := 0) (lv' := [(8, .int 0), (4, .int be_47), (9, .int (-1)), (7, .int (-1)), (6, .int (-1)), (5, .int (-1)), (3, .int (nI (dn sn))), (0, .ref (a 0)), (1, .int (nI sn)), (2, .int p1)]) hx hb dX8_leastAll_153 hl (k := 2) rfl (by decide) (by decide) rfl (fun ls hl => ?_)
                        refine lv_goto (tgt := 75) hx hb dX8_leastAll_156 (by decide) ?_
                        exact ih_47 _ (1, be_47) _ _ _ (by omega) ⟨rfl, (by omega), hP, hS, (by rw [nI_pred]; exact lv_sub hl [0, 3, 4, 5, 1, 6, 7, 8, 9] rfl)⟩
                      · refine lv_aload_n hx hb dX8_leastAll_108 rfl (lv_at hl 6 rfl) ?_
                        refine lv_iload_n hx hb dX8_leastAll_109 rfl (lv_at hl 7 rfl) ?_
                        refine lv_iload hx hb dX8_leastAll_110 (lv_at hl 3 rfl) ?_
                        refine lv_iload hx hb dX8_leastAll_112 (lv_at hl 2 rfl) ?_
                        refine lv_iload hx hb dX8_leastAll_114 (lv_at hl 1 rfl) ?_
                        refine lv_iload hx hb dX8_leastAll_116 (lv_at hl 0 rfl) ?_
                        refine ro_i (D := D) (va_runV (As := [.int (nI sn), .int (-1), .int (-1), .int (-1), .int (-1)]) (rest := []) ⟨hx, hb, hml, hown, hts⟩ ((m_sumAll l D k st lo a tx t0 we rd ru rw ca fp wd nu na ts df db sd dn se tm gs fprices fwalks sn (-1) (-1) (-1) (-1) (by omega) (by omega) (.inl (by decide)) (.inl (by decide)) (.inl (by decide)) (.inl (by decide))) H.size) (cwV 5 hts (gV tw_1459 tw_1461 tw_75 tw_87 tw_1462) rfl rfl rfl (by decide +kernel) ⟨Nat.le_of_ble_eq_true rfl, Nat.le_of_ble_eq_true rfl⟩) (pV hS hAlo hlo hP hK hDL hZ [0, 1, 2, 3, 4] (by decide) rfl (ci := 8) (q := (RX8, TX8, 44)) (q0 := 0) rfl rfl) rfl rfl hl.1 rfl (lv_room (Nat.le_of_ble_eq_true rfl)) dX8_leastAll_118 ⟨Nat.le_of_ble_eq_true rfl, Nat.le_of_ble_eq_true rfl⟩) hS hA hP (fun r_51 H locs hw_51 hP hS => ?_)
                        try dsimp only at hw_51
                        refine lv_goto (tgt := 125) hx hb dX8_leastAll_121 (by decide) ?_
                        refine lv_istore (lv' := [(9, .int r_51), (8, .int (-1)), (7, .int (-1)), (6, .int (-1)), (5, .int (-1)), (4, .int be_47), (3, .int (nI (dn sn))), (0, .ref (a 0)), (1, .int (nI sn)), (2, .int p1)]) hx hb dX8_leastAll_125 hl (by decide) rfl (fun ls hl => ?_)
                        refine lv_iload hx hb dX8_leastAll_127 (lv_at hl 0 rfl) ?_
                        refine lv_if_lt (tgt := 149) hx hb dX8_leastAll_129 (by decide) (fun c_52 => ?_) (fun c_52 => ?_)
                        · refine lv_iload hx hb dX8_leastAll_149 (lv_at hl 5 rfl) ?_
                          refine lv_istore (lv' := [(4, .int be_47), (9, .int r_51), (8, .int (-1)), (7, .int (-1)), (6, .int (-1)), (5, .int (-1)), (3, .int (nI (dn sn))), (0, .ref (a 0)), (1, .int (nI sn)), (2, .int p1)]) hx hb dX8_leastAll_151 hl (by decide) rfl (fun ls hl => ?_)
                          refine lv_iinc (v := 0) (lv' := [(8, .int 0), (4, .int be_47), (9, .int r_51), (7, .int (-1)), (6, .int (-1)), (5, .int (-1)), (3, .int (nI (dn sn))), (0, .ref (a 0)), (1, .int (nI sn)), (2, .int p1)]) hx hb dX8_leastAll_153 hl (k := 2) rfl (by decide) (by decide) rfl (fun ls hl => ?_)
                          refine lv_goto (tgt := 75) hx hb dX8_leastAll_156 (by decide) ?_
                          exact ih_47 _ (1, be_47) _ _ _ (by omega) ⟨rfl, (by omega), hP, hS, (by rw [nI_pred]; exact lv_sub hl [0, 3, 4, 5, 1, 6, 7, 8, 9] rfl)⟩
                        · refine lv_iload hx hb dX8_leastAll_132 (lv_at hl 5 rfl) ?_
                          refine lv_if_lt (tgt := 144) hx hb dX8_leastAll_134 (by decide) (fun c_53 => ?_) (fun c_53 => ?_)
                          · refine lv_iload hx hb dX8_leastAll_144 (lv_at hl 0 rfl) ?_
                            refine lv_goto (tgt := 151) hx hb dX8_leastAll_146 (by decide) ?_
                            refine lv_istore (lv' := [(4, .int r_51), (9, .int r_51), (8, .int (-1)), (7, .int (-1)), (6, .int (-1)), (5, .int (-1)), (3, .int (nI (dn sn))), (0, .ref (a 0)), (1, .int (nI sn)), (2, .int p1)]) hx hb dX8_leastAll_151 hl (by decide) rfl (fun ls hl => ?_)
                            refine lv_iinc (v := 0) (lv' := [(8, .int 0), (4, .int r_51), (9, .int r_51), (7, .int (-1)), (6, .int (-1)), (5, .int (-1)), (3, .int (nI (dn sn))), (0, .ref (a 0)), (1, .int (nI sn)), (2, .int p1)]) hx hb dX8_leastAll_153 hl (k := 2) rfl (by decide) (by decide) rfl (fun ls hl => ?_)
                            refine lv_goto (tgt := 75) hx hb dX8_leastAll_156 (by decide) ?_
                            exact ih_47 _ (1, r_51) _ _ _ (by omega) ⟨rfl, (by omega), hP, hS, (by rw [nI_pred]; exact lv_sub hl [0, 3, 4, 5, 1, 6, 7, 8, 9] rfl)⟩
                          · refine lv_iload hx hb dX8_leastAll_137 (lv_at hl 0 rfl) ?_
                            refine lv_iload hx hb dX8_leastAll_139 (lv_at hl 5 rfl) ?_
                            refine lv_icmp_ge (tgt := 149) hx hb dX8_leastAll_141 (by decide) (fun c_54 => ?_) (fun c_54 => ?_)
                            · refine lv_iload hx hb dX8_leastAll_149 (lv_at hl 5 rfl) ?_
                              refine lv_istore (lv' := [(4, .int be_47), (9, .int r_51), (8, .int (-1)), (7, .int (-1)), (6, .int (-1)), (5, .int (-1)), (3, .int (nI (dn sn))), (0, .ref (a 0)), (1, .int (nI sn)), (2, .int p1)]) hx hb dX8_leastAll_151 hl (by decide) rfl (fun ls hl => ?_)
                              refine lv_iinc (v := 0) (lv' := [(8, .int 0), (4, .int be_47), (9, .int r_51), (7, .int (-1)), (6, .int (-1)), (5, .int (-1)), (3, .int (nI (dn sn))), (0, .ref (a 0)), (1, .int (nI sn)), (2, .int p1)]) hx hb dX8_leastAll_153 hl (k := 2) rfl (by decide) (by decide) rfl (fun ls hl => ?_)
                              refine lv_goto (tgt := 75) hx hb dX8_leastAll_156 (by decide) ?_
                              exact ih_47 _ (1, be_47) _ _ _ (by omega) ⟨rfl, (by omega), hP, hS, (by rw [nI_pred]; exact lv_sub hl [0, 3, 4, 5, 1, 6, 7, 8, 9] rfl)⟩
                            · refine lv_iload hx hb dX8_leastAll_144 (lv_at hl 0 rfl) ?_
                              refine lv_goto (tgt := 151) hx hb dX8_leastAll_146 (by decide) ?_
                              refine lv_istore (lv' := [(4, .int r_51), (9, .int r_51), (8, .int (-1)), (7, .int (-1)), (6, .int (-1)), (5, .int (-1)), (3, .int (nI (dn sn))), (0, .ref (a 0)), (1, .int (nI sn)), (2, .int p1)]) hx hb dX8_leastAll_151 hl (by decide) rfl (fun ls hl => ?_)
                              refine lv_iinc (v := 0) (lv' := [(8, .int 0), (4, .int r_51), (9, .int r_51), (7, .int (-1)), (6, .int (-1)), (5, .int (-1)), (3, .int (nI (dn sn))), (0, .ref (a 0)), (1, .int (nI sn)), (2, .int p1)]) hx hb dX8_leastAll_153 hl (k := 2) rfl (by decide) (by decide) rfl (fun ls hl => ?_)
                              refine lv_goto (tgt := 75) hx hb dX8_leastAll_156 (by decide) ?_
                              exact ih_47 _ (1, r_51) _ _ _ (by omega) ⟨rfl, (by omega), hP, hS, (by rw [nI_pred]; exact lv_sub hl [0, 3, 4, 5, 1, 6, 7, 8, 9] rfl)⟩
                    · have c_48 : ¬ (ca ≤ 3) := fun h => c_48 ((nI_leI (a := ca) (b := 3) (by omega) (by omega)).mpr h)
                      refine lv_iload_n hx hb dX8_leastAll_85 rfl (lv_at hl 5 rfl) ?_
                      refine lv_goto (tgt := 90) hx hb dX8_leastAll_86 (by decide) ?_
                      refine lv_icmp_ge (tgt := 159) hx hb dX8_leastAll_90 (by decide) (fun c_55 => ?_) (fun c_55 => ?_)
                      · refine lv_iinc (v := 0) (lv' := [(7, .int 0), (8, .int (-1)), (6, .int (-1)), (5, .int (-1)), (4, .int be_47), (3, .int (nI (dn sn))), (0, .ref (a 0)), (1, .int (nI sn)), (2, .int p1)]) hx hb dX8_leastAll_159 hl (k := 1) rfl (by decide) (by decide) rfl (fun ls hl => ?_)
                        refine lv_goto (tgt := 54) hx hb dX8_leastAll_162 (by decide) ?_
                        exact ih_21 _ (1, be_47) _ _ _ (by omega) ⟨rfl, (by omega), hP, hS, (by rw [nI_pred]; exact lv_sub hl [0, 2, 3, 4, 5, 6, 7, 8] rfl)⟩
                      · refine lv_iload_n hx hb dX8_leastAll_93 rfl (lv_at hl 8 rfl) ?_
                        refine lv_iload hx hb dX8_leastAll_94 (lv_at hl 3 rfl) ?_
                        refine lv_iload hx hb dX8_leastAll_96 (lv_at hl 2 rfl) ?_
                        refine lv_iload hx hb dX8_leastAll_98 (lv_at hl 1 rfl) ?_
                        refine lv_iload hx hb dX8_leastAll_100 (lv_at hl 0 rfl) ?_
                        refine ro_i (D := D) (va_runS (As := [.int p1, .int (-1), .int (-1), .int (-1), .int (-1)]) (rest := []) ⟨hx, hb, hml, hown, hts⟩ ((m_canAll l D k st lo p1 (-1) (-1) (-1) (-1)) H.size) (va_cwS 5 hts (gS tw_1450 tw_1451 tw_87 tw_1452) rfl rfl rfl (by decide +kernel) ⟨Nat.le_of_ble_eq_true rfl, Nat.le_of_ble_eq_true rfl⟩) (pS hS hAlo hlo hP hK hDL hZ [] (by decide) rfl) rfl rfl hl.1 rfl (lv_room (Nat.le_of_ble_eq_true rfl)) dX8_leastAll_102 ⟨Nat.le_of_ble_eq_true rfl, Nat.le_of_ble_eq_true rfl⟩) hS hA hP (fun r_56 H locs hw_56 hP hS => ?_)
                        try dsimp only at hw_56
                        refine lv_if_eq (tgt := 124) hx hb dX8_leastAll_105 (by decide) (fun c_57 => ?_) (fun c_57 => ?_)
                        · refine lv_iconst (v := (-1)) hx hb dX8_leastAll_124 (by decide) ?_
                          refine lv_istore (lv' := [(9, .int (-1)), (8, .int (-1)), (7, .int (-1)), (6, .int (-1)), (5, .int (-1)), (4, .int be_47), (3, .int (nI (dn sn))), (0, .ref (a 0)), (1, .int (nI sn)), (2, .int p1)]) hx hb dX8_leastAll_125 hl (by decide) rfl (fun ls hl => ?_)
                          refine lv_iload hx hb dX8_leastAll_127 (lv_at hl 0 rfl) ?_
                          refine lv_if_lt (tgt := 149) hx hb dX8_leastAll_129 (by decide) (fun _ => ?_) (fun h => absurd (by decide) h)
                          refine lv_iload hx hb dX8_leastAll_149 (lv_at hl 5 rfl) ?_
                          refine lv_istore (lv' := [(4, .int be_47), (9, .int (-1)), (8, .int (-1)), (7, .int (-1)), (6, .int (-1)), (5, .int (-1)), (3, .int (nI (dn sn))), (0, .ref (a 0)), (1, .int (nI sn)), (2, .int p1)]) hx hb dX8_leastAll_151 hl (by decide) rfl (fun ls hl => ?_)
                          refine lv_iinc (v := 0) (lv' := [(8, .int 0), (4, .int be_47), (9, .int (-1)), (7, .int (-1)), (6, .int (-1)), (5, .int (-1)), (3, .int (nI (dn sn))), (0, .ref (a 0)), (1, .int (nI sn)), (2, .int p1)]) hx hb dX8_leastAll_153 hl (k := 2) rfl (by decide) (by decide) rfl (fun ls hl => ?_)
                          refine lv_goto (tgt := 75) hx hb dX8_leastAll_156 (by decide) ?_
                          exact ih_47 _ (1, be_47) _ _ _ (by omega) ⟨rfl, (by omega), hP, hS, (by rw [nI_pred]; exact lv_sub hl [0, 3, 4, 5, 1, 6, 7, 8, 9] rfl)⟩
                        · refine lv_aload_n hx hb dX8_leastAll_108 rfl (lv_at hl 6 rfl) ?_
                          refine lv_iload_n hx hb dX8_leastAll_109 rfl (lv_at hl 7 rfl) ?_
                          refine lv_iload hx hb dX8_leastAll_110 (lv_at hl 3 rfl) ?_
                          refine lv_iload hx hb dX8_leastAll_112 (lv_at hl 2 rfl) ?_
                          refine lv_iload hx hb dX8_leastAll_114 (lv_at hl 1 rfl) ?_
                          refine lv_iload hx hb dX8_leastAll_116 (lv_at hl 0 rfl) ?_
                          refine ro_i (D := D) (va_runV (As := [.int (nI sn), .int (-1), .int (-1), .int (-1), .int (-1)]) (rest := []) ⟨hx, hb, hml, hown, hts⟩ ((m_sumAll l D k st lo a tx t0 we rd ru rw ca fp wd nu na ts df db sd dn se tm gs fprices fwalks sn (-1) (-1) (-1) (-1) (by omega) (by omega) (.inl (by decide)) (.inl (by decide)) (.inl (by decide)) (.inl (by decide))) H.size) (cwV 5 hts (gV tw_1459 tw_1461 tw_75 tw_87 tw_1462) rfl rfl rfl (by decide +kernel) ⟨Nat.le_of_ble_eq_true rfl, Nat.le_of_ble_eq_true rfl⟩) (pV hS hAlo hlo hP hK hDL hZ [0, 1, 2, 3, 4] (by decide) rfl (ci := 8) (q := (RX8, TX8, 44)) (q0 := 0) rfl rfl) rfl rfl hl.1 rfl (lv_room (Nat.le_of_ble_eq_true rfl)) dX8_leastAll_118 ⟨Nat.le_of_ble_eq_true rfl, Nat.le_of_ble_eq_true rfl⟩) hS hA hP (fun r_58 H locs hw_58 hP hS => ?_)
                          try dsimp only at hw_58
                          refine lv_goto (tgt := 125) hx hb dX8_leastAll_121 (by decide) ?_
                          refine lv_istore (lv' := [(9, .int r_58), (8, .int (-1)), (7, .int (-1)), (6, .int (-1)), (5, .int (-1)), (4, .int be_47), (3, .int (nI (dn sn))), (0, .ref (a 0)), (1, .int (nI sn)), (2, .int p1)]) hx hb dX8_leastAll_125 hl (by decide) rfl (fun ls hl => ?_)
                          refine lv_iload hx hb dX8_leastAll_127 (lv_at hl 0 rfl) ?_
                          refine lv_if_lt (tgt := 149) hx hb dX8_leastAll_129 (by decide) (fun c_59 => ?_) (fun c_59 => ?_)
                          · refine lv_iload hx hb dX8_leastAll_149 (lv_at hl 5 rfl) ?_
                            refine lv_istore (lv' := [(4, .int be_47), (9, .int r_58), (8, .int (-1)), (7, .int (-1)), (6, .int (-1)), (5, .int (-1)), (3, .int (nI (dn sn))), (0, .ref (a 0)), (1, .int (nI sn)), (2, .int p1)]) hx hb dX8_leastAll_151 hl (by decide) rfl (fun ls hl => ?_)
                            refine lv_iinc (v := 0) (lv' := [(8, .int 0), (4, .int be_47), (9, .int r_58), (7, .int (-1)), (6, .int (-1)), (5, .int (-1)), (3, .int (nI (dn sn))), (0, .ref (a 0)), (1, .int (nI sn)), (2, .int p1)]) hx hb dX8_leastAll_153 hl (k := 2) rfl (by decide) (by decide) rfl (fun ls hl => ?_)
                            refine lv_goto (tgt := 75) hx hb dX8_leastAll_156 (by decide) ?_
                            exact ih_47 _ (1, be_47) _ _ _ (by omega) ⟨rfl, (by omega), hP, hS, (by rw [nI_pred]; exact lv_sub hl [0, 3, 4, 5, 1, 6, 7, 8, 9] rfl)⟩
                          · refine lv_iload hx hb dX8_leastAll_132 (lv_at hl 5 rfl) ?_
                            refine lv_if_lt (tgt := 144) hx hb dX8_leastAll_134 (by decide) (fun c_60 => ?_) (fun c_60 => ?_)
                            · refine lv_iload hx hb dX8_leastAll_144 (lv_at hl 0 rfl) ?_
                              refine lv_goto (tgt := 151) hx hb dX8_leastAll_146 (by decide) ?_
                              refine lv_istore (lv' := [(4, .int r_58), (9, .int r_58), (8, .int (-1)), (7, .int (-1)), (6, .int (-1)), (5, .int (-1)), (3, .int (nI (dn sn))), (0, .ref (a 0)), (1, .int (nI sn)), (2, .int p1)]) hx hb dX8_leastAll_151 hl (by decide) rfl (fun ls hl => ?_)
                              refine lv_iinc (v := 0) (lv' := [(8, .int 0), (4, .int r_58), (9, .int r_58), (7, .int (-1)), (6, .int (-1)), (5, .int (-1)), (3, .int (nI (dn sn))), (0, .ref (a 0)), (1, .int (nI sn)), (2, .int p1)]) hx hb dX8_leastAll_153 hl (k := 2) rfl (by decide) (by decide) rfl (fun ls hl => ?_)
                              refine lv_goto (tgt := 75) hx hb dX8_leastAll_156 (by decide) ?_
                              exact ih_47 _ (1, r_58) _ _ _ (by omega) ⟨rfl, (by omega), hP, hS, (by rw [nI_pred]; exact lv_sub hl [0, 3, 4, 5, 1, 6, 7, 8, 9] rfl)⟩
                            · refine lv_iload hx hb dX8_leastAll_137 (lv_at hl 0 rfl) ?_
                              refine lv_iload hx hb dX8_leastAll_139 (lv_at hl 5 rfl) ?_
                              refine lv_icmp_ge (tgt := 149) hx hb dX8_leastAll_141 (by decide) (fun c_61 => ?_) (fun c_61 => ?_)
                              · refine lv_iload hx hb dX8_leastAll_149 (lv_at hl 5 rfl) ?_
                                refine lv_istore (lv' := [(4, .int be_47), (9, .int r_58), (8, .int (-1)), (7, .int (-1)), (6, .int (-1)), (5, .int (-1)), (3, .int (nI (dn sn))), (0, .ref (a 0)), (1, .int (nI sn)), (2, .int p1)]) hx hb dX8_leastAll_151 hl (by decide) rfl (fun ls hl => ?_)
                                refine lv_iinc (v := 0) (lv' := [(8, .int 0), (4, .int be_47), (9, .int r_58), (7, .int (-1)), (6, .int (-1)), (5, .int (-1)), (3, .int (nI (dn sn))), (0, .ref (a 0)), (1, .int (nI sn)), (2, .int p1)]) hx hb dX8_leastAll_153 hl (k := 2) rfl (by decide) (by decide) rfl (fun ls hl => ?_)
                                refine lv_goto (tgt := 75) hx hb dX8_leastAll_156 (by decide) ?_
                                exact ih_47 _ (1, be_47) _ _ _ (by omega) ⟨rfl, (by omega), hP, hS, (by rw [nI_pred]; exact lv_sub hl [0, 3, 4, 5, 1, 6, 7, 8, 9] rfl)⟩
                              · refine lv_iload hx hb dX8_leastAll_144 (lv_at hl 0 rfl) ?_
                                refine lv_goto (tgt := 151) hx hb dX8_leastAll_146 (by decide) ?_
                                refine lv_istore (lv' := [(4, .int r_58), (9, .int r_58), (8, .int (-1)), (7, .int (-1)), (6, .int (-1)), (5, .int (-1)), (3, .int (nI (dn sn))), (0, .ref (a 0)), (1, .int (nI sn)), (2, .int p1)]) hx hb dX8_leastAll_151 hl (by decide) rfl (fun ls hl => ?_)
                                refine lv_iinc (v := 0) (lv' := [(8, .int 0), (4, .int r_58), (9, .int r_58), (7, .int (-1)), (6, .int (-1)), (5, .int (-1)), (3, .int (nI (dn sn))), (0, .ref (a 0)), (1, .int (nI sn)), (2, .int p1)]) hx hb dX8_leastAll_153 hl (k := 2) rfl (by decide) (by decide) rfl (fun ls hl => ?_)
                                refine lv_goto (tgt := 75) hx hb dX8_leastAll_156 (by decide) ?_
                                exact ih_47 _ (1, r_58) _ _ _ (by omega) ⟨rfl, (by omega), hP, hS, (by rw [nI_pred]; exact lv_sub hl [0, 3, 4, 5, 1, 6, 7, 8, 9] rfl)⟩
                  · rw [nI_pred] at hl
                    refine lv_iload hx hb dX8_leastAll_75 (lv_at hl 0 rfl) ?_
                    refine lv_aload_n hx hb dX8_leastAll_77 rfl (lv_at hl 6 rfl) ?_
                    refine va_get (D := D) (ci := 8) (v := .int (nI ca)) (C := RX8) (T := TX8) (N := 44) hx hb hts inX8 hown hK hP 0 rfl rfl 34 (by decide) (hts _ tw_1007) (fun _ h9 => h9) rfl dX8_leastAll_78 ?_
                    refine lv_iconst (v := 3) hx hb dX8_leastAll_81 (by decide) ?_
                    refine lv_icmp_le (tgt := 89) hx hb dX8_leastAll_82 (by decide) (fun c_62 => ?_) (fun c_62 => ?_)
                    · have c_62 := (nI_leI (a := ca) (b := 3) (by omega) (by omega)).mp c_62
                      refine lv_iconst (v := 0) hx hb dX8_leastAll_89 (by decide) ?_
                      refine lv_icmp_ge (tgt := 159) hx hb dX8_leastAll_90 (by decide) (fun _ => ?_) (fun h => absurd (nI_ge0 (by omega)) h)
                      refine lv_iinc (v := 0) (lv' := [(7, .int 0), (8, .int (nI q8_47)), (6, .int (-1)), (5, .int (-1)), (4, .int be_47), (3, .int (nI (dn sn))), (0, .ref (a 0)), (1, .int (nI sn)), (2, .int p1)]) hx hb dX8_leastAll_159 hl (k := 1) rfl (by decide) (by decide) rfl (fun ls hl => ?_)
                      refine lv_goto (tgt := 54) hx hb dX8_leastAll_162 (by decide) ?_
                      exact ih_21 _ (1, be_47) _ _ _ (by omega) ⟨rfl, (by omega), hP, hS, (by rw [nI_pred]; exact lv_sub hl [0, 2, 3, 4, 5, 6, 7, 8] rfl)⟩
                    · have c_62 : ¬ (ca ≤ 3) := fun h => c_62 ((nI_leI (a := ca) (b := 3) (by omega) (by omega)).mpr h)
                      refine lv_iload_n hx hb dX8_leastAll_85 rfl (lv_at hl 5 rfl) ?_
                      refine lv_goto (tgt := 90) hx hb dX8_leastAll_86 (by decide) ?_
                      refine lv_icmp_ge (tgt := 159) hx hb dX8_leastAll_90 (by decide) (fun c_63 => ?_) (fun c_63 => ?_)
                      · have c_63 := (nI_leI (a := (dn sn)) (b := q8_47) (by omega) (by omega)).mp c_63
                        refine lv_iinc (v := 0) (lv' := [(7, .int 0), (8, .int (nI q8_47)), (6, .int (-1)), (5, .int (-1)), (4, .int be_47), (3, .int (nI (dn sn))), (0, .ref (a 0)), (1, .int (nI sn)), (2, .int p1)]) hx hb dX8_leastAll_159 hl (k := 1) rfl (by decide) (by decide) rfl (fun ls hl => ?_)
                        refine lv_goto (tgt := 54) hx hb dX8_leastAll_162 (by decide) ?_
                        exact ih_21 _ (1, be_47) _ _ _ (by omega) ⟨rfl, (by omega), hP, hS, (by rw [nI_pred]; exact lv_sub hl [0, 2, 3, 4, 5, 6, 7, 8] rfl)⟩
                      · have c_63 : ¬ ((dn sn) ≤ q8_47) := fun h => c_63 ((nI_leI (a := (dn sn)) (b := q8_47) (by omega) (by omega)).mpr h)
                        refine lv_iload_n hx hb dX8_leastAll_93 rfl (lv_at hl 8 rfl) ?_
                        refine lv_iload hx hb dX8_leastAll_94 (lv_at hl 3 rfl) ?_
                        refine lv_iload hx hb dX8_leastAll_96 (lv_at hl 2 rfl) ?_
                        refine lv_iload hx hb dX8_leastAll_98 (lv_at hl 1 rfl) ?_
                        refine lv_iload hx hb dX8_leastAll_100 (lv_at hl 0 rfl) ?_
                        refine ro_i (D := D) (va_runS (As := [.int p1, .int (-1), .int (-1), .int (-1), .int (nI q8_47)]) (rest := []) ⟨hx, hb, hml, hown, hts⟩ ((m_canAll l D k st lo p1 (-1) (-1) (-1) (nI q8_47)) H.size) (va_cwS 5 hts (gS tw_1450 tw_1451 tw_87 tw_1452) rfl rfl rfl (by decide +kernel) ⟨Nat.le_of_ble_eq_true rfl, Nat.le_of_ble_eq_true rfl⟩) (pS hS hAlo hlo hP hK hDL hZ [] (by decide) rfl) rfl rfl hl.1 rfl (lv_room (Nat.le_of_ble_eq_true rfl)) dX8_leastAll_102 ⟨Nat.le_of_ble_eq_true rfl, Nat.le_of_ble_eq_true rfl⟩) hS hA hP (fun r_64 H locs hw_64 hP hS => ?_)
                        try dsimp only at hw_64
                        refine lv_if_eq (tgt := 124) hx hb dX8_leastAll_105 (by decide) (fun c_65 => ?_) (fun c_65 => ?_)
                        · refine lv_iconst (v := (-1)) hx hb dX8_leastAll_124 (by decide) ?_
                          refine lv_istore (lv' := [(9, .int (-1)), (8, .int (nI q8_47)), (7, .int (-1)), (6, .int (-1)), (5, .int (-1)), (4, .int be_47), (3, .int (nI (dn sn))), (0, .ref (a 0)), (1, .int (nI sn)), (2, .int p1)]) hx hb dX8_leastAll_125 hl (by decide) rfl (fun ls hl => ?_)
                          refine lv_iload hx hb dX8_leastAll_127 (lv_at hl 0 rfl) ?_
                          refine lv_if_lt (tgt := 149) hx hb dX8_leastAll_129 (by decide) (fun _ => ?_) (fun h => absurd (by decide) h)
                          refine lv_iload hx hb dX8_leastAll_149 (lv_at hl 5 rfl) ?_
                          refine lv_istore (lv' := [(4, .int be_47), (9, .int (-1)), (8, .int (nI q8_47)), (7, .int (-1)), (6, .int (-1)), (5, .int (-1)), (3, .int (nI (dn sn))), (0, .ref (a 0)), (1, .int (nI sn)), (2, .int p1)]) hx hb dX8_leastAll_151 hl (by decide) rfl (fun ls hl => ?_)
                          refine lv_iinc (v := (nI (q8_47 + 1))) (lv' := [(8, .int (nI (q8_47 + 1))), (4, .int be_47), (9, .int (-1)), (7, .int (-1)), (6, .int (-1)), (5, .int (-1)), (3, .int (nI (dn sn))), (0, .ref (a 0)), (1, .int (nI sn)), (2, .int p1)]) hx hb dX8_leastAll_153 hl (k := 2) rfl (nI_add q8_47 1) (by decide) rfl (fun ls hl => ?_)
                          refine lv_goto (tgt := 75) hx hb dX8_leastAll_156 (by decide) ?_
                          exact ih_47 _ (q8_47 + 1 + 1, be_47) _ _ _ (by omega) ⟨rfl, (by omega), hP, hS, (by rw [nI_pred]; exact lv_sub hl [0, 3, 4, 5, 1, 6, 7, 8, 9] rfl)⟩
                        · refine lv_aload_n hx hb dX8_leastAll_108 rfl (lv_at hl 6 rfl) ?_
                          refine lv_iload_n hx hb dX8_leastAll_109 rfl (lv_at hl 7 rfl) ?_
                          refine lv_iload hx hb dX8_leastAll_110 (lv_at hl 3 rfl) ?_
                          refine lv_iload hx hb dX8_leastAll_112 (lv_at hl 2 rfl) ?_
                          refine lv_iload hx hb dX8_leastAll_114 (lv_at hl 1 rfl) ?_
                          refine lv_iload hx hb dX8_leastAll_116 (lv_at hl 0 rfl) ?_
                          refine ro_i (D := D) (va_runV (As := [.int (nI sn), .int (-1), .int (-1), .int (-1), .int (nI q8_47)]) (rest := []) ⟨hx, hb, hml, hown, hts⟩ ((m_sumAll l D k st lo a tx t0 we rd ru rw ca fp wd nu na ts df db sd dn se tm gs fprices fwalks sn (-1) (-1) (-1) (nI q8_47) (by omega) (by omega) (.inl (by decide)) (.inl (by decide)) (.inl (by decide)) (.inr ⟨q8_47, by omega, rfl⟩)) H.size) (cwV 5 hts (gV tw_1459 tw_1461 tw_75 tw_87 tw_1462) rfl rfl rfl (by decide +kernel) ⟨Nat.le_of_ble_eq_true rfl, Nat.le_of_ble_eq_true rfl⟩) (pV hS hAlo hlo hP hK hDL hZ [0, 1, 2, 3, 4] (by decide) rfl (ci := 8) (q := (RX8, TX8, 44)) (q0 := 0) rfl rfl) rfl rfl hl.1 rfl (lv_room (Nat.le_of_ble_eq_true rfl)) dX8_leastAll_118 ⟨Nat.le_of_ble_eq_true rfl, Nat.le_of_ble_eq_true rfl⟩) hS hA hP (fun r_66 H locs hw_66 hP hS => ?_)
                          try dsimp only at hw_66
                          refine lv_goto (tgt := 125) hx hb dX8_leastAll_121 (by decide) ?_
                          refine lv_istore (lv' := [(9, .int r_66), (8, .int (nI q8_47)), (7, .int (-1)), (6, .int (-1)), (5, .int (-1)), (4, .int be_47), (3, .int (nI (dn sn))), (0, .ref (a 0)), (1, .int (nI sn)), (2, .int p1)]) hx hb dX8_leastAll_125 hl (by decide) rfl (fun ls hl => ?_)
                          refine lv_iload hx hb dX8_leastAll_127 (lv_at hl 0 rfl) ?_
                          refine lv_if_lt (tgt := 149) hx hb dX8_leastAll_129 (by decide) (fun c_67 => ?_) (fun c_67 => ?_)
                          · refine lv_iload hx hb dX8_leastAll_149 (lv_at hl 5 rfl) ?_
                            refine lv_istore (lv' := [(4, .int be_47), (9, .int r_66), (8, .int (nI q8_47)), (7, .int (-1)), (6, .int (-1)), (5, .int (-1)), (3, .int (nI (dn sn))), (0, .ref (a 0)), (1, .int (nI sn)), (2, .int p1)]) hx hb dX8_leastAll_151 hl (by decide) rfl (fun ls hl => ?_)
                            refine lv_iinc (v := (nI (q8_47 + 1))) (lv' := [(8, .int (nI (q8_47 + 1))), (4, .int be_47), (9, .int r_66), (7, .int (-1)), (6, .int (-1)), (5, .int (-1)), (3, .int (nI (dn sn))), (0, .ref (a 0)), (1, .int (nI sn)), (2, .int p1)]) hx hb dX8_leastAll_153 hl (k := 2) rfl (nI_add q8_47 1) (by decide) rfl (fun ls hl => ?_)
                            refine lv_goto (tgt := 75) hx hb dX8_leastAll_156 (by decide) ?_
                            exact ih_47 _ (q8_47 + 1 + 1, be_47) _ _ _ (by omega) ⟨rfl, (by omega), hP, hS, (by rw [nI_pred]; exact lv_sub hl [0, 3, 4, 5, 1, 6, 7, 8, 9] rfl)⟩
                          · refine lv_iload hx hb dX8_leastAll_132 (lv_at hl 5 rfl) ?_
                            refine lv_if_lt (tgt := 144) hx hb dX8_leastAll_134 (by decide) (fun c_68 => ?_) (fun c_68 => ?_)
                            · refine lv_iload hx hb dX8_leastAll_144 (lv_at hl 0 rfl) ?_
                              refine lv_goto (tgt := 151) hx hb dX8_leastAll_146 (by decide) ?_
                              refine lv_istore (lv' := [(4, .int r_66), (9, .int r_66), (8, .int (nI q8_47)), (7, .int (-1)), (6, .int (-1)), (5, .int (-1)), (3, .int (nI (dn sn))), (0, .ref (a 0)), (1, .int (nI sn)), (2, .int p1)]) hx hb dX8_leastAll_151 hl (by decide) rfl (fun ls hl => ?_)
                              refine lv_iinc (v := (nI (q8_47 + 1))) (lv' := [(8, .int (nI (q8_47 + 1))), (4, .int r_66), (9, .int r_66), (7, .int (-1)), (6, .int (-1)), (5, .int (-1)), (3, .int (nI (dn sn))), (0, .ref (a 0)), (1, .int (nI sn)), (2, .int p1)]) hx hb dX8_leastAll_153 hl (k := 2) rfl (nI_add q8_47 1) (by decide) rfl (fun ls hl => ?_)
                              refine lv_goto (tgt := 75) hx hb dX8_leastAll_156 (by decide) ?_
                              exact ih_47 _ (q8_47 + 1 + 1, r_66) _ _ _ (by omega) ⟨rfl, (by omega), hP, hS, (by rw [nI_pred]; exact lv_sub hl [0, 3, 4, 5, 1, 6, 7, 8, 9] rfl)⟩
                            · refine lv_iload hx hb dX8_leastAll_137 (lv_at hl 0 rfl) ?_
                              refine lv_iload hx hb dX8_leastAll_139 (lv_at hl 5 rfl) ?_
                              refine lv_icmp_ge (tgt := 149) hx hb dX8_leastAll_141 (by decide) (fun c_69 => ?_) (fun c_69 => ?_)
                              · refine lv_iload hx hb dX8_leastAll_149 (lv_at hl 5 rfl) ?_
                                refine lv_istore (lv' := [(4, .int be_47), (9, .int r_66), (8, .int (nI q8_47)), (7, .int (-1)), (6, .int (-1)), (5, .int (-1)), (3, .int (nI (dn sn))), (0, .ref (a 0)), (1, .int (nI sn)), (2, .int p1)]) hx hb dX8_leastAll_151 hl (by decide) rfl (fun ls hl => ?_)
                                refine lv_iinc (v := (nI (q8_47 + 1))) (lv' := [(8, .int (nI (q8_47 + 1))), (4, .int be_47), (9, .int r_66), (7, .int (-1)), (6, .int (-1)), (5, .int (-1)), (3, .int (nI (dn sn))), (0, .ref (a 0)), (1, .int (nI sn)), (2, .int p1)]) hx hb dX8_leastAll_153 hl (k := 2) rfl (nI_add q8_47 1) (by decide) rfl (fun ls hl => ?_)
                                refine lv_goto (tgt := 75) hx hb dX8_leastAll_156 (by decide) ?_
                                exact ih_47 _ (q8_47 + 1 + 1, be_47) _ _ _ (by omega) ⟨rfl, (by omega), hP, hS, (by rw [nI_pred]; exact lv_sub hl [0, 3, 4, 5, 1, 6, 7, 8, 9] rfl)⟩
                              · refine lv_iload hx hb dX8_leastAll_144 (lv_at hl 0 rfl) ?_
                                refine lv_goto (tgt := 151) hx hb dX8_leastAll_146 (by decide) ?_
                                refine lv_istore (lv' := [(4, .int r_66), (9, .int r_66), (8, .int (nI q8_47)), (7, .int (-1)), (6, .int (-1)), (5, .int (-1)), (3, .int (nI (dn sn))), (0, .ref (a 0)), (1, .int (nI sn)), (2, .int p1)]) hx hb dX8_leastAll_151 hl (by decide) rfl (fun ls hl => ?_)
                                refine lv_iinc (v := (nI (q8_47 + 1))) (lv' := [(8, .int (nI (q8_47 + 1))), (4, .int r_66), (9, .int r_66), (7, .int (-1)), (6, .int (-1)), (5, .int (-1)), (3, .int (nI (dn sn))), (0, .ref (a 0)), (1, .int (nI sn)), (2, .int p1)]) hx hb dX8_leastAll_153 hl (k := 2) rfl (nI_add q8_47 1) (by decide) rfl (fun ls hl => ?_)
                                refine lv_goto (tgt := 75) hx hb dX8_leastAll_156 (by decide) ?_
                                exact ih_47 _ (q8_47 + 1 + 1, r_66) _ _ _ (by omega) ⟨rfl, (by omega), hP, hS, (by rw [nI_pred]; exact lv_sub hl [0, 3, 4, 5, 1, 6, 7, 8, 9] rfl)⟩
            · rw [nI_pred] at hl
              refine lv_iload hx hb dX8_leastAll_54 (lv_at hl 0 rfl) ?_
              refine lv_aload_n hx hb dX8_leastAll_56 rfl (lv_at hl 5 rfl) ?_
              refine va_get (D := D) (ci := 8) (v := .int (nI ca)) (C := RX8) (T := TX8) (N := 44) hx hb hts inX8 hown hK hP 0 rfl rfl 34 (by decide) (hts _ tw_1007) (fun _ h9 => h9) rfl dX8_leastAll_57 ?_
              refine lv_iconst (v := 2) hx hb dX8_leastAll_60 (by decide) ?_
              refine lv_icmp_le (tgt := 68) hx hb dX8_leastAll_61 (by decide) (fun c_70 => ?_) (fun c_70 => ?_)
              · have c_70 := (nI_leI (a := ca) (b := 2) (by omega) (by omega)).mp c_70
                refine lv_iconst (v := 0) hx hb dX8_leastAll_68 (by decide) ?_
                refine lv_icmp_ge (tgt := 165) hx hb dX8_leastAll_69 (by decide) (fun _ => ?_) (fun h => absurd (nI_ge0 (by omega)) h)
                refine lv_iinc (v := 0) (lv' := [(6, .int 0), (7, .int (nI q7_21)), (5, .int (-1)), (4, .int be_21), (3, .int (nI (dn sn))), (0, .ref (a 0)), (1, .int (nI sn)), (2, .int p1)]) hx hb dX8_leastAll_165 hl (k := 1) rfl (by decide) (by decide) rfl (fun ls hl => ?_)
                refine lv_goto (tgt := 33) hx hb dX8_leastAll_168 (by decide) ?_
                exact ih_19 _ (1, be_21) _ _ _ (by omega) ⟨rfl, (by omega), hP, hS, (by rw [nI_pred]; exact lv_sub hl [0, 2, 3, 4, 5, 6, 7] rfl)⟩
              · have c_70 : ¬ (ca ≤ 2) := fun h => c_70 ((nI_leI (a := ca) (b := 2) (by omega) (by omega)).mpr h)
                refine lv_iload_n hx hb dX8_leastAll_64 rfl (lv_at hl 4 rfl) ?_
                refine lv_goto (tgt := 69) hx hb dX8_leastAll_65 (by decide) ?_
                refine lv_icmp_ge (tgt := 165) hx hb dX8_leastAll_69 (by decide) (fun c_71 => ?_) (fun c_71 => ?_)
                · have c_71 := (nI_leI (a := (dn sn)) (b := q7_21) (by omega) (by omega)).mp c_71
                  refine lv_iinc (v := 0) (lv' := [(6, .int 0), (7, .int (nI q7_21)), (5, .int (-1)), (4, .int be_21), (3, .int (nI (dn sn))), (0, .ref (a 0)), (1, .int (nI sn)), (2, .int p1)]) hx hb dX8_leastAll_165 hl (k := 1) rfl (by decide) (by decide) rfl (fun ls hl => ?_)
                  refine lv_goto (tgt := 33) hx hb dX8_leastAll_168 (by decide) ?_
                  exact ih_19 _ (1, be_21) _ _ _ (by omega) ⟨rfl, (by omega), hP, hS, (by rw [nI_pred]; exact lv_sub hl [0, 2, 3, 4, 5, 6, 7] rfl)⟩
                · have c_71 : ¬ ((dn sn) ≤ q7_21) := fun h => c_71 ((nI_leI (a := (dn sn)) (b := q7_21) (by omega) (by omega)).mpr h)
                  refine lv_iconst (v := (-1)) hx hb dX8_leastAll_72 (by decide) ?_
                  refine lv_istore (lv' := [(8, .int (-1)), (7, .int (nI q7_21)), (6, .int (-1)), (5, .int (-1)), (4, .int be_21), (3, .int (nI (dn sn))), (0, .ref (a 0)), (1, .int (nI sn)), (2, .int p1)]) hx hb dX8_leastAll_73 hl (by decide) rfl (fun ls hl => ?_)
                  refine W_loop (σ := Nat × Int32) (fun (n_ : Nat) (x_ : Nat × Int32) (H : Heap) (locs : List Loc) (ls : Array Slot) => match x_ with | (q8_72, be_72) => n_ = 26 - q8_72 ∧ (q8_72 ≤ 25) ∧ va_P D classes [((a 0), .inr (8, (fX8 a (nI tx) fp (nI t0) wd (nI we) nu na (nI rd) ts (nI ru) (nI rw) (nI ca) df db sd))), (aI k (a 1) 3 (nF dn)), (aI k (a 4) 27 (sg se tm gs)), (aI k (a 3) 72 fprices), (aI k (a 36) 4 fwalks)] H ∧ va_S (fun q : Nat => s.heap.size ≤ q) s.heap H locs ∧ lv_has ls 10 [(8, .int (nI q8_72 - 1)), (7, .int (nI q7_21)), (6, .int (-1)), (5, .int (-1)), (4, .int be_72), (3, .int (nI (dn sn))), (0, .ref (a 0)), (1, .int (nI sn)), (2, .int p1)]) (fun n_72 x_72 H locs ls hI ih_72 => ?_) _ (0, be_21) ⟨rfl, (by omega), hP, hS, (by rw [dn0]; exact lv_sub hl [0, 1, 2, 3, 4, 5, 6, 7, 8] rfl)⟩
                  obtain ⟨q8_72, be_72⟩ := x_72
                  obtain ⟨hm_72, hv_72, hP, hS, hl⟩ := hI
                  subst hm_72
                  rcases q8_72 with _ | q8_72
                  · rw [dn0] at hl
                    refine lv_iload hx hb dX8_leastAll_75 (lv_at hl 0 rfl) ?_
                    refine lv_aload_n hx hb dX8_leastAll_77 rfl (lv_at hl 6 rfl) ?_
                    refine va_get (D := D) (ci := 8) (v := .int (nI ca)) (C := RX8) (T := TX8) (N := 44) hx hb hts inX8 hown hK hP 0 rfl rfl 34 (by decide) (hts _ tw_1007) (fun _ h9 => h9) rfl dX8_leastAll_78 ?_
                    refine lv_iconst (v := 3) hx hb dX8_leastAll_81 (by decide) ?_
                    refine lv_icmp_le (tgt := 89) hx hb dX8_leastAll_82 (by decide) (fun c_73 => ?_) (fun c_73 => ?_)
                    · have c_73 := (nI_leI (a := ca) (b := 3) (by omega) (by omega)).mp c_73
                      refine lv_iconst (v := 0) hx hb dX8_leastAll_89 (by decide) ?_
                      refine lv_icmp_ge (tgt := 159) hx hb dX8_leastAll_90 (by decide) (fun h => absurd h (by decide)) (fun _ => ?_)
                      refine lv_iload_n hx hb dX8_leastAll_93 rfl (lv_at hl 8 rfl) ?_
                      refine lv_iload hx hb dX8_leastAll_94 (lv_at hl 3 rfl) ?_
                      refine lv_iload hx hb dX8_leastAll_96 (lv_at hl 2 rfl) ?_
                      refine lv_iload hx hb dX8_leastAll_98 (lv_at hl 1 rfl) ?_
                      refine lv_iload hx hb dX8_leastAll_100 (lv_at hl 0 rfl) ?_
                      refine ro_i (D := D) (va_runS (As := [.int p1, .int (-1), .int (-1), .int (nI q7_21), .int (-1)]) (rest := []) ⟨hx, hb, hml, hown, hts⟩ ((m_canAll l D k st lo p1 (-1) (-1) (nI q7_21) (-1)) H.size) (va_cwS 5 hts (gS tw_1450 tw_1451 tw_87 tw_1452) rfl rfl rfl (by decide +kernel) ⟨Nat.le_of_ble_eq_true rfl, Nat.le_of_ble_eq_true rfl⟩) (pS hS hAlo hlo hP hK hDL hZ [] (by decide) rfl) rfl rfl hl.1 rfl (lv_room (Nat.le_of_ble_eq_true rfl)) dX8_leastAll_102 ⟨Nat.le_of_ble_eq_true rfl, Nat.le_of_ble_eq_true rfl⟩) hS hA hP (fun r_74 H locs hw_74 hP hS => ?_)
                      try dsimp only at hw_74
                      refine lv_if_eq (tgt := 124) hx hb dX8_leastAll_105 (by decide) (fun c_75 => ?_) (fun c_75 => ?_)
                      · refine lv_iconst (v := (-1)) hx hb dX8_leastAll_124 (by decide) ?_
                        refine lv_istore (lv' := [(9, .int (-1)), (8, .int (-1)), (7, .int (nI q7_21)), (6, .int (-1)), (5, .int (-1)), (4, .int be_72), (3, .int (nI (dn sn))), (0, .ref (a 0)), (1, .int (nI sn)), (2, .int p1)]) hx hb dX8_leastAll_125 hl (by decide) rfl (fun ls hl => ?_)
                        refine lv_iload hx hb dX8_leastAll_127 (lv_at hl 0 rfl) ?_
                        refine lv_if_lt (tgt := 149) hx hb dX8_leastAll_129 (by decide) (fun _ => ?_) (fun h => absurd (by decide) h)
                        refine lv_iload hx hb dX8_leastAll_149 (lv_at hl 5 rfl) ?_
                        refine lv_istore (lv' := [(4, .int be_72), (9, .int (-1)), (8, .int (-1)), (7, .int (nI q7_21)), (6, .int (-1)), (5, .int (-1)), (3, .int (nI (dn sn))), (0, .ref (a 0)), (1, .int (nI sn)), (2, .int p1)]) hx hb dX8_leastAll_151 hl (by decide) rfl (fun ls hl => ?_)
                        refine lv_iinc (v := 0) (lv' := [(8, .int 0), (4, .int be_72), (9, .int (-1)), (7, .int (nI q7_21)), (6, .int (-1)), (5, .int (-1)), (3, .int (nI (dn sn))), (0, .ref (a 0)), (1, .int (nI sn)), (2, .int p1)]) hx hb dX8_leastAll_153 hl (k := 2) rfl (by decide) (by decide) rfl (fun ls hl => ?_)
                        refine lv_goto (tgt := 75) hx hb dX8_leastAll_156 (by decide) ?_
                        exact ih_72 _ (1, be_72) _ _ _ (by omega) ⟨rfl, (by omega), hP, hS, (by rw [nI_pred]; exact lv_sub hl [0, 3, 4, 5, 1, 6, 7, 8, 9] rfl)⟩
                      · refine lv_aload_n hx hb dX8_leastAll_108 rfl (lv_at hl 6 rfl) ?_
                        refine lv_iload_n hx hb dX8_leastAll_109 rfl (lv_at hl 7 rfl) ?_
                        refine lv_iload hx hb dX8_leastAll_110 (lv_at hl 3 rfl) ?_
                        refine lv_iload hx hb dX8_leastAll_112 (lv_at hl 2 rfl) ?_
                        refine lv_iload hx hb dX8_leastAll_114 (lv_at hl 1 rfl) ?_
                        refine lv_iload hx hb dX8_leastAll_116 (lv_at hl 0 rfl) ?_
                        refine ro_i (D := D) (va_runV (As := [.int (nI sn), .int (-1), .int (-1), .int (nI q7_21), .int (-1)]) (rest := []) ⟨hx, hb, hml, hown, hts⟩ ((m_sumAll l D k st lo a tx t0 we rd ru rw ca fp wd nu na ts df db sd dn se tm gs fprices fwalks sn (-1) (-1) (nI q7_21) (-1) (by omega) (by omega) (.inl (by decide)) (.inl (by decide)) (.inr ⟨q7_21, by omega, rfl⟩) (.inl (by decide))) H.size) (cwV 5 hts (gV tw_1459 tw_1461 tw_75 tw_87 tw_1462) rfl rfl rfl (by decide +kernel) ⟨Nat.le_of_ble_eq_true rfl, Nat.le_of_ble_eq_true rfl⟩) (pV hS hAlo hlo hP hK hDL hZ [0, 1, 2, 3, 4] (by decide) rfl (ci := 8) (q := (RX8, TX8, 44)) (q0 := 0) rfl rfl) rfl rfl hl.1 rfl (lv_room (Nat.le_of_ble_eq_true rfl)) dX8_leastAll_118 ⟨Nat.le_of_ble_eq_true rfl, Nat.le_of_ble_eq_true rfl⟩) hS hA hP (fun r_76 H locs hw_76 hP hS => ?_)
                        try dsimp only at hw_76
                        refine lv_goto (tgt := 125) hx hb dX8_leastAll_121 (by decide) ?_
                        refine lv_istore (lv' := [(9, .int r_76), (8, .int (-1)), (7, .int (nI q7_21)), (6, .int (-1)), (5, .int (-1)), (4, .int be_72), (3, .int (nI (dn sn))), (0, .ref (a 0)), (1, .int (nI sn)), (2, .int p1)]) hx hb dX8_leastAll_125 hl (by decide) rfl (fun ls hl => ?_)
                        refine lv_iload hx hb dX8_leastAll_127 (lv_at hl 0 rfl) ?_
                        refine lv_if_lt (tgt := 149) hx hb dX8_leastAll_129 (by decide) (fun c_77 => ?_) (fun c_77 => ?_)
                        · refine lv_iload hx hb dX8_leastAll_149 (lv_at hl 5 rfl) ?_
                          refine lv_istore (lv' := [(4, .int be_72), (9, .int r_76), (8, .int (-1)), (7, .int (nI q7_21)), (6, .int (-1)), (5, .int (-1)), (3, .int (nI (dn sn))), (0, .ref (a 0)), (1, .int (nI sn)), (2, .int p1)]) hx hb dX8_leastAll_151 hl (by decide) rfl (fun ls hl => ?_)
                          refine lv_iinc (v := 0) (lv' := [(8, .int 0), (4, .int be_72), (9, .int r_76), (7, .int (nI q7_21)), (6, .int (-1)), (5, .int (-1)), (3, .int (nI (dn sn))), (0, .ref (a 0)), (1, .int (nI sn)), (2, .int p1)]) hx hb dX8_leastAll_153 hl (k := 2) rfl (by decide) (by decide) rfl (fun ls hl => ?_)
                          refine lv_goto (tgt := 75) hx hb dX8_leastAll_156 (by decide) ?_
                          exact ih_72 _ (1, be_72) _ _ _ (by omega) ⟨rfl, (by omega), hP, hS, (by rw [nI_pred]; exact lv_sub hl [0, 3, 4, 5, 1, 6, 7, 8, 9] rfl)⟩
                        · refine lv_iload hx hb dX8_leastAll_132 (lv_at hl 5 rfl) ?_
                          refine lv_if_lt (tgt := 144) hx hb dX8_leastAll_134 (by decide) (fun c_78 => ?_) (fun c_78 => ?_)
                          · refine lv_iload hx hb dX8_leastAll_144 (lv_at hl 0 rfl) ?_
                            refine lv_goto (tgt := 151) hx hb dX8_leastAll_146 (by decide) ?_
                            refine lv_istore (lv' := [(4, .int r_76), (9, .int r_76), (8, .int (-1)), (7, .int (nI q7_21)), (6, .int (-1)), (5, .int (-1)), (3, .int (nI (dn sn))), (0, .ref (a 0)), (1, .int (nI sn)), (2, .int p1)]) hx hb dX8_leastAll_151 hl (by decide) rfl (fun ls hl => ?_)
                            refine lv_iinc (v := 0) (lv' := [(8, .int 0), (4, .int r_76), (9, .int r_76), (7, .int (nI q7_21)), (6, .int (-1)), (5, .int (-1)), (3, .int (nI (dn sn))), (0, .ref (a 0)), (1, .int (nI sn)), (2, .int p1)]) hx hb dX8_leastAll_153 hl (k := 2) rfl (by decide) (by decide) rfl (fun ls hl => ?_)
                            refine lv_goto (tgt := 75) hx hb dX8_leastAll_156 (by decide) ?_
                            exact ih_72 _ (1, r_76) _ _ _ (by omega) ⟨rfl, (by omega), hP, hS, (by rw [nI_pred]; exact lv_sub hl [0, 3, 4, 5, 1, 6, 7, 8, 9] rfl)⟩
                          · refine lv_iload hx hb dX8_leastAll_137 (lv_at hl 0 rfl) ?_
                            refine lv_iload hx hb dX8_leastAll_139 (lv_at hl 5 rfl) ?_
                            refine lv_icmp_ge (tgt := 149) hx hb dX8_leastAll_141 (by decide) (fun c_79 => ?_) (fun c_79 => ?_)
                            · refine lv_iload hx hb dX8_leastAll_149 (lv_at hl 5 rfl) ?_
                              refine lv_istore (lv' := [(4, .int be_72), (9, .int r_76), (8, .int (-1)), (7, .int (nI q7_21)), (6, .int (-1)), (5, .int (-1)), (3, .int (nI (dn sn))), (0, .ref (a 0)), (1, .int (nI sn)), (2, .int p1)]) hx hb dX8_leastAll_151 hl (by decide) rfl (fun ls hl => ?_)
                              refine lv_iinc (v := 0) (lv' := [(8, .int 0), (4, .int be_72), (9, .int r_76), (7, .int (nI q7_21)), (6, .int (-1)), (5, .int (-1)), (3, .int (nI (dn sn))), (0, .ref (a 0)), (1, .int (nI sn)), (2, .int p1)]) hx hb dX8_leastAll_153 hl (k := 2) rfl (by decide) (by decide) rfl (fun ls hl => ?_)
                              refine lv_goto (tgt := 75) hx hb dX8_leastAll_156 (by decide) ?_
                              exact ih_72 _ (1, be_72) _ _ _ (by omega) ⟨rfl, (by omega), hP, hS, (by rw [nI_pred]; exact lv_sub hl [0, 3, 4, 5, 1, 6, 7, 8, 9] rfl)⟩
                            · refine lv_iload hx hb dX8_leastAll_144 (lv_at hl 0 rfl) ?_
                              refine lv_goto (tgt := 151) hx hb dX8_leastAll_146 (by decide) ?_
                              refine lv_istore (lv' := [(4, .int r_76), (9, .int r_76), (8, .int (-1)), (7, .int (nI q7_21)), (6, .int (-1)), (5, .int (-1)), (3, .int (nI (dn sn))), (0, .ref (a 0)), (1, .int (nI sn)), (2, .int p1)]) hx hb dX8_leastAll_151 hl (by decide) rfl (fun ls hl => ?_)
                              refine lv_iinc (v := 0) (lv' := [(8, .int 0), (4, .int r_76), (9, .int r_76), (7, .int (nI q7_21)), (6, .int (-1)), (5, .int (-1)), (3, .int (nI (dn sn))), (0, .ref (a 0)), (1, .int (nI sn)), (2, .int p1)]) hx hb dX8_leastAll_153 hl (k := 2) rfl (by decide) (by decide) rfl (fun ls hl => ?_)
                              refine lv_goto (tgt := 75) hx hb dX8_leastAll_156 (by decide) ?_
                              exact ih_72 _ (1, r_76) _ _ _ (by omega) ⟨rfl, (by omega), hP, hS, (by rw [nI_pred]; exact lv_sub hl [0, 3, 4, 5, 1, 6, 7, 8, 9] rfl)⟩
                    · have c_73 : ¬ (ca ≤ 3) := fun h => c_73 ((nI_leI (a := ca) (b := 3) (by omega) (by omega)).mpr h)
                      refine lv_iload_n hx hb dX8_leastAll_85 rfl (lv_at hl 5 rfl) ?_
                      refine lv_goto (tgt := 90) hx hb dX8_leastAll_86 (by decide) ?_
                      refine lv_icmp_ge (tgt := 159) hx hb dX8_leastAll_90 (by decide) (fun c_80 => ?_) (fun c_80 => ?_)
                      · refine lv_iinc (v := (nI (q7_21 + 1))) (lv' := [(7, .int (nI (q7_21 + 1))), (8, .int (-1)), (6, .int (-1)), (5, .int (-1)), (4, .int be_72), (3, .int (nI (dn sn))), (0, .ref (a 0)), (1, .int (nI sn)), (2, .int p1)]) hx hb dX8_leastAll_159 hl (k := 1) rfl (nI_add q7_21 1) (by decide) rfl (fun ls hl => ?_)
                        refine lv_goto (tgt := 54) hx hb dX8_leastAll_162 (by decide) ?_
                        exact ih_21 _ (q7_21 + 1 + 1, be_72) _ _ _ (by omega) ⟨rfl, (by omega), hP, hS, (by rw [nI_pred]; exact lv_sub hl [0, 2, 3, 4, 5, 6, 7, 8] rfl)⟩
                      · refine lv_iload_n hx hb dX8_leastAll_93 rfl (lv_at hl 8 rfl) ?_
                        refine lv_iload hx hb dX8_leastAll_94 (lv_at hl 3 rfl) ?_
                        refine lv_iload hx hb dX8_leastAll_96 (lv_at hl 2 rfl) ?_
                        refine lv_iload hx hb dX8_leastAll_98 (lv_at hl 1 rfl) ?_
                        refine lv_iload hx hb dX8_leastAll_100 (lv_at hl 0 rfl) ?_
                        refine ro_i (D := D) (va_runS (As := [.int p1, .int (-1), .int (-1), .int (nI q7_21), .int (-1)]) (rest := []) ⟨hx, hb, hml, hown, hts⟩ ((m_canAll l D k st lo p1 (-1) (-1) (nI q7_21) (-1)) H.size) (va_cwS 5 hts (gS tw_1450 tw_1451 tw_87 tw_1452) rfl rfl rfl (by decide +kernel) ⟨Nat.le_of_ble_eq_true rfl, Nat.le_of_ble_eq_true rfl⟩) (pS hS hAlo hlo hP hK hDL hZ [] (by decide) rfl) rfl rfl hl.1 rfl (lv_room (Nat.le_of_ble_eq_true rfl)) dX8_leastAll_102 ⟨Nat.le_of_ble_eq_true rfl, Nat.le_of_ble_eq_true rfl⟩) hS hA hP (fun r_81 H locs hw_81 hP hS => ?_)
                        try dsimp only at hw_81
                        refine lv_if_eq (tgt := 124) hx hb dX8_leastAll_105 (by decide) (fun c_82 => ?_) (fun c_82 => ?_)
                        · refine lv_iconst (v := (-1)) hx hb dX8_leastAll_124 (by decide) ?_
                          refine lv_istore (lv' := [(9, .int (-1)), (8, .int (-1)), (7, .int (nI q7_21)), (6, .int (-1)), (5, .int (-1)), (4, .int be_72), (3, .int (nI (dn sn))), (0, .ref (a 0)), (1, .int (nI sn)), (2, .int p1)]) hx hb dX8_leastAll_125 hl (by decide) rfl (fun ls hl => ?_)
                          refine lv_iload hx hb dX8_leastAll_127 (lv_at hl 0 rfl) ?_
                          refine lv_if_lt (tgt := 149) hx hb dX8_leastAll_129 (by decide) (fun _ => ?_) (fun h => absurd (by decide) h)
                          refine lv_iload hx hb dX8_leastAll_149 (lv_at hl 5 rfl) ?_
                          refine lv_istore (lv' := [(4, .int be_72), (9, .int (-1)), (8, .int (-1)), (7, .int (nI q7_21)), (6, .int (-1)), (5, .int (-1)), (3, .int (nI (dn sn))), (0, .ref (a 0)), (1, .int (nI sn)), (2, .int p1)]) hx hb dX8_leastAll_151 hl (by decide) rfl (fun ls hl => ?_)
                          refine lv_iinc (v := 0) (lv' := [(8, .int 0), (4, .int be_72), (9, .int (-1)), (7, .int (nI q7_21)), (6, .int (-1)), (5, .int (-1)), (3, .int (nI (dn sn))), (0, .ref (a 0)), (1, .int (nI sn)), (2, .int p1)]) hx hb dX8_leastAll_153 hl (k := 2) rfl (by decide) (by decide) rfl (fun ls hl => ?_)
                          refine lv_goto (tgt := 75) hx hb dX8_leastAll_156 (by decide) ?_
                          exact ih_72 _ (1, be_72) _ _ _ (by omega) ⟨rfl, (by omega), hP, hS, (by rw [nI_pred]; exact lv_sub hl [0, 3, 4, 5, 1, 6, 7, 8, 9] rfl)⟩
                        · refine lv_aload_n hx hb dX8_leastAll_108 rfl (lv_at hl 6 rfl) ?_
                          refine lv_iload_n hx hb dX8_leastAll_109 rfl (lv_at hl 7 rfl) ?_
                          refine lv_iload hx hb dX8_leastAll_110 (lv_at hl 3 rfl) ?_
                          refine lv_iload hx hb dX8_leastAll_112 (lv_at hl 2 rfl) ?_
                          refine lv_iload hx hb dX8_leastAll_114 (lv_at hl 1 rfl) ?_
                          refine lv_iload hx hb dX8_leastAll_116 (lv_at hl 0 rfl) ?_
                          refine ro_i (D := D) (va_runV (As := [.int (nI sn), .int (-1), .int (-1), .int (nI q7_21), .int (-1)]) (rest := []) ⟨hx, hb, hml, hown, hts⟩ ((m_sumAll l D k st lo a tx t0 we rd ru rw ca fp wd nu na ts df db sd dn se tm gs fprices fwalks sn (-1) (-1) (nI q7_21) (-1) (by omega) (by omega) (.inl (by decide)) (.inl (by decide)) (.inr ⟨q7_21, by omega, rfl⟩) (.inl (by decide))) H.size) (cwV 5 hts (gV tw_1459 tw_1461 tw_75 tw_87 tw_1462) rfl rfl rfl (by decide +kernel) ⟨Nat.le_of_ble_eq_true rfl, Nat.le_of_ble_eq_true rfl⟩) (pV hS hAlo hlo hP hK hDL hZ [0, 1, 2, 3, 4] (by decide) rfl (ci := 8) (q := (RX8, TX8, 44)) (q0 := 0) rfl rfl) rfl rfl hl.1 rfl (lv_room (Nat.le_of_ble_eq_true rfl)) dX8_leastAll_118 ⟨Nat.le_of_ble_eq_true rfl, Nat.le_of_ble_eq_true rfl⟩) hS hA hP (fun r_83 H locs hw_83 hP hS => ?_)
                          try dsimp only at hw_83
                          refine lv_goto (tgt := 125) hx hb dX8_leastAll_121 (by decide) ?_
                          refine lv_istore (lv' := [(9, .int r_83), (8, .int (-1)), (7, .int (nI q7_21)), (6, .int (-1)), (5, .int (-1)), (4, .int be_72), (3, .int (nI (dn sn))), (0, .ref (a 0)), (1, .int (nI sn)), (2, .int p1)]) hx hb dX8_leastAll_125 hl (by decide) rfl (fun ls hl => ?_)
                          refine lv_iload hx hb dX8_leastAll_127 (lv_at hl 0 rfl) ?_
                          refine lv_if_lt (tgt := 149) hx hb dX8_leastAll_129 (by decide) (fun c_84 => ?_) (fun c_84 => ?_)
                          · refine lv_iload hx hb dX8_leastAll_149 (lv_at hl 5 rfl) ?_
                            refine lv_istore (lv' := [(4, .int be_72), (9, .int r_83), (8, .int (-1)), (7, .int (nI q7_21)), (6, .int (-1)), (5, .int (-1)), (3, .int (nI (dn sn))), (0, .ref (a 0)), (1, .int (nI sn)), (2, .int p1)]) hx hb dX8_leastAll_151 hl (by decide) rfl (fun ls hl => ?_)
                            refine lv_iinc (v := 0) (lv' := [(8, .int 0), (4, .int be_72), (9, .int r_83), (7, .int (nI q7_21)), (6, .int (-1)), (5, .int (-1)), (3, .int (nI (dn sn))), (0, .ref (a 0)), (1, .int (nI sn)), (2, .int p1)]) hx hb dX8_leastAll_153 hl (k := 2) rfl (by decide) (by decide) rfl (fun ls hl => ?_)
                            refine lv_goto (tgt := 75) hx hb dX8_leastAll_156 (by decide) ?_
                            exact ih_72 _ (1, be_72) _ _ _ (by omega) ⟨rfl, (by omega), hP, hS, (by rw [nI_pred]; exact lv_sub hl [0, 3, 4, 5, 1, 6, 7, 8, 9] rfl)⟩
                          · refine lv_iload hx hb dX8_leastAll_132 (lv_at hl 5 rfl) ?_
                            refine lv_if_lt (tgt := 144) hx hb dX8_leastAll_134 (by decide) (fun c_85 => ?_) (fun c_85 => ?_)
                            · refine lv_iload hx hb dX8_leastAll_144 (lv_at hl 0 rfl) ?_
                              refine lv_goto (tgt := 151) hx hb dX8_leastAll_146 (by decide) ?_
                              refine lv_istore (lv' := [(4, .int r_83), (9, .int r_83), (8, .int (-1)), (7, .int (nI q7_21)), (6, .int (-1)), (5, .int (-1)), (3, .int (nI (dn sn))), (0, .ref (a 0)), (1, .int (nI sn)), (2, .int p1)]) hx hb dX8_leastAll_151 hl (by decide) rfl (fun ls hl => ?_)
                              refine lv_iinc (v := 0) (lv' := [(8, .int 0), (4, .int r_83), (9, .int r_83), (7, .int (nI q7_21)), (6, .int (-1)), (5, .int (-1)), (3, .int (nI (dn sn))), (0, .ref (a 0)), (1, .int (nI sn)), (2, .int p1)]) hx hb dX8_leastAll_153 hl (k := 2) rfl (by decide) (by decide) rfl (fun ls hl => ?_)
                              refine lv_goto (tgt := 75) hx hb dX8_leastAll_156 (by decide) ?_
                              exact ih_72 _ (1, r_83) _ _ _ (by omega) ⟨rfl, (by omega), hP, hS, (by rw [nI_pred]; exact lv_sub hl [0, 3, 4, 5, 1, 6, 7, 8, 9] rfl)⟩
                            · refine lv_iload hx hb dX8_leastAll_137 (lv_at hl 0 rfl) ?_
                              refine lv_iload hx hb dX8_leastAll_139 (lv_at hl 5 rfl) ?_
                              refine lv_icmp_ge (tgt := 149) hx hb dX8_leastAll_141 (by decide) (fun c_86 => ?_) (fun c_86 => ?_)
                              · refine lv_iload hx hb dX8_leastAll_149 (lv_at hl 5 rfl) ?_
                                refine lv_istore (lv' := [(4, .int be_72), (9, .int r_83), (8, .int (-1)), (7, .int (nI q7_21)), (6, .int (-1)), (5, .int (-1)), (3, .int (nI (dn sn))), (0, .ref (a 0)), (1, .int (nI sn)), (2, .int p1)]) hx hb dX8_leastAll_151 hl (by decide) rfl (fun ls hl => ?_)
                                refine lv_iinc (v := 0) (lv' := [(8, .int 0), (4, .int be_72), (9, .int r_83), (7, .int (nI q7_21)), (6, .int (-1)), (5, .int (-1)), (3, .int (nI (dn sn))), (0, .ref (a 0)), (1, .int (nI sn)), (2, .int p1)]) hx hb dX8_leastAll_153 hl (k := 2) rfl (by decide) (by decide) rfl (fun ls hl => ?_)
                                refine lv_goto (tgt := 75) hx hb dX8_leastAll_156 (by decide) ?_
                                exact ih_72 _ (1, be_72) _ _ _ (by omega) ⟨rfl, (by omega), hP, hS, (by rw [nI_pred]; exact lv_sub hl [0, 3, 4, 5, 1, 6, 7, 8, 9] rfl)⟩
                              · refine lv_iload hx hb dX8_leastAll_144 (lv_at hl 0 rfl) ?_
                                refine lv_goto (tgt := 151) hx hb dX8_leastAll_146 (by decide) ?_
                                refine lv_istore (lv' := [(4, .int r_83), (9, .int r_83), (8, .int (-1)), (7, .int (nI q7_21)), (6, .int (-1)), (5, .int (-1)), (3, .int (nI (dn sn))), (0, .ref (a 0)), (1, .int (nI sn)), (2, .int p1)]) hx hb dX8_leastAll_151 hl (by decide) rfl (fun ls hl => ?_)
                                refine lv_iinc (v := 0) (lv' := [(8, .int 0), (4, .int r_83), (9, .int r_83), (7, .int (nI q7_21)), (6, .int (-1)), (5, .int (-1)), (3, .int (nI (dn sn))), (0, .ref (a 0)), (1, .int (nI sn)), (2, .int p1)]) hx hb dX8_leastAll_153 hl (k := 2) rfl (by decide) (by decide) rfl (fun ls hl => ?_)
                                refine lv_goto (tgt := 75) hx hb dX8_leastAll_156 (by decide) ?_
                                exact ih_72 _ (1, r_83) _ _ _ (by omega) ⟨rfl, (by omega), hP, hS, (by rw [nI_pred]; exact lv_sub hl [0, 3, 4, 5, 1, 6, 7, 8, 9] rfl)⟩
                  · rw [nI_pred] at hl
                    refine lv_iload hx hb dX8_leastAll_75 (lv_at hl 0 rfl) ?_
                    refine lv_aload_n hx hb dX8_leastAll_77 rfl (lv_at hl 6 rfl) ?_
                    refine va_get (D := D) (ci := 8) (v := .int (nI ca)) (C := RX8) (T := TX8) (N := 44) hx hb hts inX8 hown hK hP 0 rfl rfl 34 (by decide) (hts _ tw_1007) (fun _ h9 => h9) rfl dX8_leastAll_78 ?_
                    refine lv_iconst (v := 3) hx hb dX8_leastAll_81 (by decide) ?_
                    refine lv_icmp_le (tgt := 89) hx hb dX8_leastAll_82 (by decide) (fun c_87 => ?_) (fun c_87 => ?_)
                    · have c_87 := (nI_leI (a := ca) (b := 3) (by omega) (by omega)).mp c_87
                      refine lv_iconst (v := 0) hx hb dX8_leastAll_89 (by decide) ?_
                      refine lv_icmp_ge (tgt := 159) hx hb dX8_leastAll_90 (by decide) (fun _ => ?_) (fun h => absurd (nI_ge0 (by omega)) h)
                      refine lv_iinc (v := (nI (q7_21 + 1))) (lv' := [(7, .int (nI (q7_21 + 1))), (8, .int (nI q8_72)), (6, .int (-1)), (5, .int (-1)), (4, .int be_72), (3, .int (nI (dn sn))), (0, .ref (a 0)), (1, .int (nI sn)), (2, .int p1)]) hx hb dX8_leastAll_159 hl (k := 1) rfl (nI_add q7_21 1) (by decide) rfl (fun ls hl => ?_)
                      refine lv_goto (tgt := 54) hx hb dX8_leastAll_162 (by decide) ?_
                      exact ih_21 _ (q7_21 + 1 + 1, be_72) _ _ _ (by omega) ⟨rfl, (by omega), hP, hS, (by rw [nI_pred]; exact lv_sub hl [0, 2, 3, 4, 5, 6, 7, 8] rfl)⟩
                    · have c_87 : ¬ (ca ≤ 3) := fun h => c_87 ((nI_leI (a := ca) (b := 3) (by omega) (by omega)).mpr h)
                      refine lv_iload_n hx hb dX8_leastAll_85 rfl (lv_at hl 5 rfl) ?_
                      refine lv_goto (tgt := 90) hx hb dX8_leastAll_86 (by decide) ?_
                      refine lv_icmp_ge (tgt := 159) hx hb dX8_leastAll_90 (by decide) (fun c_88 => ?_) (fun c_88 => ?_)
                      · have c_88 := (nI_leI (a := (dn sn)) (b := q8_72) (by omega) (by omega)).mp c_88
                        refine lv_iinc (v := (nI (q7_21 + 1))) (lv' := [(7, .int (nI (q7_21 + 1))), (8, .int (nI q8_72)), (6, .int (-1)), (5, .int (-1)), (4, .int be_72), (3, .int (nI (dn sn))), (0, .ref (a 0)), (1, .int (nI sn)), (2, .int p1)]) hx hb dX8_leastAll_159 hl (k := 1) rfl (nI_add q7_21 1) (by decide) rfl (fun ls hl => ?_)
                        refine lv_goto (tgt := 54) hx hb dX8_leastAll_162 (by decide) ?_
                        exact ih_21 _ (q7_21 + 1 + 1, be_72) _ _ _ (by omega) ⟨rfl, (by omega), hP, hS, (by rw [nI_pred]; exact lv_sub hl [0, 2, 3, 4, 5, 6, 7, 8] rfl)⟩
                      · have c_88 : ¬ ((dn sn) ≤ q8_72) := fun h => c_88 ((nI_leI (a := (dn sn)) (b := q8_72) (by omega) (by omega)).mpr h)
                        refine lv_iload_n hx hb dX8_leastAll_93 rfl (lv_at hl 8 rfl) ?_
                        refine lv_iload hx hb dX8_leastAll_94 (lv_at hl 3 rfl) ?_
                        refine lv_iload hx hb dX8_leastAll_96 (lv_at hl 2 rfl) ?_
                        refine lv_iload hx hb dX8_leastAll_98 (lv_at hl 1 rfl) ?_
                        refine lv_iload hx hb dX8_leastAll_100 (lv_at hl 0 rfl) ?_
                        refine ro_i (D := D) (va_runS (As := [.int p1, .int (-1), .int (-1), .int (nI q7_21), .int (nI q8_72)]) (rest := []) ⟨hx, hb, hml, hown, hts⟩ ((m_canAll l D k st lo p1 (-1) (-1) (nI q7_21) (nI q8_72)) H.size) (va_cwS 5 hts (gS tw_1450 tw_1451 tw_87 tw_1452) rfl rfl rfl (by decide +kernel) ⟨Nat.le_of_ble_eq_true rfl, Nat.le_of_ble_eq_true rfl⟩) (pS hS hAlo hlo hP hK hDL hZ [] (by decide) rfl) rfl rfl hl.1 rfl (lv_room (Nat.le_of_ble_eq_true rfl)) dX8_leastAll_102 ⟨Nat.le_of_ble_eq_true rfl, Nat.le_of_ble_eq_true rfl⟩) hS hA hP (fun r_89 H locs hw_89 hP hS => ?_)
                        try dsimp only at hw_89
                        refine lv_if_eq (tgt := 124) hx hb dX8_leastAll_105 (by decide) (fun c_90 => ?_) (fun c_90 => ?_)
                        · refine lv_iconst (v := (-1)) hx hb dX8_leastAll_124 (by decide) ?_
                          refine lv_istore (lv' := [(9, .int (-1)), (8, .int (nI q8_72)), (7, .int (nI q7_21)), (6, .int (-1)), (5, .int (-1)), (4, .int be_72), (3, .int (nI (dn sn))), (0, .ref (a 0)), (1, .int (nI sn)), (2, .int p1)]) hx hb dX8_leastAll_125 hl (by decide) rfl (fun ls hl => ?_)
                          refine lv_iload hx hb dX8_leastAll_127 (lv_at hl 0 rfl) ?_
                          refine lv_if_lt (tgt := 149) hx hb dX8_leastAll_129 (by decide) (fun _ => ?_) (fun h => absurd (by decide) h)
                          refine lv_iload hx hb dX8_leastAll_149 (lv_at hl 5 rfl) ?_
                          refine lv_istore (lv' := [(4, .int be_72), (9, .int (-1)), (8, .int (nI q8_72)), (7, .int (nI q7_21)), (6, .int (-1)), (5, .int (-1)), (3, .int (nI (dn sn))), (0, .ref (a 0)), (1, .int (nI sn)), (2, .int p1)]) hx hb dX8_leastAll_151 hl (by decide) rfl (fun ls hl => ?_)
                          refine lv_iinc (v := (nI (q8_72 + 1))) (lv' := [(8, .int (nI (q8_72 + 1))), (4, .int be_72), (9, .int (-1)), (7, .int (nI q7_21)), (6, .int (-1)), (5, .int (-1)), (3, .int (nI (dn sn))), (0, .ref (a 0)), (1, .int (nI sn)), (2, .int p1)]) hx hb dX8_leastAll_153 hl (k := 2) rfl (nI_add q8_72 1) (by decide) rfl (fun ls hl => ?_)
                          refine lv_goto (tgt := 75) hx hb dX8_leastAll_156 (by decide) ?_
                          exact ih_72 _ (q8_72 + 1 + 1, be_72) _ _ _ (by omega) ⟨rfl, (by omega), hP, hS, (by rw [nI_pred]; exact lv_sub hl [0, 3, 4, 5, 1, 6, 7, 8, 9] rfl)⟩
                        · refine lv_aload_n hx hb dX8_leastAll_108 rfl (lv_at hl 6 rfl) ?_
                          refine lv_iload_n hx hb dX8_leastAll_109 rfl (lv_at hl 7 rfl) ?_
                          refine lv_iload hx hb dX8_leastAll_110 (lv_at hl 3 rfl) ?_
                          refine lv_iload hx hb dX8_leastAll_112 (lv_at hl 2 rfl) ?_
                          refine lv_iload hx hb dX8_leastAll_114 (lv_at hl 1 rfl) ?_
                          refine lv_iload hx hb dX8_leastAll_116 (lv_at hl 0 rfl) ?_
                          refine ro_i (D := D) (va_runV (As := [.int (nI sn), .int (-1), .int (-1), .int (nI q7_21), .int (nI q8_72)]) (rest := []) ⟨hx, hb, hml, hown, hts⟩ ((m_sumAll l D k st lo a tx t0 we rd ru rw ca fp wd nu na ts df db sd dn se tm gs fprices fwalks sn (-1) (-1) (nI q7_21) (nI q8_72) (by omega) (by omega) (.inl (by decide)) (.inl (by decide)) (.inr ⟨q7_21, by omega, rfl⟩) (.inr ⟨q8_72, by omega, rfl⟩)) H.size) (cwV 5 hts (gV tw_1459 tw_1461 tw_75 tw_87 tw_1462) rfl rfl rfl (by decide +kernel) ⟨Nat.le_of_ble_eq_true rfl, Nat.le_of_ble_eq_true rfl⟩) (pV hS hAlo hlo hP hK hDL hZ [0, 1, 2, 3, 4] (by decide) rfl (ci := 8) (q := (RX8, TX8, 44)) (q0 := 0) rfl rfl) rfl rfl hl.1 rfl (lv_room (Nat.le_of_ble_eq_true rfl)) dX8_leastAll_118 ⟨Nat.le_of_ble_eq_true rfl, Nat.le_of_ble_eq_true rfl⟩) hS hA hP (fun r_91 H locs hw_91 hP hS => ?_)
                          try dsimp only at hw_91
                          refine lv_goto (tgt := 125) hx hb dX8_leastAll_121 (by decide) ?_
                          refine lv_istore (lv' := [(9, .int r_91), (8, .int (nI q8_72)), (7, .int (nI q7_21)), (6, .int (-1)), (5, .int (-1)), (4, .int be_72), (3, .int (nI (dn sn))), (0, .ref (a 0)), (1, .int (nI sn)), (2, .int p1)]) hx hb dX8_leastAll_125 hl (by decide) rfl (fun ls hl => ?_)
                          refine lv_iload hx hb dX8_leastAll_127 (lv_at hl 0 rfl) ?_
                          refine lv_if_lt (tgt := 149) hx hb dX8_leastAll_129 (by decide) (fun c_92 => ?_) (fun c_92 => ?_)
                          · refine lv_iload hx hb dX8_leastAll_149 (lv_at hl 5 rfl) ?_
                            refine lv_istore (lv' := [(4, .int be_72), (9, .int r_91), (8, .int (nI q8_72)), (7, .int (nI q7_21)), (6, .int (-1)), (5, .int (-1)), (3, .int (nI (dn sn))), (0, .ref (a 0)), (1, .int (nI sn)), (2, .int p1)]) hx hb dX8_leastAll_151 hl (by decide) rfl (fun ls hl => ?_)
                            refine lv_iinc (v := (nI (q8_72 + 1))) (lv' := [(8, .int (nI (q8_72 + 1))), (4, .int be_72), (9, .int r_91), (7, .int (nI q7_21)), (6, .int (-1)), (5, .int (-1)), (3, .int (nI (dn sn))), (0, .ref (a 0)), (1, .int (nI sn)), (2, .int p1)]) hx hb dX8_leastAll_153 hl (k := 2) rfl (nI_add q8_72 1) (by decide) rfl (fun ls hl => ?_)
                            refine lv_goto (tgt := 75) hx hb dX8_leastAll_156 (by decide) ?_
                            exact ih_72 _ (q8_72 + 1 + 1, be_72) _ _ _ (by omega) ⟨rfl, (by omega), hP, hS, (by rw [nI_pred]; exact lv_sub hl [0, 3, 4, 5, 1, 6, 7, 8, 9] rfl)⟩
                          · refine lv_iload hx hb dX8_leastAll_132 (lv_at hl 5 rfl) ?_
                            refine lv_if_lt (tgt := 144) hx hb dX8_leastAll_134 (by decide) (fun c_93 => ?_) (fun c_93 => ?_)
                            · refine lv_iload hx hb dX8_leastAll_144 (lv_at hl 0 rfl) ?_
                              refine lv_goto (tgt := 151) hx hb dX8_leastAll_146 (by decide) ?_
                              refine lv_istore (lv' := [(4, .int r_91), (9, .int r_91), (8, .int (nI q8_72)), (7, .int (nI q7_21)), (6, .int (-1)), (5, .int (-1)), (3, .int (nI (dn sn))), (0, .ref (a 0)), (1, .int (nI sn)), (2, .int p1)]) hx hb dX8_leastAll_151 hl (by decide) rfl (fun ls hl => ?_)
                              refine lv_iinc (v := (nI (q8_72 + 1))) (lv' := [(8, .int (nI (q8_72 + 1))), (4, .int r_91), (9, .int r_91), (7, .int (nI q7_21)), (6, .int (-1)), (5, .int (-1)), (3, .int (nI (dn sn))), (0, .ref (a 0)), (1, .int (nI sn)), (2, .int p1)]) hx hb dX8_leastAll_153 hl (k := 2) rfl (nI_add q8_72 1) (by decide) rfl (fun ls hl => ?_)
                              refine lv_goto (tgt := 75) hx hb dX8_leastAll_156 (by decide) ?_
                              exact ih_72 _ (q8_72 + 1 + 1, r_91) _ _ _ (by omega) ⟨rfl, (by omega), hP, hS, (by rw [nI_pred]; exact lv_sub hl [0, 3, 4, 5, 1, 6, 7, 8, 9] rfl)⟩
                            · refine lv_iload hx hb dX8_leastAll_137 (lv_at hl 0 rfl) ?_
                              refine lv_iload hx hb dX8_leastAll_139 (lv_at hl 5 rfl) ?_
                              refine lv_icmp_ge (tgt := 149) hx hb dX8_leastAll_141 (by decide) (fun c_94 => ?_) (fun c_94 => ?_)
                              · refine lv_iload hx hb dX8_leastAll_149 (lv_at hl 5 rfl) ?_
                                refine lv_istore (lv' := [(4, .int be_72), (9, .int r_91), (8, .int (nI q8_72)), (7, .int (nI q7_21)), (6, .int (-1)), (5, .int (-1)), (3, .int (nI (dn sn))), (0, .ref (a 0)), (1, .int (nI sn)), (2, .int p1)]) hx hb dX8_leastAll_151 hl (by decide) rfl (fun ls hl => ?_)
                                refine lv_iinc (v := (nI (q8_72 + 1))) (lv' := [(8, .int (nI (q8_72 + 1))), (4, .int be_72), (9, .int r_91), (7, .int (nI q7_21)), (6, .int (-1)), (5, .int (-1)), (3, .int (nI (dn sn))), (0, .ref (a 0)), (1, .int (nI sn)), (2, .int p1)]) hx hb dX8_leastAll_153 hl (k := 2) rfl (nI_add q8_72 1) (by decide) rfl (fun ls hl => ?_)
                                refine lv_goto (tgt := 75) hx hb dX8_leastAll_156 (by decide) ?_
                                exact ih_72 _ (q8_72 + 1 + 1, be_72) _ _ _ (by omega) ⟨rfl, (by omega), hP, hS, (by rw [nI_pred]; exact lv_sub hl [0, 3, 4, 5, 1, 6, 7, 8, 9] rfl)⟩
                              · refine lv_iload hx hb dX8_leastAll_144 (lv_at hl 0 rfl) ?_
                                refine lv_goto (tgt := 151) hx hb dX8_leastAll_146 (by decide) ?_
                                refine lv_istore (lv' := [(4, .int r_91), (9, .int r_91), (8, .int (nI q8_72)), (7, .int (nI q7_21)), (6, .int (-1)), (5, .int (-1)), (3, .int (nI (dn sn))), (0, .ref (a 0)), (1, .int (nI sn)), (2, .int p1)]) hx hb dX8_leastAll_151 hl (by decide) rfl (fun ls hl => ?_)
                                refine lv_iinc (v := (nI (q8_72 + 1))) (lv' := [(8, .int (nI (q8_72 + 1))), (4, .int r_91), (9, .int r_91), (7, .int (nI q7_21)), (6, .int (-1)), (5, .int (-1)), (3, .int (nI (dn sn))), (0, .ref (a 0)), (1, .int (nI sn)), (2, .int p1)]) hx hb dX8_leastAll_153 hl (k := 2) rfl (nI_add q8_72 1) (by decide) rfl (fun ls hl => ?_)
                                refine lv_goto (tgt := 75) hx hb dX8_leastAll_156 (by decide) ?_
                                exact ih_72 _ (q8_72 + 1 + 1, r_91) _ _ _ (by omega) ⟨rfl, (by omega), hP, hS, (by rw [nI_pred]; exact lv_sub hl [0, 3, 4, 5, 1, 6, 7, 8, 9] rfl)⟩
          · have c_20 : ¬ (ca ≤ 1) := fun h => c_20 ((nI_leI (a := ca) (b := 1) (by omega) (by omega)).mpr h)
            refine lv_iload_n hx hb dX8_leastAll_43 rfl (lv_at hl 3 rfl) ?_
            refine lv_goto (tgt := 48) hx hb dX8_leastAll_44 (by decide) ?_
            refine lv_icmp_ge (tgt := 171) hx hb dX8_leastAll_48 (by decide) (fun c_95 => ?_) (fun c_95 => ?_)
            · refine lv_iinc (v := 0) (lv' := [(5, .int 0), (6, .int (-1)), (4, .int be_19), (3, .int (nI (dn sn))), (0, .ref (a 0)), (1, .int (nI sn)), (2, .int p1)]) hx hb dX8_leastAll_171 hl (k := 1) rfl (by decide) (by decide) rfl (fun ls hl => ?_)
              refine lv_goto (tgt := 13) hx hb dX8_leastAll_174 (by decide) ?_
              exact ih_1 _ (1, be_19) _ _ _ (by omega) ⟨rfl, (by omega), hP, hS, (by rw [nI_pred]; exact lv_sub hl [0, 2, 3, 4, 5, 6] rfl)⟩
            · refine lv_iconst (v := (-1)) hx hb dX8_leastAll_51 (by decide) ?_
              refine lv_istore (lv' := [(7, .int (-1)), (6, .int (-1)), (5, .int (-1)), (4, .int be_19), (3, .int (nI (dn sn))), (0, .ref (a 0)), (1, .int (nI sn)), (2, .int p1)]) hx hb dX8_leastAll_52 hl (by decide) rfl (fun ls hl => ?_)
              refine W_loop (σ := Nat × Int32) (fun (n_ : Nat) (x_ : Nat × Int32) (H : Heap) (locs : List Loc) (ls : Array Slot) => match x_ with | (q7_96, be_96) => n_ = 26 - q7_96 ∧ (q7_96 ≤ 25) ∧ va_P D classes [((a 0), .inr (8, (fX8 a (nI tx) fp (nI t0) wd (nI we) nu na (nI rd) ts (nI ru) (nI rw) (nI ca) df db sd))), (aI k (a 1) 3 (nF dn)), (aI k (a 4) 27 (sg se tm gs)), (aI k (a 3) 72 fprices), (aI k (a 36) 4 fwalks)] H ∧ va_S (fun q : Nat => s.heap.size ≤ q) s.heap H locs ∧ lv_has ls 10 [(7, .int (nI q7_96 - 1)), (6, .int (-1)), (5, .int (-1)), (4, .int be_96), (3, .int (nI (dn sn))), (0, .ref (a 0)), (1, .int (nI sn)), (2, .int p1)]) (fun n_96 x_96 H locs ls hI ih_96 => ?_) _ (0, be_19) ⟨rfl, (by omega), hP, hS, (by rw [dn0]; exact lv_sub hl [0, 1, 2, 3, 4, 5, 6, 7] rfl)⟩
              obtain ⟨q7_96, be_96⟩ := x_96
              obtain ⟨hm_96, hv_96, hP, hS, hl⟩ := hI
              subst hm_96
              rcases q7_96 with _ | q7_96
              · rw [dn0] at hl
                refine lv_iload hx hb dX8_leastAll_54 (lv_at hl 0 rfl) ?_
                refine lv_aload_n hx hb dX8_leastAll_56 rfl (lv_at hl 5 rfl) ?_
                refine va_get (D := D) (ci := 8) (v := .int (nI ca)) (C := RX8) (T := TX8) (N := 44) hx hb hts inX8 hown hK hP 0 rfl rfl 34 (by decide) (hts _ tw_1007) (fun _ h9 => h9) rfl dX8_leastAll_57 ?_
                refine lv_iconst (v := 2) hx hb dX8_leastAll_60 (by decide) ?_
                refine lv_icmp_le (tgt := 68) hx hb dX8_leastAll_61 (by decide) (fun c_97 => ?_) (fun c_97 => ?_)
                · have c_97 := (nI_leI (a := ca) (b := 2) (by omega) (by omega)).mp c_97
                  refine lv_iconst (v := 0) hx hb dX8_leastAll_68 (by decide) ?_
                  refine lv_icmp_ge (tgt := 165) hx hb dX8_leastAll_69 (by decide) (fun h => absurd h (by decide)) (fun _ => ?_)
                  refine lv_iconst (v := (-1)) hx hb dX8_leastAll_72 (by decide) ?_
                  refine lv_istore (lv' := [(8, .int (-1)), (7, .int (-1)), (6, .int (-1)), (5, .int (-1)), (4, .int be_96), (3, .int (nI (dn sn))), (0, .ref (a 0)), (1, .int (nI sn)), (2, .int p1)]) hx hb dX8_leastAll_73 hl (by decide) rfl (fun ls hl => ?_)
                  refine W_loop (σ := Nat × Int32) (fun (n_ : Nat) (x_ : Nat × Int32) (H : Heap) (locs : List Loc) (ls : Array Slot) => match x_ with | (q8_98, be_98) => n_ = 26 - q8_98 ∧ (q8_98 ≤ 25) ∧ va_P D classes [((a 0), .inr (8, (fX8 a (nI tx) fp (nI t0) wd (nI we) nu na (nI rd) ts (nI ru) (nI rw) (nI ca) df db sd))), (aI k (a 1) 3 (nF dn)), (aI k (a 4) 27 (sg se tm gs)), (aI k (a 3) 72 fprices), (aI k (a 36) 4 fwalks)] H ∧ va_S (fun q : Nat => s.heap.size ≤ q) s.heap H locs ∧ lv_has ls 10 [(8, .int (nI q8_98 - 1)), (7, .int (-1)), (6, .int (-1)), (5, .int (-1)), (4, .int be_98), (3, .int (nI (dn sn))), (0, .ref (a 0)), (1, .int (nI sn)), (2, .int p1)]) (fun n_98 x_98 H locs ls hI ih_98 => ?_) _ (0, be_96) ⟨rfl, (by omega), hP, hS, (by rw [dn0]; exact lv_sub hl [0, 1, 2, 3, 4, 5, 6, 7, 8] rfl)⟩
                  obtain ⟨q8_98, be_98⟩ := x_98
                  obtain ⟨hm_98, hv_98, hP, hS, hl⟩ := hI
                  subst hm_98
                  rcases q8_98 with _ | q8_98
                  · rw [dn0] at hl
                    refine lv_iload hx hb dX8_leastAll_75 (lv_at hl 0 rfl) ?_
                    refine lv_aload_n hx hb dX8_leastAll_77 rfl (lv_at hl 6 rfl) ?_
                    refine va_get (D := D) (ci := 8) (v := .int (nI ca)) (C := RX8) (T := TX8) (N := 44) hx hb hts inX8 hown hK hP 0 rfl rfl 34 (by decide) (hts _ tw_1007) (fun _ h9 => h9) rfl dX8_leastAll_78 ?_
                    refine lv_iconst (v := 3) hx hb dX8_leastAll_81 (by decide) ?_
                    refine lv_icmp_le (tgt := 89) hx hb dX8_leastAll_82 (by decide) (fun c_99 => ?_) (fun c_99 => ?_)
                    · have c_99 := (nI_leI (a := ca) (b := 3) (by omega) (by omega)).mp c_99
                      refine lv_iconst (v := 0) hx hb dX8_leastAll_89 (by decide) ?_
                      refine lv_icmp_ge (tgt := 159) hx hb dX8_leastAll_90 (by decide) (fun h => absurd h (by decide)) (fun _ => ?_)
                      refine lv_iload_n hx hb dX8_leastAll_93 rfl (lv_at hl 8 rfl) ?_
                      refine lv_iload hx hb dX8_leastAll_94 (lv_at hl 3 rfl) ?_
                      refine lv_iload hx hb dX8_leastAll_96 (lv_at hl 2 rfl) ?_
                      refine lv_iload hx hb dX8_leastAll_98 (lv_at hl 1 rfl) ?_
                      refine lv_iload hx hb dX8_leastAll_100 (lv_at hl 0 rfl) ?_
                      refine ro_i (D := D) (va_runS (As := [.int p1, .int (-1), .int (-1), .int (-1), .int (-1)]) (rest := []) ⟨hx, hb, hml, hown, hts⟩ ((m_canAll l D k st lo p1 (-1) (-1) (-1) (-1)) H.size) (va_cwS 5 hts (gS tw_1450 tw_1451 tw_87 tw_1452) rfl rfl rfl (by decide +kernel) ⟨Nat.le_of_ble_eq_true rfl, Nat.le_of_ble_eq_true rfl⟩) (pS hS hAlo hlo hP hK hDL hZ [] (by decide) rfl) rfl rfl hl.1 rfl (lv_room (Nat.le_of_ble_eq_true rfl)) dX8_leastAll_102 ⟨Nat.le_of_ble_eq_true rfl, Nat.le_of_ble_eq_true rfl⟩) hS hA hP (fun r_100 H locs hw_100 hP hS => ?_)
                      try dsimp only at hw_100
                      refine lv_if_eq (tgt := 124) hx hb dX8_leastAll_105 (by decide) (fun c_101 => ?_) (fun c_101 => ?_)
                      · refine lv_iconst (v := (-1)) hx hb dX8_leastAll_124 (by decide) ?_
                        refine lv_istore (lv' := [(9, .int (-1)), (8, .int (-1)), (7, .int (-1)), (6, .int (-1)), (5, .int (-1)), (4, .int be_98), (3, .int (nI (dn sn))), (0, .ref (a 0)), (1, .int (nI sn)), (2, .int p1)]) hx hb dX8_leastAll_125 hl (by decide) rfl (fun ls hl => ?_)
                        refine lv_iload hx hb dX8_leastAll_127 (lv_at hl 0 rfl) ?_
                        refine lv_if_lt (tgt := 149) hx hb dX8_leastAll_129 (by decide) (fun _ => ?_) (fun h => absurd (by decide) h)
                        refine lv_iload hx hb dX8_leastAll_149 (lv_at hl 5 rfl) ?_
                        refine lv_istore (lv' := [(4, .int be_98), (9, .int (-1)), (8, .int (-1)), (7, .int (-1)), (6, .int (-1)), (5, .int (-1)), (3, .int (nI (dn sn))), (0, .ref (a 0)), (1, .int (nI sn)), (2, .int p1)]) hx hb dX8_leastAll_151 hl (by decide) rfl (fun ls hl => ?_)
                        refine lv_iinc (v := 0) (lv' := [(8, .int 0), (4, .int be_98), (9, .int (-1)), (7, .int (-1)), (6, .int (-1)), (5, .int (-1)), (3, .int (nI (dn sn))), (0, .ref (a 0)), (1, .int (nI sn)), (2, .int p1)]) hx hb dX8_leastAll_153 hl (k := 2) rfl (by decide) (by decide) rfl (fun ls hl => ?_)
                        refine lv_goto (tgt := 75) hx hb dX8_leastAll_156 (by decide) ?_
                        exact ih_98 _ (1, be_98) _ _ _ (by omega) ⟨rfl, (by omega), hP, hS, (by rw [nI_pred]; exact lv_sub hl [0, 3, 4, 5, 1, 6, 7, 8, 9] rfl)⟩
                      · refine lv_aload_n hx hb dX8_leastAll_108 rfl (lv_at hl 6 rfl) ?_
                        refine lv_iload_n hx hb dX8_leastAll_109 rfl (lv_at hl 7 rfl) ?_
                        refine lv_iload hx hb dX8_leastAll_110 (lv_at hl 3 rfl) ?_
                        refine lv_iload hx hb dX8_leastAll_112 (lv_at hl 2 rfl) ?_
                        refine lv_iload hx hb dX8_leastAll_114 (lv_at hl 1 rfl) ?_
                        refine lv_iload hx hb dX8_leastAll_116 (lv_at hl 0 rfl) ?_
                        refine ro_i (D := D) (va_runV (As := [.int (nI sn), .int (-1), .int (-1), .int (-1), .int (-1)]) (rest := []) ⟨hx, hb, hml, hown, hts⟩ ((m_sumAll l D k st lo a tx t0 we rd ru rw ca fp wd nu na ts df db sd dn se tm gs fprices fwalks sn (-1) (-1) (-1) (-1) (by omega) (by omega) (.inl (by decide)) (.inl (by decide)) (.inl (by decide)) (.inl (by decide))) H.size) (cwV 5 hts (gV tw_1459 tw_1461 tw_75 tw_87 tw_1462) rfl rfl rfl (by decide +kernel) ⟨Nat.le_of_ble_eq_true rfl, Nat.le_of_ble_eq_true rfl⟩) (pV hS hAlo hlo hP hK hDL hZ [0, 1, 2, 3, 4] (by decide) rfl (ci := 8) (q := (RX8, TX8, 44)) (q0 := 0) rfl rfl) rfl rfl hl.1 rfl (lv_room (Nat.le_of_ble_eq_true rfl)) dX8_leastAll_118 ⟨Nat.le_of_ble_eq_true rfl, Nat.le_of_ble_eq_true rfl⟩) hS hA hP (fun r_102 H locs hw_102 hP hS => ?_)
                        try dsimp only at hw_102
                        refine lv_goto (tgt := 125) hx hb dX8_leastAll_121 (by decide) ?_
                        refine lv_istore (lv' := [(9, .int r_102), (8, .int (-1)), (7, .int (-1)), (6, .int (-1)), (5, .int (-1)), (4, .int be_98), (3, .int (nI (dn sn))), (0, .ref (a 0)), (1, .int (nI sn)), (2, .int p1)]) hx hb dX8_leastAll_125 hl (by decide) rfl (fun ls hl => ?_)
                        refine lv_iload hx hb dX8_leastAll_127 (lv_at hl 0 rfl) ?_
                        refine lv_if_lt (tgt := 149) hx hb dX8_leastAll_129 (by decide) (fun c_103 => ?_) (fun c_103 => ?_)
                        · refine lv_iload hx hb dX8_leastAll_149 (lv_at hl 5 rfl) ?_
                          refine lv_istore (lv' := [(4, .int be_98), (9, .int r_102), (8, .int (-1)), (7, .int (-1)), (6, .int (-1)), (5, .int (-1)), (3, .int (nI (dn sn))), (0, .ref (a 0)), (1, .int (nI sn)), (2, .int p1)]) hx hb dX8_leastAll_151 hl (by decide) rfl (fun ls hl => ?_)
                          refine lv_iinc (v := 0) (lv' := [(8, .int 0), (4, .int be_98), (9, .int r_102), (7, .int (-1)), (6, .int (-1)), (5, .int (-1)), (3, .int (nI (dn sn))), (0, .ref (a 0)), (1, .int (nI sn)), (2, .int p1)]) hx hb dX8_leastAll_153 hl (k := 2) rfl (by decide) (by decide) rfl (fun ls hl => ?_)
                          refine lv_goto (tgt := 75) hx hb dX8_leastAll_156 (by decide) ?_
                          exact ih_98 _ (1, be_98) _ _ _ (by omega) ⟨rfl, (by omega), hP, hS, (by rw [nI_pred]; exact lv_sub hl [0, 3, 4, 5, 1, 6, 7, 8, 9] rfl)⟩
                        · refine lv_iload hx hb dX8_leastAll_132 (lv_at hl 5 rfl) ?_
                          refine lv_if_lt (tgt := 144) hx hb dX8_leastAll_134 (by decide) (fun c_104 => ?_) (fun c_104 => ?_)
                          · refine lv_iload hx hb dX8_leastAll_144 (lv_at hl 0 rfl) ?_
                            refine lv_goto (tgt := 151) hx hb dX8_leastAll_146 (by decide) ?_
                            refine lv_istore (lv' := [(4, .int r_102), (9, .int r_102), (8, .int (-1)), (7, .int (-1)), (6, .int (-1)), (5, .int (-1)), (3, .int (nI (dn sn))), (0, .ref (a 0)), (1, .int (nI sn)), (2, .int p1)]) hx hb dX8_leastAll_151 hl (by decide) rfl (fun ls hl => ?_)
                            refine lv_iinc (v := 0) (lv' := [(8, .int 0), (4, .int r_102), (9, .int r_102), (7, .int (-1)), (6, .int (-1)), (5, .int (-1)), (3, .int (nI (dn sn))), (0, .ref (a 0)), (1, .int (nI sn)), (2, .int p1)]) hx hb dX8_leastAll_153 hl (k := 2) rfl (by decide) (by decide) rfl (fun ls hl => ?_)
                            refine lv_goto (tgt := 75) hx hb dX8_leastAll_156 (by decide) ?_
                            exact ih_98 _ (1, r_102) _ _ _ (by omega) ⟨rfl, (by omega), hP, hS, (by rw [nI_pred]; exact lv_sub hl [0, 3, 4, 5, 1, 6, 7, 8, 9] rfl)⟩
                          · refine lv_iload hx hb dX8_leastAll_137 (lv_at hl 0 rfl) ?_
                            refine lv_iload hx hb dX8_leastAll_139 (lv_at hl 5 rfl) ?_
                            refine lv_icmp_ge (tgt := 149) hx hb dX8_leastAll_141 (by decide) (fun c_105 => ?_) (fun c_105 => ?_)
                            · refine lv_iload hx hb dX8_leastAll_149 (lv_at hl 5 rfl) ?_
                              refine lv_istore (lv' := [(4, .int be_98), (9, .int r_102), (8, .int (-1)), (7, .int (-1)), (6, .int (-1)), (5, .int (-1)), (3, .int (nI (dn sn))), (0, .ref (a 0)), (1, .int (nI sn)), (2, .int p1)]) hx hb dX8_leastAll_151 hl (by decide) rfl (fun ls hl => ?_)
                              refine lv_iinc (v := 0) (lv' := [(8, .int 0), (4, .int be_98), (9, .int r_102), (7, .int (-1)), (6, .int (-1)), (5, .int (-1)), (3, .int (nI (dn sn))), (0, .ref (a 0)), (1, .int (nI sn)), (2, .int p1)]) hx hb dX8_leastAll_153 hl (k := 2) rfl (by decide) (by decide) rfl (fun ls hl => ?_)
                              refine lv_goto (tgt := 75) hx hb dX8_leastAll_156 (by decide) ?_
                              exact ih_98 _ (1, be_98) _ _ _ (by omega) ⟨rfl, (by omega), hP, hS, (by rw [nI_pred]; exact lv_sub hl [0, 3, 4, 5, 1, 6, 7, 8, 9] rfl)⟩
                            · refine lv_iload hx hb dX8_leastAll_144 (lv_at hl 0 rfl) ?_
                              refine lv_goto (tgt := 151) hx hb dX8_leastAll_146 (by decide) ?_
                              refine lv_istore (lv' := [(4, .int r_102), (9, .int r_102), (8, .int (-1)), (7, .int (-1)), (6, .int (-1)), (5, .int (-1)), (3, .int (nI (dn sn))), (0, .ref (a 0)), (1, .int (nI sn)), (2, .int p1)]) hx hb dX8_leastAll_151 hl (by decide) rfl (fun ls hl => ?_)
                              refine lv_iinc (v := 0) (lv' := [(8, .int 0), (4, .int r_102), (9, .int r_102), (7, .int (-1)), (6, .int (-1)), (5, .int (-1)), (3, .int (nI (dn sn))), (0, .ref (a 0)), (1, .int (nI sn)), (2, .int p1)]) hx hb dX8_leastAll_153 hl (k := 2) rfl (by decide) (by decide) rfl (fun ls hl => ?_)
                              refine lv_goto (tgt := 75) hx hb dX8_leastAll_156 (by decide) ?_
                              exact ih_98 _ (1, r_102) _ _ _ (by omega) ⟨rfl, (by omega), hP, hS, (by rw [nI_pred]; exact lv_sub hl [0, 3, 4, 5, 1, 6, 7, 8, 9] rfl)⟩
                    · have c_99 : ¬ (ca ≤ 3) := fun h => c_99 ((nI_leI (a := ca) (b := 3) (by omega) (by omega)).mpr h)
                      refine lv_iload_n hx hb dX8_leastAll_85 rfl (lv_at hl 5 rfl) ?_
                      refine lv_goto (tgt := 90) hx hb dX8_leastAll_86 (by decide) ?_
                      refine lv_icmp_ge (tgt := 159) hx hb dX8_leastAll_90 (by decide) (fun c_106 => ?_) (fun c_106 => ?_)
                      · refine lv_iinc (v := 0) (lv' := [(7, .int 0), (8, .int (-1)), (6, .int (-1)), (5, .int (-1)), (4, .int be_98), (3, .int (nI (dn sn))), (0, .ref (a 0)), (1, .int (nI sn)), (2, .int p1)]) hx hb dX8_leastAll_159 hl (k := 1) rfl (by decide) (by decide) rfl (fun ls hl => ?_)
                        refine lv_goto (tgt := 54) hx hb dX8_leastAll_162 (by decide) ?_
                        exact ih_96 _ (1, be_98) _ _ _ (by omega) ⟨rfl, (by omega), hP, hS, (by rw [nI_pred]; exact lv_sub hl [0, 2, 3, 4, 5, 6, 7, 8] rfl)⟩
                      · refine lv_iload_n hx hb dX8_leastAll_93 rfl (lv_at hl 8 rfl) ?_
                        refine lv_iload hx hb dX8_leastAll_94 (lv_at hl 3 rfl) ?_
                        refine lv_iload hx hb dX8_leastAll_96 (lv_at hl 2 rfl) ?_
                        refine lv_iload hx hb dX8_leastAll_98 (lv_at hl 1 rfl) ?_
                        refine lv_iload hx hb dX8_leastAll_100 (lv_at hl 0 rfl) ?_
                        refine ro_i (D := D) (va_runS (As := [.int p1, .int (-1), .int (-1), .int (-1), .int (-1)]) (rest := []) ⟨hx, hb, hml, hown, hts⟩ ((m_canAll l D k st lo p1 (-1) (-1) (-1) (-1)) H.size) (va_cwS 5 hts (gS tw_1450 tw_1451 tw_87 tw_1452) rfl rfl rfl (by decide +kernel) ⟨Nat.le_of_ble_eq_true rfl, Nat.le_of_ble_eq_true rfl⟩) (pS hS hAlo hlo hP hK hDL hZ [] (by decide) rfl) rfl rfl hl.1 rfl (lv_room (Nat.le_of_ble_eq_true rfl)) dX8_leastAll_102 ⟨Nat.le_of_ble_eq_true rfl, Nat.le_of_ble_eq_true rfl⟩) hS hA hP (fun r_107 H locs hw_107 hP hS => ?_)
                        try dsimp only at hw_107
                        refine lv_if_eq (tgt := 124) hx hb dX8_leastAll_105 (by decide) (fun c_108 => ?_) (fun c_108 => ?_)
                        · refine lv_iconst (v := (-1)) hx hb dX8_leastAll_124 (by decide) ?_
                          refine lv_istore (lv' := [(9, .int (-1)), (8, .int (-1)), (7, .int (-1)), (6, .int (-1)), (5, .int (-1)), (4, .int be_98), (3, .int (nI (dn sn))), (0, .ref (a 0)), (1, .int (nI sn)), (2, .int p1)]) hx hb dX8_leastAll_125 hl (by decide) rfl (fun ls hl => ?_)
                          refine lv_iload hx hb dX8_leastAll_127 (lv_at hl 0 rfl) ?_
                          refine lv_if_lt (tgt := 149) hx hb dX8_leastAll_129 (by decide) (fun _ => ?_) (fun h => absurd (by decide) h)
                          refine lv_iload hx hb dX8_leastAll_149 (lv_at hl 5 rfl) ?_
                          refine lv_istore (lv' := [(4, .int be_98), (9, .int (-1)), (8, .int (-1)), (7, .int (-1)), (6, .int (-1)), (5, .int (-1)), (3, .int (nI (dn sn))), (0, .ref (a 0)), (1, .int (nI sn)), (2, .int p1)]) hx hb dX8_leastAll_151 hl (by decide) rfl (fun ls hl => ?_)
                          refine lv_iinc (v := 0) (lv' := [(8, .int 0), (4, .int be_98), (9, .int (-1)), (7, .int (-1)), (6, .int (-1)), (5, .int (-1)), (3, .int (nI (dn sn))), (0, .ref (a 0)), (1, .int (nI sn)), (2, .int p1)]) hx hb dX8_leastAll_153 hl (k := 2) rfl (by decide) (by decide) rfl (fun ls hl => ?_)
                          refine lv_goto (tgt := 75) hx hb dX8_leastAll_156 (by decide) ?_
                          exact ih_98 _ (1, be_98) _ _ _ (by omega) ⟨rfl, (by omega), hP, hS, (by rw [nI_pred]; exact lv_sub hl [0, 3, 4, 5, 1, 6, 7, 8, 9] rfl)⟩
                        · refine lv_aload_n hx hb dX8_leastAll_108 rfl (lv_at hl 6 rfl) ?_
                          refine lv_iload_n hx hb dX8_leastAll_109 rfl (lv_at hl 7 rfl) ?_
                          refine lv_iload hx hb dX8_leastAll_110 (lv_at hl 3 rfl) ?_
                          refine lv_iload hx hb dX8_leastAll_112 (lv_at hl 2 rfl) ?_
                          refine lv_iload hx hb dX8_leastAll_114 (lv_at hl 1 rfl) ?_
                          refine lv_iload hx hb dX8_leastAll_116 (lv_at hl 0 rfl) ?_
                          refine ro_i (D := D) (va_runV (As := [.int (nI sn), .int (-1), .int (-1), .int (-1), .int (-1)]) (rest := []) ⟨hx, hb, hml, hown, hts⟩ ((m_sumAll l D k st lo a tx t0 we rd ru rw ca fp wd nu na ts df db sd dn se tm gs fprices fwalks sn (-1) (-1) (-1) (-1) (by omega) (by omega) (.inl (by decide)) (.inl (by decide)) (.inl (by decide)) (.inl (by decide))) H.size) (cwV 5 hts (gV tw_1459 tw_1461 tw_75 tw_87 tw_1462) rfl rfl rfl (by decide +kernel) ⟨Nat.le_of_ble_eq_true rfl, Nat.le_of_ble_eq_true rfl⟩) (pV hS hAlo hlo hP hK hDL hZ [0, 1, 2, 3, 4] (by decide) rfl (ci := 8) (q := (RX8, TX8, 44)) (q0 := 0) rfl rfl) rfl rfl hl.1 rfl (lv_room (Nat.le_of_ble_eq_true rfl)) dX8_leastAll_118 ⟨Nat.le_of_ble_eq_true rfl, Nat.le_of_ble_eq_true rfl⟩) hS hA hP (fun r_109 H locs hw_109 hP hS => ?_)
                          try dsimp only at hw_109
                          refine lv_goto (tgt := 125) hx hb dX8_leastAll_121 (by decide) ?_
                          refine lv_istore (lv' := [(9, .int r_109), (8, .int (-1)), (7, .int (-1)), (6, .int (-1)), (5, .int (-1)), (4, .int be_98), (3, .int (nI (dn sn))), (0, .ref (a 0)), (1, .int (nI sn)), (2, .int p1)]) hx hb dX8_leastAll_125 hl (by decide) rfl (fun ls hl => ?_)
                          refine lv_iload hx hb dX8_leastAll_127 (lv_at hl 0 rfl) ?_
                          refine lv_if_lt (tgt := 149) hx hb dX8_leastAll_129 (by decide) (fun c_110 => ?_) (fun c_110 => ?_)
                          · refine lv_iload hx hb dX8_leastAll_149 (lv_at hl 5 rfl) ?_
                            refine lv_istore (lv' := [(4, .int be_98), (9, .int r_109), (8, .int (-1)), (7, .int (-1)), (6, .int (-1)), (5, .int (-1)), (3, .int (nI (dn sn))), (0, .ref (a 0)), (1, .int (nI sn)), (2, .int p1)]) hx hb dX8_leastAll_151 hl (by decide) rfl (fun ls hl => ?_)
                            refine lv_iinc (v := 0) (lv' := [(8, .int 0), (4, .int be_98), (9, .int r_109), (7, .int (-1)), (6, .int (-1)), (5, .int (-1)), (3, .int (nI (dn sn))), (0, .ref (a 0)), (1, .int (nI sn)), (2, .int p1)]) hx hb dX8_leastAll_153 hl (k := 2) rfl (by decide) (by decide) rfl (fun ls hl => ?_)
                            refine lv_goto (tgt := 75) hx hb dX8_leastAll_156 (by decide) ?_
                            exact ih_98 _ (1, be_98) _ _ _ (by omega) ⟨rfl, (by omega), hP, hS, (by rw [nI_pred]; exact lv_sub hl [0, 3, 4, 5, 1, 6, 7, 8, 9] rfl)⟩
                          · refine lv_iload hx hb dX8_leastAll_132 (lv_at hl 5 rfl) ?_
                            refine lv_if_lt (tgt := 144) hx hb dX8_leastAll_134 (by decide) (fun c_111 => ?_) (fun c_111 => ?_)
                            · refine lv_iload hx hb dX8_leastAll_144 (lv_at hl 0 rfl) ?_
                              refine lv_goto (tgt := 151) hx hb dX8_leastAll_146 (by decide) ?_
                              refine lv_istore (lv' := [(4, .int r_109), (9, .int r_109), (8, .int (-1)), (7, .int (-1)), (6, .int (-1)), (5, .int (-1)), (3, .int (nI (dn sn))), (0, .ref (a 0)), (1, .int (nI sn)), (2, .int p1)]) hx hb dX8_leastAll_151 hl (by decide) rfl (fun ls hl => ?_)
                              refine lv_iinc (v := 0) (lv' := [(8, .int 0), (4, .int r_109), (9, .int r_109), (7, .int (-1)), (6, .int (-1)), (5, .int (-1)), (3, .int (nI (dn sn))), (0, .ref (a 0)), (1, .int (nI sn)), (2, .int p1)]) hx hb dX8_leastAll_153 hl (k := 2) rfl (by decide) (by decide) rfl (fun ls hl => ?_)
                              refine lv_goto (tgt := 75) hx hb dX8_leastAll_156 (by decide) ?_
                              exact ih_98 _ (1, r_109) _ _ _ (by omega) ⟨rfl, (by omega), hP, hS, (by rw [nI_pred]; exact lv_sub hl [0, 3, 4, 5, 1, 6, 7, 8, 9] rfl)⟩
                            · refine lv_iload hx hb dX8_leastAll_137 (lv_at hl 0 rfl) ?_
                              refine lv_iload hx hb dX8_leastAll_139 (lv_at hl 5 rfl) ?_
                              refine lv_icmp_ge (tgt := 149) hx hb dX8_leastAll_141 (by decide) (fun c_112 => ?_) (fun c_112 => ?_)
                              · refine lv_iload hx hb dX8_leastAll_149 (lv_at hl 5 rfl) ?_
                                refine lv_istore (lv' := [(4, .int be_98), (9, .int r_109), (8, .int (-1)), (7, .int (-1)), (6, .int (-1)), (5, .int (-1)), (3, .int (nI (dn sn))), (0, .ref (a 0)), (1, .int (nI sn)), (2, .int p1)]) hx hb dX8_leastAll_151 hl (by decide) rfl (fun ls hl => ?_)
                                refine lv_iinc (v := 0) (lv' := [(8, .int 0), (4, .int be_98), (9, .int r_109), (7, .int (-1)), (6, .int (-1)), (5, .int (-1)), (3, .int (nI (dn sn))), (0, .ref (a 0)), (1, .int (nI sn)), (2, .int p1)]) hx hb dX8_leastAll_153 hl (k := 2) rfl (by decide) (by decide) rfl (fun ls hl => ?_)
                                refine lv_goto (tgt := 75) hx hb dX8_leastAll_156 (by decide) ?_
                                exact ih_98 _ (1, be_98) _ _ _ (by omega) ⟨rfl, (by omega), hP, hS, (by rw [nI_pred]; exact lv_sub hl [0, 3, 4, 5, 1, 6, 7, 8, 9] rfl)⟩
                              · refine lv_iload hx hb dX8_leastAll_144 (lv_at hl 0 rfl) ?_
                                refine lv_goto (tgt := 151) hx hb dX8_leastAll_146 (by decide) ?_
                                refine lv_istore (lv' := [(4, .int r_109), (9, .int r_109), (8, .int (-1)), (7, .int (-1)), (6, .int (-1)), (5, .int (-1)), (3, .int (nI (dn sn))), (0, .ref (a 0)), (1, .int (nI sn)), (2, .int p1)]) hx hb dX8_leastAll_151 hl (by decide) rfl (fun ls hl => ?_)
                                refine lv_iinc (v := 0) (lv' := [(8, .int 0), (4, .int r_109), (9, .int r_109), (7, .int (-1)), (6, .int (-1)), (5, .int (-1)), (3, .int (nI (dn sn))), (0, .ref (a 0)), (1, .int (nI sn)), (2, .int p1)]) hx hb dX8_leastAll_153 hl (k := 2) rfl (by decide) (by decide) rfl (fun ls hl => ?_)
                                refine lv_goto (tgt := 75) hx hb dX8_leastAll_156 (by decide) ?_
                                exact ih_98 _ (1, r_109) _ _ _ (by omega) ⟨rfl, (by omega), hP, hS, (by rw [nI_pred]; exact lv_sub hl [0, 3, 4, 5, 1, 6, 7, 8, 9] rfl)⟩
                  · rw [nI_pred] at hl
                    refine lv_iload hx hb dX8_leastAll_75 (lv_at hl 0 rfl) ?_
                    refine lv_aload_n hx hb dX8_leastAll_77 rfl (lv_at hl 6 rfl) ?_
                    refine va_get (D := D) (ci := 8) (v := .int (nI ca)) (C := RX8) (T := TX8) (N := 44) hx hb hts inX8 hown hK hP 0 rfl rfl 34 (by decide) (hts _ tw_1007) (fun _ h9 => h9) rfl dX8_leastAll_78 ?_
                    refine lv_iconst (v := 3) hx hb dX8_leastAll_81 (by decide) ?_
                    refine lv_icmp_le (tgt := 89) hx hb dX8_leastAll_82 (by decide) (fun c_113 => ?_) (fun c_113 => ?_)
                    · have c_113 := (nI_leI (a := ca) (b := 3) (by omega) (by omega)).mp c_113
                      refine lv_iconst (v := 0) hx hb dX8_leastAll_89 (by decide) ?_
                      refine lv_icmp_ge (tgt := 159) hx hb dX8_leastAll_90 (by decide) (fun _ => ?_) (fun h => absurd (nI_ge0 (by omega)) h)
                      refine lv_iinc (v := 0) (lv' := [(7, .int 0), (8, .int (nI q8_98)), (6, .int (-1)), (5, .int (-1)), (4, .int be_98), (3, .int (nI (dn sn))), (0, .ref (a 0)), (1, .int (nI sn)), (2, .int p1)]) hx hb dX8_leastAll_159 hl (k := 1) rfl (by decide) (by decide) rfl (fun ls hl => ?_)
                      refine lv_goto (tgt := 54) hx hb dX8_leastAll_162 (by decide) ?_
                      exact ih_96 _ (1, be_98) _ _ _ (by omega) ⟨rfl, (by omega), hP, hS, (by rw [nI_pred]; exact lv_sub hl [0, 2, 3, 4, 5, 6, 7, 8] rfl)⟩
                    · have c_113 : ¬ (ca ≤ 3) := fun h => c_113 ((nI_leI (a := ca) (b := 3) (by omega) (by omega)).mpr h)
                      refine lv_iload_n hx hb dX8_leastAll_85 rfl (lv_at hl 5 rfl) ?_
                      refine lv_goto (tgt := 90) hx hb dX8_leastAll_86 (by decide) ?_
                      refine lv_icmp_ge (tgt := 159) hx hb dX8_leastAll_90 (by decide) (fun c_114 => ?_) (fun c_114 => ?_)
                      · have c_114 := (nI_leI (a := (dn sn)) (b := q8_98) (by omega) (by omega)).mp c_114
                        refine lv_iinc (v := 0) (lv' := [(7, .int 0), (8, .int (nI q8_98)), (6, .int (-1)), (5, .int (-1)), (4, .int be_98), (3, .int (nI (dn sn))), (0, .ref (a 0)), (1, .int (nI sn)), (2, .int p1)]) hx hb dX8_leastAll_159 hl (k := 1) rfl (by decide) (by decide) rfl (fun ls hl => ?_)
                        refine lv_goto (tgt := 54) hx hb dX8_leastAll_162 (by decide) ?_
                        exact ih_96 _ (1, be_98) _ _ _ (by omega) ⟨rfl, (by omega), hP, hS, (by rw [nI_pred]; exact lv_sub hl [0, 2, 3, 4, 5, 6, 7, 8] rfl)⟩
                      · have c_114 : ¬ ((dn sn) ≤ q8_98) := fun h => c_114 ((nI_leI (a := (dn sn)) (b := q8_98) (by omega) (by omega)).mpr h)
                        refine lv_iload_n hx hb dX8_leastAll_93 rfl (lv_at hl 8 rfl) ?_
                        refine lv_iload hx hb dX8_leastAll_94 (lv_at hl 3 rfl) ?_
                        refine lv_iload hx hb dX8_leastAll_96 (lv_at hl 2 rfl) ?_
                        refine lv_iload hx hb dX8_leastAll_98 (lv_at hl 1 rfl) ?_
                        refine lv_iload hx hb dX8_leastAll_100 (lv_at hl 0 rfl) ?_
                        refine ro_i (D := D) (va_runS (As := [.int p1, .int (-1), .int (-1), .int (-1), .int (nI q8_98)]) (rest := []) ⟨hx, hb, hml, hown, hts⟩ ((m_canAll l D k st lo p1 (-1) (-1) (-1) (nI q8_98)) H.size) (va_cwS 5 hts (gS tw_1450 tw_1451 tw_87 tw_1452) rfl rfl rfl (by decide +kernel) ⟨Nat.le_of_ble_eq_true rfl, Nat.le_of_ble_eq_true rfl⟩) (pS hS hAlo hlo hP hK hDL hZ [] (by decide) rfl) rfl rfl hl.1 rfl (lv_room (Nat.le_of_ble_eq_true rfl)) dX8_leastAll_102 ⟨Nat.le_of_ble_eq_true rfl, Nat.le_of_ble_eq_true rfl⟩) hS hA hP (fun r_115 H locs hw_115 hP hS => ?_)
                        try dsimp only at hw_115
                        refine lv_if_eq (tgt := 124) hx hb dX8_leastAll_105 (by decide) (fun c_116 => ?_) (fun c_116 => ?_)
                        · refine lv_iconst (v := (-1)) hx hb dX8_leastAll_124 (by decide) ?_
                          refine lv_istore (lv' := [(9, .int (-1)), (8, .int (nI q8_98)), (7, .int (-1)), (6, .int (-1)), (5, .int (-1)), (4, .int be_98), (3, .int (nI (dn sn))), (0, .ref (a 0)), (1, .int (nI sn)), (2, .int p1)]) hx hb dX8_leastAll_125 hl (by decide) rfl (fun ls hl => ?_)
                          refine lv_iload hx hb dX8_leastAll_127 (lv_at hl 0 rfl) ?_
                          refine lv_if_lt (tgt := 149) hx hb dX8_leastAll_129 (by decide) (fun _ => ?_) (fun h => absurd (by decide) h)
                          refine lv_iload hx hb dX8_leastAll_149 (lv_at hl 5 rfl) ?_
                          refine lv_istore (lv' := [(4, .int be_98), (9, .int (-1)), (8, .int (nI q8_98)), (7, .int (-1)), (6, .int (-1)), (5, .int (-1)), (3, .int (nI (dn sn))), (0, .ref (a 0)), (1, .int (nI sn)), (2, .int p1)]) hx hb dX8_leastAll_151 hl (by decide) rfl (fun ls hl => ?_)
                          refine lv_iinc (v := (nI (q8_98 + 1))) (lv' := [(8, .int (nI (q8_98 + 1))), (4, .int be_98), (9, .int (-1)), (7, .int (-1)), (6, .int (-1)), (5, .int (-1)), (3, .int (nI (dn sn))), (0, .ref (a 0)), (1, .int (nI sn)), (2, .int p1)]) hx hb dX8_leastAll_153 hl (k := 2) rfl (nI_add q8_98 1) (by decide) rfl (fun ls hl => ?_)
                          refine lv_goto (tgt := 75) hx hb dX8_leastAll_156 (by decide) ?_
                          exact ih_98 _ (q8_98 + 1 + 1, be_98) _ _ _ (by omega) ⟨rfl, (by omega), hP, hS, (by rw [nI_pred]; exact lv_sub hl [0, 3, 4, 5, 1, 6, 7, 8, 9] rfl)⟩
                        · refine lv_aload_n hx hb dX8_leastAll_108 rfl (lv_at hl 6 rfl) ?_
                          refine lv_iload_n hx hb dX8_leastAll_109 rfl (lv_at hl 7 rfl) ?_
                          refine lv_iload hx hb dX8_leastAll_110 (lv_at hl 3 rfl) ?_
                          refine lv_iload hx hb dX8_leastAll_112 (lv_at hl 2 rfl) ?_
                          refine lv_iload hx hb dX8_leastAll_114 (lv_at hl 1 rfl) ?_
                          refine lv_iload hx hb dX8_leastAll_116 (lv_at hl 0 rfl) ?_
                          refine ro_i (D := D) (va_runV (As := [.int (nI sn), .int (-1), .int (-1), .int (-1), .int (nI q8_98)]) (rest := []) ⟨hx, hb, hml, hown, hts⟩ ((m_sumAll l D k st lo a tx t0 we rd ru rw ca fp wd nu na ts df db sd dn se tm gs fprices fwalks sn (-1) (-1) (-1) (nI q8_98) (by omega) (by omega) (.inl (by decide)) (.inl (by decide)) (.inl (by decide)) (.inr ⟨q8_98, by omega, rfl⟩)) H.size) (cwV 5 hts (gV tw_1459 tw_1461 tw_75 tw_87 tw_1462) rfl rfl rfl (by decide +kernel) ⟨Nat.le_of_ble_eq_true rfl, Nat.le_of_ble_eq_true rfl⟩) (pV hS hAlo hlo hP hK hDL hZ [0, 1, 2, 3, 4] (by decide) rfl (ci := 8) (q := (RX8, TX8, 44)) (q0 := 0) rfl rfl) rfl rfl hl.1 rfl (lv_room (Nat.le_of_ble_eq_true rfl)) dX8_leastAll_118 ⟨Nat.le_of_ble_eq_true rfl, Nat.le_of_ble_eq_true rfl⟩) hS hA hP (fun r_117 H locs hw_117 hP hS => ?_)
                          try dsimp only at hw_117
                          refine lv_goto (tgt := 125) hx hb dX8_leastAll_121 (by decide) ?_
                          refine lv_istore (lv' := [(9, .int r_117), (8, .int (nI q8_98)), (7, .int (-1)), (6, .int (-1)), (5, .int (-1)), (4, .int be_98), (3, .int (nI (dn sn))), (0, .ref (a 0)), (1, .int (nI sn)), (2, .int p1)]) hx hb dX8_leastAll_125 hl (by decide) rfl (fun ls hl => ?_)
                          refine lv_iload hx hb dX8_leastAll_127 (lv_at hl 0 rfl) ?_
                          refine lv_if_lt (tgt := 149) hx hb dX8_leastAll_129 (by decide) (fun c_118 => ?_) (fun c_118 => ?_)
                          · refine lv_iload hx hb dX8_leastAll_149 (lv_at hl 5 rfl) ?_
                            refine lv_istore (lv' := [(4, .int be_98), (9, .int r_117), (8, .int (nI q8_98)), (7, .int (-1)), (6, .int (-1)), (5, .int (-1)), (3, .int (nI (dn sn))), (0, .ref (a 0)), (1, .int (nI sn)), (2, .int p1)]) hx hb dX8_leastAll_151 hl (by decide) rfl (fun ls hl => ?_)
                            refine lv_iinc (v := (nI (q8_98 + 1))) (lv' := [(8, .int (nI (q8_98 + 1))), (4, .int be_98), (9, .int r_117), (7, .int (-1)), (6, .int (-1)), (5, .int (-1)), (3, .int (nI (dn sn))), (0, .ref (a 0)), (1, .int (nI sn)), (2, .int p1)]) hx hb dX8_leastAll_153 hl (k := 2) rfl (nI_add q8_98 1) (by decide) rfl (fun ls hl => ?_)
                            refine lv_goto (tgt := 75) hx hb dX8_leastAll_156 (by decide) ?_
                            exact ih_98 _ (q8_98 + 1 + 1, be_98) _ _ _ (by omega) ⟨rfl, (by omega), hP, hS, (by rw [nI_pred]; exact lv_sub hl [0, 3, 4, 5, 1, 6, 7, 8, 9] rfl)⟩
                          · refine lv_iload hx hb dX8_leastAll_132 (lv_at hl 5 rfl) ?_
                            refine lv_if_lt (tgt := 144) hx hb dX8_leastAll_134 (by decide) (fun c_119 => ?_) (fun c_119 => ?_)
                            · refine lv_iload hx hb dX8_leastAll_144 (lv_at hl 0 rfl) ?_
                              refine lv_goto (tgt := 151) hx hb dX8_leastAll_146 (by decide) ?_
                              refine lv_istore (lv' := [(4, .int r_117), (9, .int r_117), (8, .int (nI q8_98)), (7, .int (-1)), (6, .int (-1)), (5, .int (-1)), (3, .int (nI (dn sn))), (0, .ref (a 0)), (1, .int (nI sn)), (2, .int p1)]) hx hb dX8_leastAll_151 hl (by decide) rfl (fun ls hl => ?_)
                              refine lv_iinc (v := (nI (q8_98 + 1))) (lv' := [(8, .int (nI (q8_98 + 1))), (4, .int r_117), (9, .int r_117), (7, .int (-1)), (6, .int (-1)), (5, .int (-1)), (3, .int (nI (dn sn))), (0, .ref (a 0)), (1, .int (nI sn)), (2, .int p1)]) hx hb dX8_leastAll_153 hl (k := 2) rfl (nI_add q8_98 1) (by decide) rfl (fun ls hl => ?_)
                              refine lv_goto (tgt := 75) hx hb dX8_leastAll_156 (by decide) ?_
                              exact ih_98 _ (q8_98 + 1 + 1, r_117) _ _ _ (by omega) ⟨rfl, (by omega), hP, hS, (by rw [nI_pred]; exact lv_sub hl [0, 3, 4, 5, 1, 6, 7, 8, 9] rfl)⟩
                            · refine lv_iload hx hb dX8_leastAll_137 (lv_at hl 0 rfl) ?_
                              refine lv_iload hx hb dX8_leastAll_139 (lv_at hl 5 rfl) ?_
                              refine lv_icmp_ge (tgt := 149) hx hb dX8_leastAll_141 (by decide) (fun c_120 => ?_) (fun c_120 => ?_)
                              · refine lv_iload hx hb dX8_leastAll_149 (lv_at hl 5 rfl) ?_
                                refine lv_istore (lv' := [(4, .int be_98), (9, .int r_117), (8, .int (nI q8_98)), (7, .int (-1)), (6, .int (-1)), (5, .int (-1)), (3, .int (nI (dn sn))), (0, .ref (a 0)), (1, .int (nI sn)), (2, .int p1)]) hx hb dX8_leastAll_151 hl (by decide) rfl (fun ls hl => ?_)
                                refine lv_iinc (v := (nI (q8_98 + 1))) (lv' := [(8, .int (nI (q8_98 + 1))), (4, .int be_98), (9, .int r_117), (7, .int (-1)), (6, .int (-1)), (5, .int (-1)), (3, .int (nI (dn sn))), (0, .ref (a 0)), (1, .int (nI sn)), (2, .int p1)]) hx hb dX8_leastAll_153 hl (k := 2) rfl (nI_add q8_98 1) (by decide) rfl (fun ls hl => ?_)
                                refine lv_goto (tgt := 75) hx hb dX8_leastAll_156 (by decide) ?_
                                exact ih_98 _ (q8_98 + 1 + 1, be_98) _ _ _ (by omega) ⟨rfl, (by omega), hP, hS, (by rw [nI_pred]; exact lv_sub hl [0, 3, 4, 5, 1, 6, 7, 8, 9] rfl)⟩
                              · refine lv_iload hx hb dX8_leastAll_144 (lv_at hl 0 rfl) ?_
                                refine lv_goto (tgt := 151) hx hb dX8_leastAll_146 (by decide) ?_
                                refine lv_istore (lv' := [(4, .int r_117), (9, .int r_117), (8, .int (nI q8_98)), (7, .int (-1)), (6, .int (-1)), (5, .int (-1)), (3, .int (nI (dn sn))), (0, .ref (a 0)), (1, .int (nI sn)), (2, .int p1)]) hx hb dX8_leastAll_151 hl (by decide) rfl (fun ls hl => ?_)
                                refine lv_iinc (v := (nI (q8_98 + 1))) (lv' := [(8, .int (nI (q8_98 + 1))), (4, .int r_117), (9, .int r_117), (7, .int (-1)), (6, .int (-1)), (5, .int (-1)), (3, .int (nI (dn sn))), (0, .ref (a 0)), (1, .int (nI sn)), (2, .int p1)]) hx hb dX8_leastAll_153 hl (k := 2) rfl (nI_add q8_98 1) (by decide) rfl (fun ls hl => ?_)
                                refine lv_goto (tgt := 75) hx hb dX8_leastAll_156 (by decide) ?_
                                exact ih_98 _ (q8_98 + 1 + 1, r_117) _ _ _ (by omega) ⟨rfl, (by omega), hP, hS, (by rw [nI_pred]; exact lv_sub hl [0, 3, 4, 5, 1, 6, 7, 8, 9] rfl)⟩
                · have c_97 : ¬ (ca ≤ 2) := fun h => c_97 ((nI_leI (a := ca) (b := 2) (by omega) (by omega)).mpr h)
                  refine lv_iload_n hx hb dX8_leastAll_64 rfl (lv_at hl 4 rfl) ?_
                  refine lv_goto (tgt := 69) hx hb dX8_leastAll_65 (by decide) ?_
                  refine lv_icmp_ge (tgt := 165) hx hb dX8_leastAll_69 (by decide) (fun c_121 => ?_) (fun c_121 => ?_)
                  · refine lv_iinc (v := 0) (lv' := [(6, .int 0), (7, .int (-1)), (5, .int (-1)), (4, .int be_96), (3, .int (nI (dn sn))), (0, .ref (a 0)), (1, .int (nI sn)), (2, .int p1)]) hx hb dX8_leastAll_165 hl (k := 1) rfl (by decide) (by decide) rfl (fun ls hl => ?_)
                    refine lv_goto (tgt := 33) hx hb dX8_leastAll_168 (by decide) ?_
                    exact ih_19 _ (1, be_96) _ _ _ (by omega) ⟨rfl, (by omega), hP, hS, (by rw [nI_pred]; exact lv_sub hl [0, 2, 3, 4, 5, 6, 7] rfl)⟩
                  · refine lv_iconst (v := (-1)) hx hb dX8_leastAll_72 (by decide) ?_
                    refine lv_istore (lv' := [(8, .int (-1)), (7, .int (-1)), (6, .int (-1)), (5, .int (-1)), (4, .int be_96), (3, .int (nI (dn sn))), (0, .ref (a 0)), (1, .int (nI sn)), (2, .int p1)]) hx hb dX8_leastAll_73 hl (by decide) rfl (fun ls hl => ?_)
                    refine W_loop (σ := Nat × Int32) (fun (n_ : Nat) (x_ : Nat × Int32) (H : Heap) (locs : List Loc) (ls : Array Slot) => match x_ with | (q8_122, be_122) => n_ = 26 - q8_122 ∧ (q8_122 ≤ 25) ∧ va_P D classes [((a 0), .inr (8, (fX8 a (nI tx) fp (nI t0) wd (nI we) nu na (nI rd) ts (nI ru) (nI rw) (nI ca) df db sd))), (aI k (a 1) 3 (nF dn)), (aI k (a 4) 27 (sg se tm gs)), (aI k (a 3) 72 fprices), (aI k (a 36) 4 fwalks)] H ∧ va_S (fun q : Nat => s.heap.size ≤ q) s.heap H locs ∧ lv_has ls 10 [(8, .int (nI q8_122 - 1)), (7, .int (-1)), (6, .int (-1)), (5, .int (-1)), (4, .int be_122), (3, .int (nI (dn sn))), (0, .ref (a 0)), (1, .int (nI sn)), (2, .int p1)]) (fun n_122 x_122 H locs ls hI ih_122 => ?_) _ (0, be_96) ⟨rfl, (by omega), hP, hS, (by rw [dn0]; exact lv_sub hl [0, 1, 2, 3, 4, 5, 6, 7, 8] rfl)⟩
                    obtain ⟨q8_122, be_122⟩ := x_122
                    obtain ⟨hm_122, hv_122, hP, hS, hl⟩ := hI
                    subst hm_122
                    rcases q8_122 with _ | q8_122
                    · rw [dn0] at hl
                      refine lv_iload hx hb dX8_leastAll_75 (lv_at hl 0 rfl) ?_
                      refine lv_aload_n hx hb dX8_leastAll_77 rfl (lv_at hl 6 rfl) ?_
                      refine va_get (D := D) (ci := 8) (v := .int (nI ca)) (C := RX8) (T := TX8) (N := 44) hx hb hts inX8 hown hK hP 0 rfl rfl 34 (by decide) (hts _ tw_1007) (fun _ h9 => h9) rfl dX8_leastAll_78 ?_
                      refine lv_iconst (v := 3) hx hb dX8_leastAll_81 (by decide) ?_
                      refine lv_icmp_le (tgt := 89) hx hb dX8_leastAll_82 (by decide) (fun c_123 => ?_) (fun c_123 => ?_)
                      · have c_123 := (nI_leI (a := ca) (b := 3) (by omega) (by omega)).mp c_123
                        refine lv_iconst (v := 0) hx hb dX8_leastAll_89 (by decide) ?_
                        refine lv_icmp_ge (tgt := 159) hx hb dX8_leastAll_90 (by decide) (fun h => absurd h (by decide)) (fun _ => ?_)
                        refine lv_iload_n hx hb dX8_leastAll_93 rfl (lv_at hl 8 rfl) ?_
                        refine lv_iload hx hb dX8_leastAll_94 (lv_at hl 3 rfl) ?_
                        refine lv_iload hx hb dX8_leastAll_96 (lv_at hl 2 rfl) ?_
                        refine lv_iload hx hb dX8_leastAll_98 (lv_at hl 1 rfl) ?_
                        refine lv_iload hx hb dX8_leastAll_100 (lv_at hl 0 rfl) ?_
                        refine ro_i (D := D) (va_runS (As := [.int p1, .int (-1), .int (-1), .int (-1), .int (-1)]) (rest := []) ⟨hx, hb, hml, hown, hts⟩ ((m_canAll l D k st lo p1 (-1) (-1) (-1) (-1)) H.size) (va_cwS 5 hts (gS tw_1450 tw_1451 tw_87 tw_1452) rfl rfl rfl (by decide +kernel) ⟨Nat.le_of_ble_eq_true rfl, Nat.le_of_ble_eq_true rfl⟩) (pS hS hAlo hlo hP hK hDL hZ [] (by decide) rfl) rfl rfl hl.1 rfl (lv_room (Nat.le_of_ble_eq_true rfl)) dX8_leastAll_102 ⟨Nat.le_of_ble_eq_true rfl, Nat.le_of_ble_eq_true rfl⟩) hS hA hP (fun r_124 H locs hw_124 hP hS => ?_)
                        try dsimp only at hw_124
                        refine lv_if_eq (tgt := 124) hx hb dX8_leastAll_105 (by decide) (fun c_125 => ?_) (fun c_125 => ?_)
                        · refine lv_iconst (v := (-1)) hx hb dX8_leastAll_124 (by decide) ?_
                          refine lv_istore (lv' := [(9, .int (-1)), (8, .int (-1)), (7, .int (-1)), (6, .int (-1)), (5, .int (-1)), (4, .int be_122), (3, .int (nI (dn sn))), (0, .ref (a 0)), (1, .int (nI sn)), (2, .int p1)]) hx hb dX8_leastAll_125 hl (by decide) rfl (fun ls hl => ?_)
                          refine lv_iload hx hb dX8_leastAll_127 (lv_at hl 0 rfl) ?_
                          refine lv_if_lt (tgt := 149) hx hb dX8_leastAll_129 (by decide) (fun _ => ?_) (fun h => absurd (by decide) h)
                          refine lv_iload hx hb dX8_leastAll_149 (lv_at hl 5 rfl) ?_
                          refine lv_istore (lv' := [(4, .int be_122), (9, .int (-1)), (8, .int (-1)), (7, .int (-1)), (6, .int (-1)), (5, .int (-1)), (3, .int (nI (dn sn))), (0, .ref (a 0)), (1, .int (nI sn)), (2, .int p1)]) hx hb dX8_leastAll_151 hl (by decide) rfl (fun ls hl => ?_)
                          refine lv_iinc (v := 0) (lv' := [(8, .int 0), (4, .int be_122), (9, .int (-1)), (7, .int (-1)), (6, .int (-1)), (5, .int (-1)), (3, .int (nI (dn sn))), (0, .ref (a 0)), (1, .int (nI sn)), (2, .int p1)]) hx hb dX8_leastAll_153 hl (k := 2) rfl (by decide) (by decide) rfl (fun ls hl => ?_)
                          refine lv_goto (tgt := 75) hx hb dX8_leastAll_156 (by decide) ?_
                          exact ih_122 _ (1, be_122) _ _ _ (by omega) ⟨rfl, (by omega), hP, hS, (by rw [nI_pred]; exact lv_sub hl [0, 3, 4, 5, 1, 6, 7, 8, 9] rfl)⟩
                        · refine lv_aload_n hx hb dX8_leastAll_108 rfl (lv_at hl 6 rfl) ?_
                          refine lv_iload_n hx hb dX8_leastAll_109 rfl (lv_at hl 7 rfl) ?_
                          refine lv_iload hx hb dX8_leastAll_110 (lv_at hl 3 rfl) ?_
                          refine lv_iload hx hb dX8_leastAll_112 (lv_at hl 2 rfl) ?_
                          refine lv_iload hx hb dX8_leastAll_114 (lv_at hl 1 rfl) ?_
                          refine lv_iload hx hb dX8_leastAll_116 (lv_at hl 0 rfl) ?_
                          refine ro_i (D := D) (va_runV (As := [.int (nI sn), .int (-1), .int (-1), .int (-1), .int (-1)]) (rest := []) ⟨hx, hb, hml, hown, hts⟩ ((m_sumAll l D k st lo a tx t0 we rd ru rw ca fp wd nu na ts df db sd dn se tm gs fprices fwalks sn (-1) (-1) (-1) (-1) (by omega) (by omega) (.inl (by decide)) (.inl (by decide)) (.inl (by decide)) (.inl (by decide))) H.size) (cwV 5 hts (gV tw_1459 tw_1461 tw_75 tw_87 tw_1462) rfl rfl rfl (by decide +kernel) ⟨Nat.le_of_ble_eq_true rfl, Nat.le_of_ble_eq_true rfl⟩) (pV hS hAlo hlo hP hK hDL hZ [0, 1, 2, 3, 4] (by decide) rfl (ci := 8) (q := (RX8, TX8, 44)) (q0 := 0) rfl rfl) rfl rfl hl.1 rfl (lv_room (Nat.le_of_ble_eq_true rfl)) dX8_leastAll_118 ⟨Nat.le_of_ble_eq_true rfl, Nat.le_of_ble_eq_true rfl⟩) hS hA hP (fun r_126 H locs hw_126 hP hS => ?_)
                          try dsimp only at hw_126
                          refine lv_goto (tgt := 125) hx hb dX8_leastAll_121 (by decide) ?_
                          refine lv_istore (lv' := [(9, .int r_126), (8, .int (-1)), (7, .int (-1)), (6, .int (-1)), (5, .int (-1)), (4, .int be_122), (3, .int (nI (dn sn))), (0, .ref (a 0)), (1, .int (nI sn)), (2, .int p1)]) hx hb dX8_leastAll_125 hl (by decide) rfl (fun ls hl => ?_)
                          refine lv_iload hx hb dX8_leastAll_127 (lv_at hl 0 rfl) ?_
                          refine lv_if_lt (tgt := 149) hx hb dX8_leastAll_129 (by decide) (fun c_127 => ?_) (fun c_127 => ?_)
                          · refine lv_iload hx hb dX8_leastAll_149 (lv_at hl 5 rfl) ?_
                            refine lv_istore (lv' := [(4, .int be_122), (9, .int r_126), (8, .int (-1)), (7, .int (-1)), (6, .int (-1)), (5, .int (-1)), (3, .int (nI (dn sn))), (0, .ref (a 0)), (1, .int (nI sn)), (2, .int p1)]) hx hb dX8_leastAll_151 hl (by decide) rfl (fun ls hl => ?_)
                            refine lv_iinc (v := 0) (lv' := [(8, .int 0), (4, .int be_122), (9, .int r_126), (7, .int (-1)), (6, .int (-1)), (5, .int (-1)), (3, .int (nI (dn sn))), (0, .ref (a 0)), (1, .int (nI sn)), (2, .int p1)]) hx hb dX8_leastAll_153 hl (k := 2) rfl (by decide) (by decide) rfl (fun ls hl => ?_)
                            refine lv_goto (tgt := 75) hx hb dX8_leastAll_156 (by decide) ?_
                            exact ih_122 _ (1, be_122) _ _ _ (by omega) ⟨rfl, (by omega), hP, hS, (by rw [nI_pred]; exact lv_sub hl [0, 3, 4, 5, 1, 6, 7, 8, 9] rfl)⟩
                          · refine lv_iload hx hb dX8_leastAll_132 (lv_at hl 5 rfl) ?_
                            refine lv_if_lt (tgt := 144) hx hb dX8_leastAll_134 (by decide) (fun c_128 => ?_) (fun c_128 => ?_)
                            · refine lv_iload hx hb dX8_leastAll_144 (lv_at hl 0 rfl) ?_
                              refine lv_goto (tgt := 151) hx hb dX8_leastAll_146 (by decide) ?_
                              refine lv_istore (lv' := [(4, .int r_126), (9, .int r_126), (8, .int (-1)), (7, .int (-1)), (6, .int (-1)), (5, .int (-1)), (3, .int (nI (dn sn))), (0, .ref (a 0)), (1, .int (nI sn)), (2, .int p1)]) hx hb dX8_leastAll_151 hl (by decide) rfl (fun ls hl => ?_)
                              refine lv_iinc (v := 0) (lv' := [(8, .int 0), (4, .int r_126), (9, .int r_126), (7, .int (-1)), (6, .int (-1)), (5, .int (-1)), (3, .int (nI (dn sn))), (0, .ref (a 0)), (1, .int (nI sn)), (2, .int p1)]) hx hb dX8_leastAll_153 hl (k := 2) rfl (by decide) (by decide) rfl (fun ls hl => ?_)
                              refine lv_goto (tgt := 75) hx hb dX8_leastAll_156 (by decide) ?_
                              exact ih_122 _ (1, r_126) _ _ _ (by omega) ⟨rfl, (by omega), hP, hS, (by rw [nI_pred]; exact lv_sub hl [0, 3, 4, 5, 1, 6, 7, 8, 9] rfl)⟩
                            · refine lv_iload hx hb dX8_leastAll_137 (lv_at hl 0 rfl) ?_
                              refine lv_iload hx hb dX8_leastAll_139 (lv_at hl 5 rfl) ?_
                              refine lv_icmp_ge (tgt := 149) hx hb dX8_leastAll_141 (by decide) (fun c_129 => ?_) (fun c_129 => ?_)
                              · refine lv_iload hx hb dX8_leastAll_149 (lv_at hl 5 rfl) ?_
                                refine lv_istore (lv' := [(4, .int be_122), (9, .int r_126), (8, .int (-1)), (7, .int (-1)), (6, .int (-1)), (5, .int (-1)), (3, .int (nI (dn sn))), (0, .ref (a 0)), (1, .int (nI sn)), (2, .int p1)]) hx hb dX8_leastAll_151 hl (by decide) rfl (fun ls hl => ?_)
                                refine lv_iinc (v := 0) (lv' := [(8, .int 0), (4, .int be_122), (9, .int r_126), (7, .int (-1)), (6, .int (-1)), (5, .int (-1)), (3, .int (nI (dn sn))), (0, .ref (a 0)), (1, .int (nI sn)), (2, .int p1)]) hx hb dX8_leastAll_153 hl (k := 2) rfl (by decide) (by decide) rfl (fun ls hl => ?_)
                                refine lv_goto (tgt := 75) hx hb dX8_leastAll_156 (by decide) ?_
                                exact ih_122 _ (1, be_122) _ _ _ (by omega) ⟨rfl, (by omega), hP, hS, (by rw [nI_pred]; exact lv_sub hl [0, 3, 4, 5, 1, 6, 7, 8, 9] rfl)⟩
                              · refine lv_iload hx hb dX8_leastAll_144 (lv_at hl 0 rfl) ?_
                                refine lv_goto (tgt := 151) hx hb dX8_leastAll_146 (by decide) ?_
                                refine lv_istore (lv' := [(4, .int r_126), (9, .int r_126), (8, .int (-1)), (7, .int (-1)), (6, .int (-1)), (5, .int (-1)), (3, .int (nI (dn sn))), (0, .ref (a 0)), (1, .int (nI sn)), (2, .int p1)]) hx hb dX8_leastAll_151 hl (by decide) rfl (fun ls hl => ?_)
                                refine lv_iinc (v := 0) (lv' := [(8, .int 0), (4, .int r_126), (9, .int r_126), (7, .int (-1)), (6, .int (-1)), (5, .int (-1)), (3, .int (nI (dn sn))), (0, .ref (a 0)), (1, .int (nI sn)), (2, .int p1)]) hx hb dX8_leastAll_153 hl (k := 2) rfl (by decide) (by decide) rfl (fun ls hl => ?_)
                                refine lv_goto (tgt := 75) hx hb dX8_leastAll_156 (by decide) ?_
                                exact ih_122 _ (1, r_126) _ _ _ (by omega) ⟨rfl, (by omega), hP, hS, (by rw [nI_pred]; exact lv_sub hl [0, 3, 4, 5, 1, 6, 7, 8, 9] rfl)⟩
                      · have c_123 : ¬ (ca ≤ 3) := fun h => c_123 ((nI_leI (a := ca) (b := 3) (by omega) (by omega)).mpr h)
                        refine lv_iload_n hx hb dX8_leastAll_85 rfl (lv_at hl 5 rfl) ?_
                        refine lv_goto (tgt := 90) hx hb dX8_leastAll_86 (by decide) ?_
                        refine lv_icmp_ge (tgt := 159) hx hb dX8_leastAll_90 (by decide) (fun c_130 => ?_) (fun c_130 => ?_)
                        · refine lv_iinc (v := 0) (lv' := [(7, .int 0), (8, .int (-1)), (6, .int (-1)), (5, .int (-1)), (4, .int be_122), (3, .int (nI (dn sn))), (0, .ref (a 0)), (1, .int (nI sn)), (2, .int p1)]) hx hb dX8_leastAll_159 hl (k := 1) rfl (by decide) (by decide) rfl (fun ls hl => ?_)
                          refine lv_goto (tgt := 54) hx hb dX8_leastAll_162 (by decide) ?_
                          exact ih_96 _ (1, be_122) _ _ _ (by omega) ⟨rfl, (by omega), hP, hS, (by rw [nI_pred]; exact lv_sub hl [0, 2, 3, 4, 5, 6, 7, 8] rfl)⟩
                        · refine lv_iload_n hx hb dX8_leastAll_93 rfl (lv_at hl 8 rfl) ?_
                          refine lv_iload hx hb dX8_leastAll_94 (lv_at hl 3 rfl) ?_
                          refine lv_iload hx hb dX8_leastAll_96 (lv_at hl 2 rfl) ?_
                          refine lv_iload hx hb dX8_leastAll_98 (lv_at hl 1 rfl) ?_
                          refine lv_iload hx hb dX8_leastAll_100 (lv_at hl 0 rfl) ?_
                          refine ro_i (D := D) (va_runS (As := [.int p1, .int (-1), .int (-1), .int (-1), .int (-1)]) (rest := []) ⟨hx, hb, hml, hown, hts⟩ ((m_canAll l D k st lo p1 (-1) (-1) (-1) (-1)) H.size) (va_cwS 5 hts (gS tw_1450 tw_1451 tw_87 tw_1452) rfl rfl rfl (by decide +kernel) ⟨Nat.le_of_ble_eq_true rfl, Nat.le_of_ble_eq_true rfl⟩) (pS hS hAlo hlo hP hK hDL hZ [] (by decide) rfl) rfl rfl hl.1 rfl (lv_room (Nat.le_of_ble_eq_true rfl)) dX8_leastAll_102 ⟨Nat.le_of_ble_eq_true rfl, Nat.le_of_ble_eq_true rfl⟩) hS hA hP (fun r_131 H locs hw_131 hP hS => ?_)
                          try dsimp only at hw_131
                          refine lv_if_eq (tgt := 124) hx hb dX8_leastAll_105 (by decide) (fun c_132 => ?_) (fun c_132 => ?_)
                          · refine lv_iconst (v := (-1)) hx hb dX8_leastAll_124 (by decide) ?_
                            refine lv_istore (lv' := [(9, .int (-1)), (8, .int (-1)), (7, .int (-1)), (6, .int (-1)), (5, .int (-1)), (4, .int be_122), (3, .int (nI (dn sn))), (0, .ref (a 0)), (1, .int (nI sn)), (2, .int p1)]) hx hb dX8_leastAll_125 hl (by decide) rfl (fun ls hl => ?_)
                            refine lv_iload hx hb dX8_leastAll_127 (lv_at hl 0 rfl) ?_
                            refine lv_if_lt (tgt := 149) hx hb dX8_leastAll_129 (by decide) (fun _ => ?_) (fun h => absurd (by decide) h)
                            refine lv_iload hx hb dX8_leastAll_149 (lv_at hl 5 rfl) ?_
                            refine lv_istore (lv' := [(4, .int be_122), (9, .int (-1)), (8, .int (-1)), (7, .int (-1)), (6, .int (-1)), (5, .int (-1)), (3, .int (nI (dn sn))), (0, .ref (a 0)), (1, .int (nI sn)), (2, .int p1)]) hx hb dX8_leastAll_151 hl (by decide) rfl (fun ls hl => ?_)
                            refine lv_iinc (v := 0) (lv' := [(8, .int 0), (4, .int be_122), (9, .int (-1)), (7, .int (-1)), (6, .int (-1)), (5, .int (-1)), (3, .int (nI (dn sn))), (0, .ref (a 0)), (1, .int (nI sn)), (2, .int p1)]) hx hb dX8_leastAll_153 hl (k := 2) rfl (by decide) (by decide) rfl (fun ls hl => ?_)
                            refine lv_goto (tgt := 75) hx hb dX8_leastAll_156 (by decide) ?_
                            exact ih_122 _ (1, be_122) _ _ _ (by omega) ⟨rfl, (by omega), hP, hS, (by rw [nI_pred]; exact lv_sub hl [0, 3, 4, 5, 1, 6, 7, 8, 9] rfl)⟩
                          · refine lv_aload_n hx hb dX8_leastAll_108 rfl (lv_at hl 6 rfl) ?_
                            refine lv_iload_n hx hb dX8_leastAll_109 rfl (lv_at hl 7 rfl) ?_
                            refine lv_iload hx hb dX8_leastAll_110 (lv_at hl 3 rfl) ?_
                            refine lv_iload hx hb dX8_leastAll_112 (lv_at hl 2 rfl) ?_
                            refine lv_iload hx hb dX8_leastAll_114 (lv_at hl 1 rfl) ?_
                            refine lv_iload hx hb dX8_leastAll_116 (lv_at hl 0 rfl) ?_
                            refine ro_i (D := D) (va_runV (As := [.int (nI sn), .int (-1), .int (-1), .int (-1), .int (-1)]) (rest := []) ⟨hx, hb, hml, hown, hts⟩ ((m_sumAll l D k st lo a tx t0 we rd ru rw ca fp wd nu na ts df db sd dn se tm gs fprices fwalks sn (-1) (-1) (-1) (-1) (by omega) (by omega) (.inl (by decide)) (.inl (by decide)) (.inl (by decide)) (.inl (by decide))) H.size) (cwV 5 hts (gV tw_1459 tw_1461 tw_75 tw_87 tw_1462) rfl rfl rfl (by decide +kernel) ⟨Nat.le_of_ble_eq_true rfl, Nat.le_of_ble_eq_true rfl⟩) (pV hS hAlo hlo hP hK hDL hZ [0, 1, 2, 3, 4] (by decide) rfl (ci := 8) (q := (RX8, TX8, 44)) (q0 := 0) rfl rfl) rfl rfl hl.1 rfl (lv_room (Nat.le_of_ble_eq_true rfl)) dX8_leastAll_118 ⟨Nat.le_of_ble_eq_true rfl, Nat.le_of_ble_eq_true rfl⟩) hS hA hP (fun r_133 H locs hw_133 hP hS => ?_)
                            try dsimp only at hw_133
                            refine lv_goto (tgt := 125) hx hb dX8_leastAll_121 (by decide) ?_
                            refine lv_istore (lv' := [(9, .int r_133), (8, .int (-1)), (7, .int (-1)), (6, .int (-1)), (5, .int (-1)), (4, .int be_122), (3, .int (nI (dn sn))), (0, .ref (a 0)), (1, .int (nI sn)), (2, .int p1)]) hx hb dX8_leastAll_125 hl (by decide) rfl (fun ls hl => ?_)
                            refine lv_iload hx hb dX8_leastAll_127 (lv_at hl 0 rfl) ?_
                            refine lv_if_lt (tgt := 149) hx hb dX8_leastAll_129 (by decide) (fun c_134 => ?_) (fun c_134 => ?_)
                            · refine lv_iload hx hb dX8_leastAll_149 (lv_at hl 5 rfl) ?_
                              refine lv_istore (lv' := [(4, .int be_122), (9, .int r_133), (8, .int (-1)), (7, .int (-1)), (6, .int (-1)), (5, .int (-1)), (3, .int (nI (dn sn))), (0, .ref (a 0)), (1, .int (nI sn)), (2, .int p1)]) hx hb dX8_leastAll_151 hl (by decide) rfl (fun ls hl => ?_)
                              refine lv_iinc (v := 0) (lv' := [(8, .int 0), (4, .int be_122), (9, .int r_133), (7, .int (-1)), (6, .int (-1)), (5, .int (-1)), (3, .int (nI (dn sn))), (0, .ref (a 0)), (1, .int (nI sn)), (2, .int p1)]) hx hb dX8_leastAll_153 hl (k := 2) rfl (by decide) (by decide) rfl (fun ls hl => ?_)
                              refine lv_goto (tgt := 75) hx hb dX8_leastAll_156 (by decide) ?_
                              exact ih_122 _ (1, be_122) _ _ _ (by omega) ⟨rfl, (by omega), hP, hS, (by rw [nI_pred]; exact lv_sub hl [0, 3, 4, 5, 1, 6, 7, 8, 9] rfl)⟩
                            · refine lv_iload hx hb dX8_leastAll_132 (lv_at hl 5 rfl) ?_
                              refine lv_if_lt (tgt := 144) hx hb dX8_leastAll_134 (by decide) (fun c_135 => ?_) (fun c_135 => ?_)
                              · refine lv_iload hx hb dX8_leastAll_144 (lv_at hl 0 rfl) ?_
                                refine lv_goto (tgt := 151) hx hb dX8_leastAll_146 (by decide) ?_
                                refine lv_istore (lv' := [(4, .int r_133), (9, .int r_133), (8, .int (-1)), (7, .int (-1)), (6, .int (-1)), (5, .int (-1)), (3, .int (nI (dn sn))), (0, .ref (a 0)), (1, .int (nI sn)), (2, .int p1)]) hx hb dX8_leastAll_151 hl (by decide) rfl (fun ls hl => ?_)
                                refine lv_iinc (v := 0) (lv' := [(8, .int 0), (4, .int r_133), (9, .int r_133), (7, .int (-1)), (6, .int (-1)), (5, .int (-1)), (3, .int (nI (dn sn))), (0, .ref (a 0)), (1, .int (nI sn)), (2, .int p1)]) hx hb dX8_leastAll_153 hl (k := 2) rfl (by decide) (by decide) rfl (fun ls hl => ?_)
                                refine lv_goto (tgt := 75) hx hb dX8_leastAll_156 (by decide) ?_
                                exact ih_122 _ (1, r_133) _ _ _ (by omega) ⟨rfl, (by omega), hP, hS, (by rw [nI_pred]; exact lv_sub hl [0, 3, 4, 5, 1, 6, 7, 8, 9] rfl)⟩
                              · refine lv_iload hx hb dX8_leastAll_137 (lv_at hl 0 rfl) ?_
                                refine lv_iload hx hb dX8_leastAll_139 (lv_at hl 5 rfl) ?_
                                refine lv_icmp_ge (tgt := 149) hx hb dX8_leastAll_141 (by decide) (fun c_136 => ?_) (fun c_136 => ?_)
                                · refine lv_iload hx hb dX8_leastAll_149 (lv_at hl 5 rfl) ?_
                                  refine lv_istore (lv' := [(4, .int be_122), (9, .int r_133), (8, .int (-1)), (7, .int (-1)), (6, .int (-1)), (5, .int (-1)), (3, .int (nI (dn sn))), (0, .ref (a 0)), (1, .int (nI sn)), (2, .int p1)]) hx hb dX8_leastAll_151 hl (by decide) rfl (fun ls hl => ?_)
                                  refine lv_iinc (v := 0) (lv' := [(8, .int 0), (4, .int be_122), (9, .int r_133), (7, .int (-1)), (6, .int (-1)), (5, .int (-1)), (3, .int (nI (dn sn))), (0, .ref (a 0)), (1, .int (nI sn)), (2, .int p1)]) hx hb dX8_leastAll_153 hl (k := 2) rfl (by decide) (by decide) rfl (fun ls hl => ?_)
                                  refine lv_goto (tgt := 75) hx hb dX8_leastAll_156 (by decide) ?_
                                  exact ih_122 _ (1, be_122) _ _ _ (by omega) ⟨rfl, (by omega), hP, hS, (by rw [nI_pred]; exact lv_sub hl [0, 3, 4, 5, 1, 6, 7, 8, 9] rfl)⟩
                                · refine lv_iload hx hb dX8_leastAll_144 (lv_at hl 0 rfl) ?_
                                  refine lv_goto (tgt := 151) hx hb dX8_leastAll_146 (by decide) ?_
                                  refine lv_istore (lv' := [(4, .int r_133), (9, .int r_133), (8, .int (-1)), (7, .int (-1)), (6, .int (-1)), (5, .int (-1)), (3, .int (nI (dn sn))), (0, .ref (a 0)), (1, .int (nI sn)), (2, .int p1)]) hx hb dX8_leastAll_151 hl (by decide) rfl (fun ls hl => ?_)
                                  refine lv_iinc (v := 0) (lv' := [(8, .int 0), (4, .int r_133), (9, .int r_133), (7, .int (-1)), (6, .int (-1)), (5, .int (-1)), (3, .int (nI (dn sn))), (0, .ref (a 0)), (1, .int (nI sn)), (2, .int p1)]) hx hb dX8_leastAll_153 hl (k := 2) rfl (by decide) (by decide) rfl (fun ls hl => ?_)
                                  refine lv_goto (tgt := 75) hx hb dX8_leastAll_156 (by decide) ?_
                                  exact ih_122 _ (1, r_133) _ _ _ (by omega) ⟨rfl, (by omega), hP, hS, (by rw [nI_pred]; exact lv_sub hl [0, 3, 4, 5, 1, 6, 7, 8, 9] rfl)⟩
                    · rw [nI_pred] at hl
                      refine lv_iload hx hb dX8_leastAll_75 (lv_at hl 0 rfl) ?_
                      refine lv_aload_n hx hb dX8_leastAll_77 rfl (lv_at hl 6 rfl) ?_
                      refine va_get (D := D) (ci := 8) (v := .int (nI ca)) (C := RX8) (T := TX8) (N := 44) hx hb hts inX8 hown hK hP 0 rfl rfl 34 (by decide) (hts _ tw_1007) (fun _ h9 => h9) rfl dX8_leastAll_78 ?_
                      refine lv_iconst (v := 3) hx hb dX8_leastAll_81 (by decide) ?_
                      refine lv_icmp_le (tgt := 89) hx hb dX8_leastAll_82 (by decide) (fun c_137 => ?_) (fun c_137 => ?_)
                      · have c_137 := (nI_leI (a := ca) (b := 3) (by omega) (by omega)).mp c_137
                        refine lv_iconst (v := 0) hx hb dX8_leastAll_89 (by decide) ?_
                        refine lv_icmp_ge (tgt := 159) hx hb dX8_leastAll_90 (by decide) (fun _ => ?_) (fun h => absurd (nI_ge0 (by omega)) h)
                        refine lv_iinc (v := 0) (lv' := [(7, .int 0), (8, .int (nI q8_122)), (6, .int (-1)), (5, .int (-1)), (4, .int be_122), (3, .int (nI (dn sn))), (0, .ref (a 0)), (1, .int (nI sn)), (2, .int p1)]) hx hb dX8_leastAll_159 hl (k := 1) rfl (by decide) (by decide) rfl (fun ls hl => ?_)
                        refine lv_goto (tgt := 54) hx hb dX8_leastAll_162 (by decide) ?_
                        exact ih_96 _ (1, be_122) _ _ _ (by omega) ⟨rfl, (by omega), hP, hS, (by rw [nI_pred]; exact lv_sub hl [0, 2, 3, 4, 5, 6, 7, 8] rfl)⟩
                      · have c_137 : ¬ (ca ≤ 3) := fun h => c_137 ((nI_leI (a := ca) (b := 3) (by omega) (by omega)).mpr h)
                        refine lv_iload_n hx hb dX8_leastAll_85 rfl (lv_at hl 5 rfl) ?_
                        refine lv_goto (tgt := 90) hx hb dX8_leastAll_86 (by decide) ?_
                        refine lv_icmp_ge (tgt := 159) hx hb dX8_leastAll_90 (by decide) (fun c_138 => ?_) (fun c_138 => ?_)
                        · have c_138 := (nI_leI (a := (dn sn)) (b := q8_122) (by omega) (by omega)).mp c_138
                          refine lv_iinc (v := 0) (lv' := [(7, .int 0), (8, .int (nI q8_122)), (6, .int (-1)), (5, .int (-1)), (4, .int be_122), (3, .int (nI (dn sn))), (0, .ref (a 0)), (1, .int (nI sn)), (2, .int p1)]) hx hb dX8_leastAll_159 hl (k := 1) rfl (by decide) (by decide) rfl (fun ls hl => ?_)
                          refine lv_goto (tgt := 54) hx hb dX8_leastAll_162 (by decide) ?_
                          exact ih_96 _ (1, be_122) _ _ _ (by omega) ⟨rfl, (by omega), hP, hS, (by rw [nI_pred]; exact lv_sub hl [0, 2, 3, 4, 5, 6, 7, 8] rfl)⟩
                        · have c_138 : ¬ ((dn sn) ≤ q8_122) := fun h => c_138 ((nI_leI (a := (dn sn)) (b := q8_122) (by omega) (by omega)).mpr h)
                          refine lv_iload_n hx hb dX8_leastAll_93 rfl (lv_at hl 8 rfl) ?_
                          refine lv_iload hx hb dX8_leastAll_94 (lv_at hl 3 rfl) ?_
                          refine lv_iload hx hb dX8_leastAll_96 (lv_at hl 2 rfl) ?_
                          refine lv_iload hx hb dX8_leastAll_98 (lv_at hl 1 rfl) ?_
                          refine lv_iload hx hb dX8_leastAll_100 (lv_at hl 0 rfl) ?_
                          refine ro_i (D := D) (va_runS (As := [.int p1, .int (-1), .int (-1), .int (-1), .int (nI q8_122)]) (rest := []) ⟨hx, hb, hml, hown, hts⟩ ((m_canAll l D k st lo p1 (-1) (-1) (-1) (nI q8_122)) H.size) (va_cwS 5 hts (gS tw_1450 tw_1451 tw_87 tw_1452) rfl rfl rfl (by decide +kernel) ⟨Nat.le_of_ble_eq_true rfl, Nat.le_of_ble_eq_true rfl⟩) (pS hS hAlo hlo hP hK hDL hZ [] (by decide) rfl) rfl rfl hl.1 rfl (lv_room (Nat.le_of_ble_eq_true rfl)) dX8_leastAll_102 ⟨Nat.le_of_ble_eq_true rfl, Nat.le_of_ble_eq_true rfl⟩) hS hA hP (fun r_139 H locs hw_139 hP hS => ?_)
                          try dsimp only at hw_139
                          refine lv_if_eq (tgt := 124) hx hb dX8_leastAll_105 (by decide) (fun c_140 => ?_) (fun c_140 => ?_)
                          · refine lv_iconst (v := (-1)) hx hb dX8_leastAll_124 (by decide) ?_
                            refine lv_istore (lv' := [(9, .int (-1)), (8, .int (nI q8_122)), (7, .int (-1)), (6, .int (-1)), (5, .int (-1)), (4, .int be_122), (3, .int (nI (dn sn))), (0, .ref (a 0)), (1, .int (nI sn)), (2, .int p1)]) hx hb dX8_leastAll_125 hl (by decide) rfl (fun ls hl => ?_)
                            refine lv_iload hx hb dX8_leastAll_127 (lv_at hl 0 rfl) ?_
                            refine lv_if_lt (tgt := 149) hx hb dX8_leastAll_129 (by decide) (fun _ => ?_) (fun h => absurd (by decide) h)
                            refine lv_iload hx hb dX8_leastAll_149 (lv_at hl 5 rfl) ?_
                            refine lv_istore (lv' := [(4, .int be_122), (9, .int (-1)), (8, .int (nI q8_122)), (7, .int (-1)), (6, .int (-1)), (5, .int (-1)), (3, .int (nI (dn sn))), (0, .ref (a 0)), (1, .int (nI sn)), (2, .int p1)]) hx hb dX8_leastAll_151 hl (by decide) rfl (fun ls hl => ?_)
                            refine lv_iinc (v := (nI (q8_122 + 1))) (lv' := [(8, .int (nI (q8_122 + 1))), (4, .int be_122), (9, .int (-1)), (7, .int (-1)), (6, .int (-1)), (5, .int (-1)), (3, .int (nI (dn sn))), (0, .ref (a 0)), (1, .int (nI sn)), (2, .int p1)]) hx hb dX8_leastAll_153 hl (k := 2) rfl (nI_add q8_122 1) (by decide) rfl (fun ls hl => ?_)
                            refine lv_goto (tgt := 75) hx hb dX8_leastAll_156 (by decide) ?_
                            exact ih_122 _ (q8_122 + 1 + 1, be_122) _ _ _ (by omega) ⟨rfl, (by omega), hP, hS, (by rw [nI_pred]; exact lv_sub hl [0, 3, 4, 5, 1, 6, 7, 8, 9] rfl)⟩
                          · refine lv_aload_n hx hb dX8_leastAll_108 rfl (lv_at hl 6 rfl) ?_
                            refine lv_iload_n hx hb dX8_leastAll_109 rfl (lv_at hl 7 rfl) ?_
                            refine lv_iload hx hb dX8_leastAll_110 (lv_at hl 3 rfl) ?_
                            refine lv_iload hx hb dX8_leastAll_112 (lv_at hl 2 rfl) ?_
                            refine lv_iload hx hb dX8_leastAll_114 (lv_at hl 1 rfl) ?_
                            refine lv_iload hx hb dX8_leastAll_116 (lv_at hl 0 rfl) ?_
                            refine ro_i (D := D) (va_runV (As := [.int (nI sn), .int (-1), .int (-1), .int (-1), .int (nI q8_122)]) (rest := []) ⟨hx, hb, hml, hown, hts⟩ ((m_sumAll l D k st lo a tx t0 we rd ru rw ca fp wd nu na ts df db sd dn se tm gs fprices fwalks sn (-1) (-1) (-1) (nI q8_122) (by omega) (by omega) (.inl (by decide)) (.inl (by decide)) (.inl (by decide)) (.inr ⟨q8_122, by omega, rfl⟩)) H.size) (cwV 5 hts (gV tw_1459 tw_1461 tw_75 tw_87 tw_1462) rfl rfl rfl (by decide +kernel) ⟨Nat.le_of_ble_eq_true rfl, Nat.le_of_ble_eq_true rfl⟩) (pV hS hAlo hlo hP hK hDL hZ [0, 1, 2, 3, 4] (by decide) rfl (ci := 8) (q := (RX8, TX8, 44)) (q0 := 0) rfl rfl) rfl rfl hl.1 rfl (lv_room (Nat.le_of_ble_eq_true rfl)) dX8_leastAll_118 ⟨Nat.le_of_ble_eq_true rfl, Nat.le_of_ble_eq_true rfl⟩) hS hA hP (fun r_141 H locs hw_141 hP hS => ?_)
                            try dsimp only at hw_141
                            refine lv_goto (tgt := 125) hx hb dX8_leastAll_121 (by decide) ?_
                            refine lv_istore (lv' := [(9, .int r_141), (8, .int (nI q8_122)), (7, .int (-1)), (6, .int (-1)), (5, .int (-1)), (4, .int be_122), (3, .int (nI (dn sn))), (0, .ref (a 0)), (1, .int (nI sn)), (2, .int p1)]) hx hb dX8_leastAll_125 hl (by decide) rfl (fun ls hl => ?_)
                            refine lv_iload hx hb dX8_leastAll_127 (lv_at hl 0 rfl) ?_
                            refine lv_if_lt (tgt := 149) hx hb dX8_leastAll_129 (by decide) (fun c_142 => ?_) (fun c_142 => ?_)
                            · refine lv_iload hx hb dX8_leastAll_149 (lv_at hl 5 rfl) ?_
                              refine lv_istore (lv' := [(4, .int be_122), (9, .int r_141), (8, .int (nI q8_122)), (7, .int (-1)), (6, .int (-1)), (5, .int (-1)), (3, .int (nI (dn sn))), (0, .ref (a 0)), (1, .int (nI sn)), (2, .int p1)]) hx hb dX8_leastAll_151 hl (by decide) rfl (fun ls hl => ?_)
                              refine lv_iinc (v := (nI (q8_122 + 1))) (lv' := [(8, .int (nI (q8_122 + 1))), (4, .int be_122), (9, .int r_141), (7, .int (-1)), (6, .int (-1)), (5, .int (-1)), (3, .int (nI (dn sn))), (0, .ref (a 0)), (1, .int (nI sn)), (2, .int p1)]) hx hb dX8_leastAll_153 hl (k := 2) rfl (nI_add q8_122 1) (by decide) rfl (fun ls hl => ?_)
                              refine lv_goto (tgt := 75) hx hb dX8_leastAll_156 (by decide) ?_
                              exact ih_122 _ (q8_122 + 1 + 1, be_122) _ _ _ (by omega) ⟨rfl, (by omega), hP, hS, (by rw [nI_pred]; exact lv_sub hl [0, 3, 4, 5, 1, 6, 7, 8, 9] rfl)⟩
                            · refine lv_iload hx hb dX8_leastAll_132 (lv_at hl 5 rfl) ?_
                              refine lv_if_lt (tgt := 144) hx hb dX8_leastAll_134 (by decide) (fun c_143 => ?_) (fun c_143 => ?_)
                              · refine lv_iload hx hb dX8_leastAll_144 (lv_at hl 0 rfl) ?_
                                refine lv_goto (tgt := 151) hx hb dX8_leastAll_146 (by decide) ?_
                                refine lv_istore (lv' := [(4, .int r_141), (9, .int r_141), (8, .int (nI q8_122)), (7, .int (-1)), (6, .int (-1)), (5, .int (-1)), (3, .int (nI (dn sn))), (0, .ref (a 0)), (1, .int (nI sn)), (2, .int p1)]) hx hb dX8_leastAll_151 hl (by decide) rfl (fun ls hl => ?_)
                                refine lv_iinc (v := (nI (q8_122 + 1))) (lv' := [(8, .int (nI (q8_122 + 1))), (4, .int r_141), (9, .int r_141), (7, .int (-1)), (6, .int (-1)), (5, .int (-1)), (3, .int (nI (dn sn))), (0, .ref (a 0)), (1, .int (nI sn)), (2, .int p1)]) hx hb dX8_leastAll_153 hl (k := 2) rfl (nI_add q8_122 1) (by decide) rfl (fun ls hl => ?_)
                                refine lv_goto (tgt := 75) hx hb dX8_leastAll_156 (by decide) ?_
                                exact ih_122 _ (q8_122 + 1 + 1, r_141) _ _ _ (by omega) ⟨rfl, (by omega), hP, hS, (by rw [nI_pred]; exact lv_sub hl [0, 3, 4, 5, 1, 6, 7, 8, 9] rfl)⟩
                              · refine lv_iload hx hb dX8_leastAll_137 (lv_at hl 0 rfl) ?_
                                refine lv_iload hx hb dX8_leastAll_139 (lv_at hl 5 rfl) ?_
                                refine lv_icmp_ge (tgt := 149) hx hb dX8_leastAll_141 (by decide) (fun c_144 => ?_) (fun c_144 => ?_)
                                · refine lv_iload hx hb dX8_leastAll_149 (lv_at hl 5 rfl) ?_
                                  refine lv_istore (lv' := [(4, .int be_122), (9, .int r_141), (8, .int (nI q8_122)), (7, .int (-1)), (6, .int (-1)), (5, .int (-1)), (3, .int (nI (dn sn))), (0, .ref (a 0)), (1, .int (nI sn)), (2, .int p1)]) hx hb dX8_leastAll_151 hl (by decide) rfl (fun ls hl => ?_)
                                  refine lv_iinc (v := (nI (q8_122 + 1))) (lv' := [(8, .int (nI (q8_122 + 1))), (4, .int be_122), (9, .int r_141), (7, .int (-1)), (6, .int (-1)), (5, .int (-1)), (3, .int (nI (dn sn))), (0, .ref (a 0)), (1, .int (nI sn)), (2, .int p1)]) hx hb dX8_leastAll_153 hl (k := 2) rfl (nI_add q8_122 1) (by decide) rfl (fun ls hl => ?_)
                                  refine lv_goto (tgt := 75) hx hb dX8_leastAll_156 (by decide) ?_
                                  exact ih_122 _ (q8_122 + 1 + 1, be_122) _ _ _ (by omega) ⟨rfl, (by omega), hP, hS, (by rw [nI_pred]; exact lv_sub hl [0, 3, 4, 5, 1, 6, 7, 8, 9] rfl)⟩
                                · refine lv_iload hx hb dX8_leastAll_144 (lv_at hl 0 rfl) ?_
                                  refine lv_goto (tgt := 151) hx hb dX8_leastAll_146 (by decide) ?_
                                  refine lv_istore (lv' := [(4, .int r_141), (9, .int r_141), (8, .int (nI q8_122)), (7, .int (-1)), (6, .int (-1)), (5, .int (-1)), (3, .int (nI (dn sn))), (0, .ref (a 0)), (1, .int (nI sn)), (2, .int p1)]) hx hb dX8_leastAll_151 hl (by decide) rfl (fun ls hl => ?_)
                                  refine lv_iinc (v := (nI (q8_122 + 1))) (lv' := [(8, .int (nI (q8_122 + 1))), (4, .int r_141), (9, .int r_141), (7, .int (-1)), (6, .int (-1)), (5, .int (-1)), (3, .int (nI (dn sn))), (0, .ref (a 0)), (1, .int (nI sn)), (2, .int p1)]) hx hb dX8_leastAll_153 hl (k := 2) rfl (nI_add q8_122 1) (by decide) rfl (fun ls hl => ?_)
                                  refine lv_goto (tgt := 75) hx hb dX8_leastAll_156 (by decide) ?_
                                  exact ih_122 _ (q8_122 + 1 + 1, r_141) _ _ _ (by omega) ⟨rfl, (by omega), hP, hS, (by rw [nI_pred]; exact lv_sub hl [0, 3, 4, 5, 1, 6, 7, 8, 9] rfl)⟩
              · rw [nI_pred] at hl
                refine lv_iload hx hb dX8_leastAll_54 (lv_at hl 0 rfl) ?_
                refine lv_aload_n hx hb dX8_leastAll_56 rfl (lv_at hl 5 rfl) ?_
                refine va_get (D := D) (ci := 8) (v := .int (nI ca)) (C := RX8) (T := TX8) (N := 44) hx hb hts inX8 hown hK hP 0 rfl rfl 34 (by decide) (hts _ tw_1007) (fun _ h9 => h9) rfl dX8_leastAll_57 ?_
                refine lv_iconst (v := 2) hx hb dX8_leastAll_60 (by decide) ?_
                refine lv_icmp_le (tgt := 68) hx hb dX8_leastAll_61 (by decide) (fun c_145 => ?_) (fun c_145 => ?_)
                · have c_145 := (nI_leI (a := ca) (b := 2) (by omega) (by omega)).mp c_145
                  refine lv_iconst (v := 0) hx hb dX8_leastAll_68 (by decide) ?_
                  refine lv_icmp_ge (tgt := 165) hx hb dX8_leastAll_69 (by decide) (fun _ => ?_) (fun h => absurd (nI_ge0 (by omega)) h)
                  refine lv_iinc (v := 0) (lv' := [(6, .int 0), (7, .int (nI q7_96)), (5, .int (-1)), (4, .int be_96), (3, .int (nI (dn sn))), (0, .ref (a 0)), (1, .int (nI sn)), (2, .int p1)]) hx hb dX8_leastAll_165 hl (k := 1) rfl (by decide) (by decide) rfl (fun ls hl => ?_)
                  refine lv_goto (tgt := 33) hx hb dX8_leastAll_168 (by decide) ?_
                  exact ih_19 _ (1, be_96) _ _ _ (by omega) ⟨rfl, (by omega), hP, hS, (by rw [nI_pred]; exact lv_sub hl [0, 2, 3, 4, 5, 6, 7] rfl)⟩
                · have c_145 : ¬ (ca ≤ 2) := fun h => c_145 ((nI_leI (a := ca) (b := 2) (by omega) (by omega)).mpr h)
                  refine lv_iload_n hx hb dX8_leastAll_64 rfl (lv_at hl 4 rfl) ?_
                  refine lv_goto (tgt := 69) hx hb dX8_leastAll_65 (by decide) ?_
                  refine lv_icmp_ge (tgt := 165) hx hb dX8_leastAll_69 (by decide) (fun c_146 => ?_) (fun c_146 => ?_)
                  · have c_146 := (nI_leI (a := (dn sn)) (b := q7_96) (by omega) (by omega)).mp c_146
                    refine lv_iinc (v := 0) (lv' := [(6, .int 0), (7, .int (nI q7_96)), (5, .int (-1)), (4, .int be_96), (3, .int (nI (dn sn))), (0, .ref (a 0)), (1, .int (nI sn)), (2, .int p1)]) hx hb dX8_leastAll_165 hl (k := 1) rfl (by decide) (by decide) rfl (fun ls hl => ?_)
                    refine lv_goto (tgt := 33) hx hb dX8_leastAll_168 (by decide) ?_
                    exact ih_19 _ (1, be_96) _ _ _ (by omega) ⟨rfl, (by omega), hP, hS, (by rw [nI_pred]; exact lv_sub hl [0, 2, 3, 4, 5, 6, 7] rfl)⟩
                  · have c_146 : ¬ ((dn sn) ≤ q7_96) := fun h => c_146 ((nI_leI (a := (dn sn)) (b := q7_96) (by omega) (by omega)).mpr h)
                    refine lv_iconst (v := (-1)) hx hb dX8_leastAll_72 (by decide) ?_
                    refine lv_istore (lv' := [(8, .int (-1)), (7, .int (nI q7_96)), (6, .int (-1)), (5, .int (-1)), (4, .int be_96), (3, .int (nI (dn sn))), (0, .ref (a 0)), (1, .int (nI sn)), (2, .int p1)]) hx hb dX8_leastAll_73 hl (by decide) rfl (fun ls hl => ?_)
                    refine W_loop (σ := Nat × Int32) (fun (n_ : Nat) (x_ : Nat × Int32) (H : Heap) (locs : List Loc) (ls : Array Slot) => match x_ with | (q8_147, be_147) => n_ = 26 - q8_147 ∧ (q8_147 ≤ 25) ∧ va_P D classes [((a 0), .inr (8, (fX8 a (nI tx) fp (nI t0) wd (nI we) nu na (nI rd) ts (nI ru) (nI rw) (nI ca) df db sd))), (aI k (a 1) 3 (nF dn)), (aI k (a 4) 27 (sg se tm gs)), (aI k (a 3) 72 fprices), (aI k (a 36) 4 fwalks)] H ∧ va_S (fun q : Nat => s.heap.size ≤ q) s.heap H locs ∧ lv_has ls 10 [(8, .int (nI q8_147 - 1)), (7, .int (nI q7_96)), (6, .int (-1)), (5, .int (-1)), (4, .int be_147), (3, .int (nI (dn sn))), (0, .ref (a 0)), (1, .int (nI sn)), (2, .int p1)]) (fun n_147 x_147 H locs ls hI ih_147 => ?_) _ (0, be_96) ⟨rfl, (by omega), hP, hS, (by rw [dn0]; exact lv_sub hl [0, 1, 2, 3, 4, 5, 6, 7, 8] rfl)⟩
                    obtain ⟨q8_147, be_147⟩ := x_147
                    obtain ⟨hm_147, hv_147, hP, hS, hl⟩ := hI
                    subst hm_147
                    rcases q8_147 with _ | q8_147
                    · rw [dn0] at hl
                      refine lv_iload hx hb dX8_leastAll_75 (lv_at hl 0 rfl) ?_
                      refine lv_aload_n hx hb dX8_leastAll_77 rfl (lv_at hl 6 rfl) ?_
                      refine va_get (D := D) (ci := 8) (v := .int (nI ca)) (C := RX8) (T := TX8) (N := 44) hx hb hts inX8 hown hK hP 0 rfl rfl 34 (by decide) (hts _ tw_1007) (fun _ h9 => h9) rfl dX8_leastAll_78 ?_
                      refine lv_iconst (v := 3) hx hb dX8_leastAll_81 (by decide) ?_
                      refine lv_icmp_le (tgt := 89) hx hb dX8_leastAll_82 (by decide) (fun c_148 => ?_) (fun c_148 => ?_)
                      · have c_148 := (nI_leI (a := ca) (b := 3) (by omega) (by omega)).mp c_148
                        refine lv_iconst (v := 0) hx hb dX8_leastAll_89 (by decide) ?_
                        refine lv_icmp_ge (tgt := 159) hx hb dX8_leastAll_90 (by decide) (fun h => absurd h (by decide)) (fun _ => ?_)
                        refine lv_iload_n hx hb dX8_leastAll_93 rfl (lv_at hl 8 rfl) ?_
                        refine lv_iload hx hb dX8_leastAll_94 (lv_at hl 3 rfl) ?_
                        refine lv_iload hx hb dX8_leastAll_96 (lv_at hl 2 rfl) ?_
                        refine lv_iload hx hb dX8_leastAll_98 (lv_at hl 1 rfl) ?_
                        refine lv_iload hx hb dX8_leastAll_100 (lv_at hl 0 rfl) ?_
                        refine ro_i (D := D) (va_runS (As := [.int p1, .int (-1), .int (-1), .int (nI q7_96), .int (-1)]) (rest := []) ⟨hx, hb, hml, hown, hts⟩ ((m_canAll l D k st lo p1 (-1) (-1) (nI q7_96) (-1)) H.size) (va_cwS 5 hts (gS tw_1450 tw_1451 tw_87 tw_1452) rfl rfl rfl (by decide +kernel) ⟨Nat.le_of_ble_eq_true rfl, Nat.le_of_ble_eq_true rfl⟩) (pS hS hAlo hlo hP hK hDL hZ [] (by decide) rfl) rfl rfl hl.1 rfl (lv_room (Nat.le_of_ble_eq_true rfl)) dX8_leastAll_102 ⟨Nat.le_of_ble_eq_true rfl, Nat.le_of_ble_eq_true rfl⟩) hS hA hP (fun r_149 H locs hw_149 hP hS => ?_)
                        try dsimp only at hw_149
                        refine lv_if_eq (tgt := 124) hx hb dX8_leastAll_105 (by decide) (fun c_150 => ?_) (fun c_150 => ?_)
                        · refine lv_iconst (v := (-1)) hx hb dX8_leastAll_124 (by decide) ?_
                          refine lv_istore (lv' := [(9, .int (-1)), (8, .int (-1)), (7, .int (nI q7_96)), (6, .int (-1)), (5, .int (-1)), (4, .int be_147), (3, .int (nI (dn sn))), (0, .ref (a 0)), (1, .int (nI sn)), (2, .int p1)]) hx hb dX8_leastAll_125 hl (by decide) rfl (fun ls hl => ?_)
                          refine lv_iload hx hb dX8_leastAll_127 (lv_at hl 0 rfl) ?_
                          refine lv_if_lt (tgt := 149) hx hb dX8_leastAll_129 (by decide) (fun _ => ?_) (fun h => absurd (by decide) h)
                          refine lv_iload hx hb dX8_leastAll_149 (lv_at hl 5 rfl) ?_
                          refine lv_istore (lv' := [(4, .int be_147), (9, .int (-1)), (8, .int (-1)), (7, .int (nI q7_96)), (6, .int (-1)), (5, .int (-1)), (3, .int (nI (dn sn))), (0, .ref (a 0)), (1, .int (nI sn)), (2, .int p1)]) hx hb dX8_leastAll_151 hl (by decide) rfl (fun ls hl => ?_)
                          refine lv_iinc (v := 0) (lv' := [(8, .int 0), (4, .int be_147), (9, .int (-1)), (7, .int (nI q7_96)), (6, .int (-1)), (5, .int (-1)), (3, .int (nI (dn sn))), (0, .ref (a 0)), (1, .int (nI sn)), (2, .int p1)]) hx hb dX8_leastAll_153 hl (k := 2) rfl (by decide) (by decide) rfl (fun ls hl => ?_)
                          refine lv_goto (tgt := 75) hx hb dX8_leastAll_156 (by decide) ?_
                          exact ih_147 _ (1, be_147) _ _ _ (by omega) ⟨rfl, (by omega), hP, hS, (by rw [nI_pred]; exact lv_sub hl [0, 3, 4, 5, 1, 6, 7, 8, 9] rfl)⟩
                        · refine lv_aload_n hx hb dX8_leastAll_108 rfl (lv_at hl 6 rfl) ?_
                          refine lv_iload_n hx hb dX8_leastAll_109 rfl (lv_at hl 7 rfl) ?_
                          refine lv_iload hx hb dX8_leastAll_110 (lv_at hl 3 rfl) ?_
                          refine lv_iload hx hb dX8_leastAll_112 (lv_at hl 2 rfl) ?_
                          refine lv_iload hx hb dX8_leastAll_114 (lv_at hl 1 rfl) ?_
                          refine lv_iload hx hb dX8_leastAll_116 (lv_at hl 0 rfl) ?_
                          refine ro_i (D := D) (va_runV (As := [.int (nI sn), .int (-1), .int (-1), .int (nI q7_96), .int (-1)]) (rest := []) ⟨hx, hb, hml, hown, hts⟩ ((m_sumAll l D k st lo a tx t0 we rd ru rw ca fp wd nu na ts df db sd dn se tm gs fprices fwalks sn (-1) (-1) (nI q7_96) (-1) (by omega) (by omega) (.inl (by decide)) (.inl (by decide)) (.inr ⟨q7_96, by omega, rfl⟩) (.inl (by decide))) H.size) (cwV 5 hts (gV tw_1459 tw_1461 tw_75 tw_87 tw_1462) rfl rfl rfl (by decide +kernel) ⟨Nat.le_of_ble_eq_true rfl, Nat.le_of_ble_eq_true rfl⟩) (pV hS hAlo hlo hP hK hDL hZ [0, 1, 2, 3, 4] (by decide) rfl (ci := 8) (q := (RX8, TX8, 44)) (q0 := 0) rfl rfl) rfl rfl hl.1 rfl (lv_room (Nat.le_of_ble_eq_true rfl)) dX8_leastAll_118 ⟨Nat.le_of_ble_eq_true rfl, Nat.le_of_ble_eq_true rfl⟩) hS hA hP (fun r_151 H locs hw_151 hP hS => ?_)
                          try dsimp only at hw_151
                          refine lv_goto (tgt := 125) hx hb dX8_leastAll_121 (by decide) ?_
                          refine lv_istore (lv' := [(9, .int r_151), (8, .int (-1)), (7, .int (nI q7_96)), (6, .int (-1)), (5, .int (-1)), (4, .int be_147), (3, .int (nI (dn sn))), (0, .ref (a 0)), (1, .int (nI sn)), (2, .int p1)]) hx hb dX8_leastAll_125 hl (by decide) rfl (fun ls hl => ?_)
                          refine lv_iload hx hb dX8_leastAll_127 (lv_at hl 0 rfl) ?_
                          refine lv_if_lt (tgt := 149) hx hb dX8_leastAll_129 (by decide) (fun c_152 => ?_) (fun c_152 => ?_)
                          · refine lv_iload hx hb dX8_leastAll_149 (lv_at hl 5 rfl) ?_
                            refine lv_istore (lv' := [(4, .int be_147), (9, .int r_151), (8, .int (-1)), (7, .int (nI q7_96)), (6, .int (-1)), (5, .int (-1)), (3, .int (nI (dn sn))), (0, .ref (a 0)), (1, .int (nI sn)), (2, .int p1)]) hx hb dX8_leastAll_151 hl (by decide) rfl (fun ls hl => ?_)
                            refine lv_iinc (v := 0) (lv' := [(8, .int 0), (4, .int be_147), (9, .int r_151), (7, .int (nI q7_96)), (6, .int (-1)), (5, .int (-1)), (3, .int (nI (dn sn))), (0, .ref (a 0)), (1, .int (nI sn)), (2, .int p1)]) hx hb dX8_leastAll_153 hl (k := 2) rfl (by decide) (by decide) rfl (fun ls hl => ?_)
                            refine lv_goto (tgt := 75) hx hb dX8_leastAll_156 (by decide) ?_
                            exact ih_147 _ (1, be_147) _ _ _ (by omega) ⟨rfl, (by omega), hP, hS, (by rw [nI_pred]; exact lv_sub hl [0, 3, 4, 5, 1, 6, 7, 8, 9] rfl)⟩
                          · refine lv_iload hx hb dX8_leastAll_132 (lv_at hl 5 rfl) ?_
                            refine lv_if_lt (tgt := 144) hx hb dX8_leastAll_134 (by decide) (fun c_153 => ?_) (fun c_153 => ?_)
                            · refine lv_iload hx hb dX8_leastAll_144 (lv_at hl 0 rfl) ?_
                              refine lv_goto (tgt := 151) hx hb dX8_leastAll_146 (by decide) ?_
                              refine lv_istore (lv' := [(4, .int r_151), (9, .int r_151), (8, .int (-1)), (7, .int (nI q7_96)), (6, .int (-1)), (5, .int (-1)), (3, .int (nI (dn sn))), (0, .ref (a 0)), (1, .int (nI sn)), (2, .int p1)]) hx hb dX8_leastAll_151 hl (by decide) rfl (fun ls hl => ?_)
                              refine lv_iinc (v := 0) (lv' := [(8, .int 0), (4, .int r_151), (9, .int r_151), (7, .int (nI q7_96)), (6, .int (-1)), (5, .int (-1)), (3, .int (nI (dn sn))), (0, .ref (a 0)), (1, .int (nI sn)), (2, .int p1)]) hx hb dX8_leastAll_153 hl (k := 2) rfl (by decide) (by decide) rfl (fun ls hl => ?_)
                              refine lv_goto (tgt := 75) hx hb dX8_leastAll_156 (by decide) ?_
                              exact ih_147 _ (1, r_151) _ _ _ (by omega) ⟨rfl, (by omega), hP, hS, (by rw [nI_pred]; exact lv_sub hl [0, 3, 4, 5, 1, 6, 7, 8, 9] rfl)⟩
                            · refine lv_iload hx hb dX8_leastAll_137 (lv_at hl 0 rfl) ?_
                              refine lv_iload hx hb dX8_leastAll_139 (lv_at hl 5 rfl) ?_
                              refine lv_icmp_ge (tgt := 149) hx hb dX8_leastAll_141 (by decide) (fun c_154 => ?_) (fun c_154 => ?_)
                              · refine lv_iload hx hb dX8_leastAll_149 (lv_at hl 5 rfl) ?_
                                refine lv_istore (lv' := [(4, .int be_147), (9, .int r_151), (8, .int (-1)), (7, .int (nI q7_96)), (6, .int (-1)), (5, .int (-1)), (3, .int (nI (dn sn))), (0, .ref (a 0)), (1, .int (nI sn)), (2, .int p1)]) hx hb dX8_leastAll_151 hl (by decide) rfl (fun ls hl => ?_)
                                refine lv_iinc (v := 0) (lv' := [(8, .int 0), (4, .int be_147), (9, .int r_151), (7, .int (nI q7_96)), (6, .int (-1)), (5, .int (-1)), (3, .int (nI (dn sn))), (0, .ref (a 0)), (1, .int (nI sn)), (2, .int p1)]) hx hb dX8_leastAll_153 hl (k := 2) rfl (by decide) (by decide) rfl (fun ls hl => ?_)
                                refine lv_goto (tgt := 75) hx hb dX8_leastAll_156 (by decide) ?_
                                exact ih_147 _ (1, be_147) _ _ _ (by omega) ⟨rfl, (by omega), hP, hS, (by rw [nI_pred]; exact lv_sub hl [0, 3, 4, 5, 1, 6, 7, 8, 9] rfl)⟩
                              · refine lv_iload hx hb dX8_leastAll_144 (lv_at hl 0 rfl) ?_
                                refine lv_goto (tgt := 151) hx hb dX8_leastAll_146 (by decide) ?_
                                refine lv_istore (lv' := [(4, .int r_151), (9, .int r_151), (8, .int (-1)), (7, .int (nI q7_96)), (6, .int (-1)), (5, .int (-1)), (3, .int (nI (dn sn))), (0, .ref (a 0)), (1, .int (nI sn)), (2, .int p1)]) hx hb dX8_leastAll_151 hl (by decide) rfl (fun ls hl => ?_)
                                refine lv_iinc (v := 0) (lv' := [(8, .int 0), (4, .int r_151), (9, .int r_151), (7, .int (nI q7_96)), (6, .int (-1)), (5, .int (-1)), (3, .int (nI (dn sn))), (0, .ref (a 0)), (1, .int (nI sn)), (2, .int p1)]) hx hb dX8_leastAll_153 hl (k := 2) rfl (by decide) (by decide) rfl (fun ls hl => ?_)
                                refine lv_goto (tgt := 75) hx hb dX8_leastAll_156 (by decide) ?_
                                exact ih_147 _ (1, r_151) _ _ _ (by omega) ⟨rfl, (by omega), hP, hS, (by rw [nI_pred]; exact lv_sub hl [0, 3, 4, 5, 1, 6, 7, 8, 9] rfl)⟩
                      · have c_148 : ¬ (ca ≤ 3) := fun h => c_148 ((nI_leI (a := ca) (b := 3) (by omega) (by omega)).mpr h)
                        refine lv_iload_n hx hb dX8_leastAll_85 rfl (lv_at hl 5 rfl) ?_
                        refine lv_goto (tgt := 90) hx hb dX8_leastAll_86 (by decide) ?_
                        refine lv_icmp_ge (tgt := 159) hx hb dX8_leastAll_90 (by decide) (fun c_155 => ?_) (fun c_155 => ?_)
                        · refine lv_iinc (v := (nI (q7_96 + 1))) (lv' := [(7, .int (nI (q7_96 + 1))), (8, .int (-1)), (6, .int (-1)), (5, .int (-1)), (4, .int be_147), (3, .int (nI (dn sn))), (0, .ref (a 0)), (1, .int (nI sn)), (2, .int p1)]) hx hb dX8_leastAll_159 hl (k := 1) rfl (nI_add q7_96 1) (by decide) rfl (fun ls hl => ?_)
                          refine lv_goto (tgt := 54) hx hb dX8_leastAll_162 (by decide) ?_
                          exact ih_96 _ (q7_96 + 1 + 1, be_147) _ _ _ (by omega) ⟨rfl, (by omega), hP, hS, (by rw [nI_pred]; exact lv_sub hl [0, 2, 3, 4, 5, 6, 7, 8] rfl)⟩
                        · refine lv_iload_n hx hb dX8_leastAll_93 rfl (lv_at hl 8 rfl) ?_
                          refine lv_iload hx hb dX8_leastAll_94 (lv_at hl 3 rfl) ?_
                          refine lv_iload hx hb dX8_leastAll_96 (lv_at hl 2 rfl) ?_
                          refine lv_iload hx hb dX8_leastAll_98 (lv_at hl 1 rfl) ?_
                          refine lv_iload hx hb dX8_leastAll_100 (lv_at hl 0 rfl) ?_
                          refine ro_i (D := D) (va_runS (As := [.int p1, .int (-1), .int (-1), .int (nI q7_96), .int (-1)]) (rest := []) ⟨hx, hb, hml, hown, hts⟩ ((m_canAll l D k st lo p1 (-1) (-1) (nI q7_96) (-1)) H.size) (va_cwS 5 hts (gS tw_1450 tw_1451 tw_87 tw_1452) rfl rfl rfl (by decide +kernel) ⟨Nat.le_of_ble_eq_true rfl, Nat.le_of_ble_eq_true rfl⟩) (pS hS hAlo hlo hP hK hDL hZ [] (by decide) rfl) rfl rfl hl.1 rfl (lv_room (Nat.le_of_ble_eq_true rfl)) dX8_leastAll_102 ⟨Nat.le_of_ble_eq_true rfl, Nat.le_of_ble_eq_true rfl⟩) hS hA hP (fun r_156 H locs hw_156 hP hS => ?_)
                          try dsimp only at hw_156
                          refine lv_if_eq (tgt := 124) hx hb dX8_leastAll_105 (by decide) (fun c_157 => ?_) (fun c_157 => ?_)
                          · refine lv_iconst (v := (-1)) hx hb dX8_leastAll_124 (by decide) ?_
                            refine lv_istore (lv' := [(9, .int (-1)), (8, .int (-1)), (7, .int (nI q7_96)), (6, .int (-1)), (5, .int (-1)), (4, .int be_147), (3, .int (nI (dn sn))), (0, .ref (a 0)), (1, .int (nI sn)), (2, .int p1)]) hx hb dX8_leastAll_125 hl (by decide) rfl (fun ls hl => ?_)
                            refine lv_iload hx hb dX8_leastAll_127 (lv_at hl 0 rfl) ?_
                            refine lv_if_lt (tgt := 149) hx hb dX8_leastAll_129 (by decide) (fun _ => ?_) (fun h => absurd (by decide) h)
                            refine lv_iload hx hb dX8_leastAll_149 (lv_at hl 5 rfl) ?_
                            refine lv_istore (lv' := [(4, .int be_147), (9, .int (-1)), (8, .int (-1)), (7, .int (nI q7_96)), (6, .int (-1)), (5, .int (-1)), (3, .int (nI (dn sn))), (0, .ref (a 0)), (1, .int (nI sn)), (2, .int p1)]) hx hb dX8_leastAll_151 hl (by decide) rfl (fun ls hl => ?_)
                            refine lv_iinc (v := 0) (lv' := [(8, .int 0), (4, .int be_147), (9, .int (-1)), (7, .int (nI q7_96)), (6, .int (-1)), (5, .int (-1)), (3, .int (nI (dn sn))), (0, .ref (a 0)), (1, .int (nI sn)), (2, .int p1)]) hx hb dX8_leastAll_153 hl (k := 2) rfl (by decide) (by decide) rfl (fun ls hl => ?_)
                            refine lv_goto (tgt := 75) hx hb dX8_leastAll_156 (by decide) ?_
                            exact ih_147 _ (1, be_147) _ _ _ (by omega) ⟨rfl, (by omega), hP, hS, (by rw [nI_pred]; exact lv_sub hl [0, 3, 4, 5, 1, 6, 7, 8, 9] rfl)⟩
                          · refine lv_aload_n hx hb dX8_leastAll_108 rfl (lv_at hl 6 rfl) ?_
                            refine lv_iload_n hx hb dX8_leastAll_109 rfl (lv_at hl 7 rfl) ?_
                            refine lv_iload hx hb dX8_leastAll_110 (lv_at hl 3 rfl) ?_
                            refine lv_iload hx hb dX8_leastAll_112 (lv_at hl 2 rfl) ?_
                            refine lv_iload hx hb dX8_leastAll_114 (lv_at hl 1 rfl) ?_
                            refine lv_iload hx hb dX8_leastAll_116 (lv_at hl 0 rfl) ?_
                            refine ro_i (D := D) (va_runV (As := [.int (nI sn), .int (-1), .int (-1), .int (nI q7_96), .int (-1)]) (rest := []) ⟨hx, hb, hml, hown, hts⟩ ((m_sumAll l D k st lo a tx t0 we rd ru rw ca fp wd nu na ts df db sd dn se tm gs fprices fwalks sn (-1) (-1) (nI q7_96) (-1) (by omega) (by omega) (.inl (by decide)) (.inl (by decide)) (.inr ⟨q7_96, by omega, rfl⟩) (.inl (by decide))) H.size) (cwV 5 hts (gV tw_1459 tw_1461 tw_75 tw_87 tw_1462) rfl rfl rfl (by decide +kernel) ⟨Nat.le_of_ble_eq_true rfl, Nat.le_of_ble_eq_true rfl⟩) (pV hS hAlo hlo hP hK hDL hZ [0, 1, 2, 3, 4] (by decide) rfl (ci := 8) (q := (RX8, TX8, 44)) (q0 := 0) rfl rfl) rfl rfl hl.1 rfl (lv_room (Nat.le_of_ble_eq_true rfl)) dX8_leastAll_118 ⟨Nat.le_of_ble_eq_true rfl, Nat.le_of_ble_eq_true rfl⟩) hS hA hP (fun r_158 H locs hw_158 hP hS => ?_)
                            try dsimp only at hw_158
                            refine lv_goto (tgt := 125) hx hb dX8_leastAll_121 (by decide) ?_
                            refine lv_istore (lv' := [(9, .int r_158), (8, .int (-1)), (7, .int (nI q7_96)), (6, .int (-1)), (5, .int (-1)), (4, .int be_147), (3, .int (nI (dn sn))), (0, .ref (a 0)), (1, .int (nI sn)), (2, .int p1)]) hx hb dX8_leastAll_125 hl (by decide) rfl (fun ls hl => ?_)
                            refine lv_iload hx hb dX8_leastAll_127 (lv_at hl 0 rfl) ?_
                            refine lv_if_lt (tgt := 149) hx hb dX8_leastAll_129 (by decide) (fun c_159 => ?_) (fun c_159 => ?_)
                            · refine lv_iload hx hb dX8_leastAll_149 (lv_at hl 5 rfl) ?_
                              refine lv_istore (lv' := [(4, .int be_147), (9, .int r_158), (8, .int (-1)), (7, .int (nI q7_96)), (6, .int (-1)), (5, .int (-1)), (3, .int (nI (dn sn))), (0, .ref (a 0)), (1, .int (nI sn)), (2, .int p1)]) hx hb dX8_leastAll_151 hl (by decide) rfl (fun ls hl => ?_)
                              refine lv_iinc (v := 0) (lv' := [(8, .int 0), (4, .int be_147), (9, .int r_158), (7, .int (nI q7_96)), (6, .int (-1)), (5, .int (-1)), (3, .int (nI (dn sn))), (0, .ref (a 0)), (1, .int (nI sn)), (2, .int p1)]) hx hb dX8_leastAll_153 hl (k := 2) rfl (by decide) (by decide) rfl (fun ls hl => ?_)
                              refine lv_goto (tgt := 75) hx hb dX8_leastAll_156 (by decide) ?_
                              exact ih_147 _ (1, be_147) _ _ _ (by omega) ⟨rfl, (by omega), hP, hS, (by rw [nI_pred]; exact lv_sub hl [0, 3, 4, 5, 1, 6, 7, 8, 9] rfl)⟩
                            · refine lv_iload hx hb dX8_leastAll_132 (lv_at hl 5 rfl) ?_
                              refine lv_if_lt (tgt := 144) hx hb dX8_leastAll_134 (by decide) (fun c_160 => ?_) (fun c_160 => ?_)
                              · refine lv_iload hx hb dX8_leastAll_144 (lv_at hl 0 rfl) ?_
                                refine lv_goto (tgt := 151) hx hb dX8_leastAll_146 (by decide) ?_
                                refine lv_istore (lv' := [(4, .int r_158), (9, .int r_158), (8, .int (-1)), (7, .int (nI q7_96)), (6, .int (-1)), (5, .int (-1)), (3, .int (nI (dn sn))), (0, .ref (a 0)), (1, .int (nI sn)), (2, .int p1)]) hx hb dX8_leastAll_151 hl (by decide) rfl (fun ls hl => ?_)
                                refine lv_iinc (v := 0) (lv' := [(8, .int 0), (4, .int r_158), (9, .int r_158), (7, .int (nI q7_96)), (6, .int (-1)), (5, .int (-1)), (3, .int (nI (dn sn))), (0, .ref (a 0)), (1, .int (nI sn)), (2, .int p1)]) hx hb dX8_leastAll_153 hl (k := 2) rfl (by decide) (by decide) rfl (fun ls hl => ?_)
                                refine lv_goto (tgt := 75) hx hb dX8_leastAll_156 (by decide) ?_
                                exact ih_147 _ (1, r_158) _ _ _ (by omega) ⟨rfl, (by omega), hP, hS, (by rw [nI_pred]; exact lv_sub hl [0, 3, 4, 5, 1, 6, 7, 8, 9] rfl)⟩
                              · refine lv_iload hx hb dX8_leastAll_137 (lv_at hl 0 rfl) ?_
                                refine lv_iload hx hb dX8_leastAll_139 (lv_at hl 5 rfl) ?_
                                refine lv_icmp_ge (tgt := 149) hx hb dX8_leastAll_141 (by decide) (fun c_161 => ?_) (fun c_161 => ?_)
                                · refine lv_iload hx hb dX8_leastAll_149 (lv_at hl 5 rfl) ?_
                                  refine lv_istore (lv' := [(4, .int be_147), (9, .int r_158), (8, .int (-1)), (7, .int (nI q7_96)), (6, .int (-1)), (5, .int (-1)), (3, .int (nI (dn sn))), (0, .ref (a 0)), (1, .int (nI sn)), (2, .int p1)]) hx hb dX8_leastAll_151 hl (by decide) rfl (fun ls hl => ?_)
                                  refine lv_iinc (v := 0) (lv' := [(8, .int 0), (4, .int be_147), (9, .int r_158), (7, .int (nI q7_96)), (6, .int (-1)), (5, .int (-1)), (3, .int (nI (dn sn))), (0, .ref (a 0)), (1, .int (nI sn)), (2, .int p1)]) hx hb dX8_leastAll_153 hl (k := 2) rfl (by decide) (by decide) rfl (fun ls hl => ?_)
                                  refine lv_goto (tgt := 75) hx hb dX8_leastAll_156 (by decide) ?_
                                  exact ih_147 _ (1, be_147) _ _ _ (by omega) ⟨rfl, (by omega), hP, hS, (by rw [nI_pred]; exact lv_sub hl [0, 3, 4, 5, 1, 6, 7, 8, 9] rfl)⟩
                                · refine lv_iload hx hb dX8_leastAll_144 (lv_at hl 0 rfl) ?_
                                  refine lv_goto (tgt := 151) hx hb dX8_leastAll_146 (by decide) ?_
                                  refine lv_istore (lv' := [(4, .int r_158), (9, .int r_158), (8, .int (-1)), (7, .int (nI q7_96)), (6, .int (-1)), (5, .int (-1)), (3, .int (nI (dn sn))), (0, .ref (a 0)), (1, .int (nI sn)), (2, .int p1)]) hx hb dX8_leastAll_151 hl (by decide) rfl (fun ls hl => ?_)
                                  refine lv_iinc (v := 0) (lv' := [(8, .int 0), (4, .int r_158), (9, .int r_158), (7, .int (nI q7_96)), (6, .int (-1)), (5, .int (-1)), (3, .int (nI (dn sn))), (0, .ref (a 0)), (1, .int (nI sn)), (2, .int p1)]) hx hb dX8_leastAll_153 hl (k := 2) rfl (by decide) (by decide) rfl (fun ls hl => ?_)
                                  refine lv_goto (tgt := 75) hx hb dX8_leastAll_156 (by decide) ?_
                                  exact ih_147 _ (1, r_158) _ _ _ (by omega) ⟨rfl, (by omega), hP, hS, (by rw [nI_pred]; exact lv_sub hl [0, 3, 4, 5, 1, 6, 7, 8, 9] rfl)⟩
                    · rw [nI_pred] at hl
                      refine lv_iload hx hb dX8_leastAll_75 (lv_at hl 0 rfl) ?_
                      refine lv_aload_n hx hb dX8_leastAll_77 rfl (lv_at hl 6 rfl) ?_
                      refine va_get (D := D) (ci := 8) (v := .int (nI ca)) (C := RX8) (T := TX8) (N := 44) hx hb hts inX8 hown hK hP 0 rfl rfl 34 (by decide) (hts _ tw_1007) (fun _ h9 => h9) rfl dX8_leastAll_78 ?_
                      refine lv_iconst (v := 3) hx hb dX8_leastAll_81 (by decide) ?_
                      refine lv_icmp_le (tgt := 89) hx hb dX8_leastAll_82 (by decide) (fun c_162 => ?_) (fun c_162 => ?_)
                      · have c_162 := (nI_leI (a := ca) (b := 3) (by omega) (by omega)).mp c_162
                        refine lv_iconst (v := 0) hx hb dX8_leastAll_89 (by decide) ?_
                        refine lv_icmp_ge (tgt := 159) hx hb dX8_leastAll_90 (by decide) (fun _ => ?_) (fun h => absurd (nI_ge0 (by omega)) h)
                        refine lv_iinc (v := (nI (q7_96 + 1))) (lv' := [(7, .int (nI (q7_96 + 1))), (8, .int (nI q8_147)), (6, .int (-1)), (5, .int (-1)), (4, .int be_147), (3, .int (nI (dn sn))), (0, .ref (a 0)), (1, .int (nI sn)), (2, .int p1)]) hx hb dX8_leastAll_159 hl (k := 1) rfl (nI_add q7_96 1) (by decide) rfl (fun ls hl => ?_)
                        refine lv_goto (tgt := 54) hx hb dX8_leastAll_162 (by decide) ?_
                        exact ih_96 _ (q7_96 + 1 + 1, be_147) _ _ _ (by omega) ⟨rfl, (by omega), hP, hS, (by rw [nI_pred]; exact lv_sub hl [0, 2, 3, 4, 5, 6, 7, 8] rfl)⟩
                      · have c_162 : ¬ (ca ≤ 3) := fun h => c_162 ((nI_leI (a := ca) (b := 3) (by omega) (by omega)).mpr h)
                        refine lv_iload_n hx hb dX8_leastAll_85 rfl (lv_at hl 5 rfl) ?_
                        refine lv_goto (tgt := 90) hx hb dX8_leastAll_86 (by decide) ?_
                        refine lv_icmp_ge (tgt := 159) hx hb dX8_leastAll_90 (by decide) (fun c_163 => ?_) (fun c_163 => ?_)
                        · have c_163 := (nI_leI (a := (dn sn)) (b := q8_147) (by omega) (by omega)).mp c_163
                          refine lv_iinc (v := (nI (q7_96 + 1))) (lv' := [(7, .int (nI (q7_96 + 1))), (8, .int (nI q8_147)), (6, .int (-1)), (5, .int (-1)), (4, .int be_147), (3, .int (nI (dn sn))), (0, .ref (a 0)), (1, .int (nI sn)), (2, .int p1)]) hx hb dX8_leastAll_159 hl (k := 1) rfl (nI_add q7_96 1) (by decide) rfl (fun ls hl => ?_)
                          refine lv_goto (tgt := 54) hx hb dX8_leastAll_162 (by decide) ?_
                          exact ih_96 _ (q7_96 + 1 + 1, be_147) _ _ _ (by omega) ⟨rfl, (by omega), hP, hS, (by rw [nI_pred]; exact lv_sub hl [0, 2, 3, 4, 5, 6, 7, 8] rfl)⟩
                        · have c_163 : ¬ ((dn sn) ≤ q8_147) := fun h => c_163 ((nI_leI (a := (dn sn)) (b := q8_147) (by omega) (by omega)).mpr h)
                          refine lv_iload_n hx hb dX8_leastAll_93 rfl (lv_at hl 8 rfl) ?_
                          refine lv_iload hx hb dX8_leastAll_94 (lv_at hl 3 rfl) ?_
                          refine lv_iload hx hb dX8_leastAll_96 (lv_at hl 2 rfl) ?_
                          refine lv_iload hx hb dX8_leastAll_98 (lv_at hl 1 rfl) ?_
                          refine lv_iload hx hb dX8_leastAll_100 (lv_at hl 0 rfl) ?_
                          refine ro_i (D := D) (va_runS (As := [.int p1, .int (-1), .int (-1), .int (nI q7_96), .int (nI q8_147)]) (rest := []) ⟨hx, hb, hml, hown, hts⟩ ((m_canAll l D k st lo p1 (-1) (-1) (nI q7_96) (nI q8_147)) H.size) (va_cwS 5 hts (gS tw_1450 tw_1451 tw_87 tw_1452) rfl rfl rfl (by decide +kernel) ⟨Nat.le_of_ble_eq_true rfl, Nat.le_of_ble_eq_true rfl⟩) (pS hS hAlo hlo hP hK hDL hZ [] (by decide) rfl) rfl rfl hl.1 rfl (lv_room (Nat.le_of_ble_eq_true rfl)) dX8_leastAll_102 ⟨Nat.le_of_ble_eq_true rfl, Nat.le_of_ble_eq_true rfl⟩) hS hA hP (fun r_164 H locs hw_164 hP hS => ?_)
                          try dsimp only at hw_164
                          refine lv_if_eq (tgt := 124) hx hb dX8_leastAll_105 (by decide) (fun c_165 => ?_) (fun c_165 => ?_)
                          · refine lv_iconst (v := (-1)) hx hb dX8_leastAll_124 (by decide) ?_
                            refine lv_istore (lv' := [(9, .int (-1)), (8, .int (nI q8_147)), (7, .int (nI q7_96)), (6, .int (-1)), (5, .int (-1)), (4, .int be_147), (3, .int (nI (dn sn))), (0, .ref (a 0)), (1, .int (nI sn)), (2, .int p1)]) hx hb dX8_leastAll_125 hl (by decide) rfl (fun ls hl => ?_)
                            refine lv_iload hx hb dX8_leastAll_127 (lv_at hl 0 rfl) ?_
                            refine lv_if_lt (tgt := 149) hx hb dX8_leastAll_129 (by decide) (fun _ => ?_) (fun h => absurd (by decide) h)
                            refine lv_iload hx hb dX8_leastAll_149 (lv_at hl 5 rfl) ?_
                            refine lv_istore (lv' := [(4, .int be_147), (9, .int (-1)), (8, .int (nI q8_147)), (7, .int (nI q7_96)), (6, .int (-1)), (5, .int (-1)), (3, .int (nI (dn sn))), (0, .ref (a 0)), (1, .int (nI sn)), (2, .int p1)]) hx hb dX8_leastAll_151 hl (by decide) rfl (fun ls hl => ?_)
                            refine lv_iinc (v := (nI (q8_147 + 1))) (lv' := [(8, .int (nI (q8_147 + 1))), (4, .int be_147), (9, .int (-1)), (7, .int (nI q7_96)), (6, .int (-1)), (5, .int (-1)), (3, .int (nI (dn sn))), (0, .ref (a 0)), (1, .int (nI sn)), (2, .int p1)]) hx hb dX8_leastAll_153 hl (k := 2) rfl (nI_add q8_147 1) (by decide) rfl (fun ls hl => ?_)
                            refine lv_goto (tgt := 75) hx hb dX8_leastAll_156 (by decide) ?_
                            exact ih_147 _ (q8_147 + 1 + 1, be_147) _ _ _ (by omega) ⟨rfl, (by omega), hP, hS, (by rw [nI_pred]; exact lv_sub hl [0, 3, 4, 5, 1, 6, 7, 8, 9] rfl)⟩
                          · refine lv_aload_n hx hb dX8_leastAll_108 rfl (lv_at hl 6 rfl) ?_
                            refine lv_iload_n hx hb dX8_leastAll_109 rfl (lv_at hl 7 rfl) ?_
                            refine lv_iload hx hb dX8_leastAll_110 (lv_at hl 3 rfl) ?_
                            refine lv_iload hx hb dX8_leastAll_112 (lv_at hl 2 rfl) ?_
                            refine lv_iload hx hb dX8_leastAll_114 (lv_at hl 1 rfl) ?_
                            refine lv_iload hx hb dX8_leastAll_116 (lv_at hl 0 rfl) ?_
                            refine ro_i (D := D) (va_runV (As := [.int (nI sn), .int (-1), .int (-1), .int (nI q7_96), .int (nI q8_147)]) (rest := []) ⟨hx, hb, hml, hown, hts⟩ ((m_sumAll l D k st lo a tx t0 we rd ru rw ca fp wd nu na ts df db sd dn se tm gs fprices fwalks sn (-1) (-1) (nI q7_96) (nI q8_147) (by omega) (by omega) (.inl (by decide)) (.inl (by decide)) (.inr ⟨q7_96, by omega, rfl⟩) (.inr ⟨q8_147, by omega, rfl⟩)) H.size) (cwV 5 hts (gV tw_1459 tw_1461 tw_75 tw_87 tw_1462) rfl rfl rfl (by decide +kernel) ⟨Nat.le_of_ble_eq_true rfl, Nat.le_of_ble_eq_true rfl⟩) (pV hS hAlo hlo hP hK hDL hZ [0, 1, 2, 3, 4] (by decide) rfl (ci := 8) (q := (RX8, TX8, 44)) (q0 := 0) rfl rfl) rfl rfl hl.1 rfl (lv_room (Nat.le_of_ble_eq_true rfl)) dX8_leastAll_118 ⟨Nat.le_of_ble_eq_true rfl, Nat.le_of_ble_eq_true rfl⟩) hS hA hP (fun r_166 H locs hw_166 hP hS => ?_)
                            try dsimp only at hw_166
                            refine lv_goto (tgt := 125) hx hb dX8_leastAll_121 (by decide) ?_
                            refine lv_istore (lv' := [(9, .int r_166), (8, .int (nI q8_147)), (7, .int (nI q7_96)), (6, .int (-1)), (5, .int (-1)), (4, .int be_147), (3, .int (nI (dn sn))), (0, .ref (a 0)), (1, .int (nI sn)), (2, .int p1)]) hx hb dX8_leastAll_125 hl (by decide) rfl (fun ls hl => ?_)
                            refine lv_iload hx hb dX8_leastAll_127 (lv_at hl 0 rfl) ?_
                            refine lv_if_lt (tgt := 149) hx hb dX8_leastAll_129 (by decide) (fun c_167 => ?_) (fun c_167 => ?_)
                            · refine lv_iload hx hb dX8_leastAll_149 (lv_at hl 5 rfl) ?_
                              refine lv_istore (lv' := [(4, .int be_147), (9, .int r_166), (8, .int (nI q8_147)), (7, .int (nI q7_96)), (6, .int (-1)), (5, .int (-1)), (3, .int (nI (dn sn))), (0, .ref (a 0)), (1, .int (nI sn)), (2, .int p1)]) hx hb dX8_leastAll_151 hl (by decide) rfl (fun ls hl => ?_)
                              refine lv_iinc (v := (nI (q8_147 + 1))) (lv' := [(8, .int (nI (q8_147 + 1))), (4, .int be_147), (9, .int r_166), (7, .int (nI q7_96)), (6, .int (-1)), (5, .int (-1)), (3, .int (nI (dn sn))), (0, .ref (a 0)), (1, .int (nI sn)), (2, .int p1)]) hx hb dX8_leastAll_153 hl (k := 2) rfl (nI_add q8_147 1) (by decide) rfl (fun ls hl => ?_)
                              refine lv_goto (tgt := 75) hx hb dX8_leastAll_156 (by decide) ?_
                              exact ih_147 _ (q8_147 + 1 + 1, be_147) _ _ _ (by omega) ⟨rfl, (by omega), hP, hS, (by rw [nI_pred]; exact lv_sub hl [0, 3, 4, 5, 1, 6, 7, 8, 9] rfl)⟩
                            · refine lv_iload hx hb dX8_leastAll_132 (lv_at hl 5 rfl) ?_
                              refine lv_if_lt (tgt := 144) hx hb dX8_leastAll_134 (by decide) (fun c_168 => ?_) (fun c_168 => ?_)
                              · refine lv_iload hx hb dX8_leastAll_144 (lv_at hl 0 rfl) ?_
                                refine lv_goto (tgt := 151) hx hb dX8_leastAll_146 (by decide) ?_
                                refine lv_istore (lv' := [(4, .int r_166), (9, .int r_166), (8, .int (nI q8_147)), (7, .int (nI q7_96)), (6, .int (-1)), (5, .int (-1)), (3, .int (nI (dn sn))), (0, .ref (a 0)), (1, .int (nI sn)), (2, .int p1)]) hx hb dX8_leastAll_151 hl (by decide) rfl (fun ls hl => ?_)
                                refine lv_iinc (v := (nI (q8_147 + 1))) (lv' := [(8, .int (nI (q8_147 + 1))), (4, .int r_166), (9, .int r_166), (7, .int (nI q7_96)), (6, .int (-1)), (5, .int (-1)), (3, .int (nI (dn sn))), (0, .ref (a 0)), (1, .int (nI sn)), (2, .int p1)]) hx hb dX8_leastAll_153 hl (k := 2) rfl (nI_add q8_147 1) (by decide) rfl (fun ls hl => ?_)
                                refine lv_goto (tgt := 75) hx hb dX8_leastAll_156 (by decide) ?_
                                exact ih_147 _ (q8_147 + 1 + 1, r_166) _ _ _ (by omega) ⟨rfl, (by omega), hP, hS, (by rw [nI_pred]; exact lv_sub hl [0, 3, 4, 5, 1, 6, 7, 8, 9] rfl)⟩
                              · refine lv_iload hx hb dX8_leastAll_137 (lv_at hl 0 rfl) ?_
                                refine lv_iload hx hb dX8_leastAll_139 (lv_at hl 5 rfl) ?_
                                refine lv_icmp_ge (tgt := 149) hx hb dX8_leastAll_141 (by decide) (fun c_169 => ?_) (fun c_169 => ?_)
                                · refine lv_iload hx hb dX8_leastAll_149 (lv_at hl 5 rfl) ?_
                                  refine lv_istore (lv' := [(4, .int be_147), (9, .int r_166), (8, .int (nI q8_147)), (7, .int (nI q7_96)), (6, .int (-1)), (5, .int (-1)), (3, .int (nI (dn sn))), (0, .ref (a 0)), (1, .int (nI sn)), (2, .int p1)]) hx hb dX8_leastAll_151 hl (by decide) rfl (fun ls hl => ?_)
                                  refine lv_iinc (v := (nI (q8_147 + 1))) (lv' := [(8, .int (nI (q8_147 + 1))), (4, .int be_147), (9, .int r_166), (7, .int (nI q7_96)), (6, .int (-1)), (5, .int (-1)), (3, .int (nI (dn sn))), (0, .ref (a 0)), (1, .int (nI sn)), (2, .int p1)]) hx hb dX8_leastAll_153 hl (k := 2) rfl (nI_add q8_147 1) (by decide) rfl (fun ls hl => ?_)
                                  refine lv_goto (tgt := 75) hx hb dX8_leastAll_156 (by decide) ?_
                                  exact ih_147 _ (q8_147 + 1 + 1, be_147) _ _ _ (by omega) ⟨rfl, (by omega), hP, hS, (by rw [nI_pred]; exact lv_sub hl [0, 3, 4, 5, 1, 6, 7, 8, 9] rfl)⟩
                                · refine lv_iload hx hb dX8_leastAll_144 (lv_at hl 0 rfl) ?_
                                  refine lv_goto (tgt := 151) hx hb dX8_leastAll_146 (by decide) ?_
                                  refine lv_istore (lv' := [(4, .int r_166), (9, .int r_166), (8, .int (nI q8_147)), (7, .int (nI q7_96)), (6, .int (-1)), (5, .int (-1)), (3, .int (nI (dn sn))), (0, .ref (a 0)), (1, .int (nI sn)), (2, .int p1)]) hx hb dX8_leastAll_151 hl (by decide) rfl (fun ls hl => ?_)
                                  refine lv_iinc (v := (nI (q8_147 + 1))) (lv' := [(8, .int (nI (q8_147 + 1))), (4, .int r_166), (9, .int r_166), (7, .int (nI q7_96)), (6, .int (-1)), (5, .int (-1)), (3, .int (nI (dn sn))), (0, .ref (a 0)), (1, .int (nI sn)), (2, .int p1)]) hx hb dX8_leastAll_153 hl (k := 2) rfl (nI_add q8_147 1) (by decide) rfl (fun ls hl => ?_)
                                  refine lv_goto (tgt := 75) hx hb dX8_leastAll_156 (by decide) ?_
                                  exact ih_147 _ (q8_147 + 1 + 1, r_166) _ _ _ (by omega) ⟨rfl, (by omega), hP, hS, (by rw [nI_pred]; exact lv_sub hl [0, 3, 4, 5, 1, 6, 7, 8, 9] rfl)⟩
        · rw [nI_pred] at hl
          refine lv_iload hx hb dX8_leastAll_33 (lv_at hl 0 rfl) ?_
          refine lv_aload_n hx hb dX8_leastAll_35 rfl (lv_at hl 4 rfl) ?_
          refine va_get (D := D) (ci := 8) (v := .int (nI ca)) (C := RX8) (T := TX8) (N := 44) hx hb hts inX8 hown hK hP 0 rfl rfl 34 (by decide) (hts _ tw_1007) (fun _ h9 => h9) rfl dX8_leastAll_36 ?_
          refine lv_iconst (v := 1) hx hb dX8_leastAll_39 (by decide) ?_
          refine lv_icmp_le (tgt := 47) hx hb dX8_leastAll_40 (by decide) (fun c_170 => ?_) (fun c_170 => ?_)
          · have c_170 := (nI_leI (a := ca) (b := 1) (by omega) (by omega)).mp c_170
            refine lv_iconst (v := 0) hx hb dX8_leastAll_47 (by decide) ?_
            refine lv_icmp_ge (tgt := 171) hx hb dX8_leastAll_48 (by decide) (fun _ => ?_) (fun h => absurd (nI_ge0 (by omega)) h)
            refine lv_iinc (v := 0) (lv' := [(5, .int 0), (6, .int (nI q6_19)), (4, .int be_19), (3, .int (nI (dn sn))), (0, .ref (a 0)), (1, .int (nI sn)), (2, .int p1)]) hx hb dX8_leastAll_171 hl (k := 1) rfl (by decide) (by decide) rfl (fun ls hl => ?_)
            refine lv_goto (tgt := 13) hx hb dX8_leastAll_174 (by decide) ?_
            exact ih_1 _ (1, be_19) _ _ _ (by omega) ⟨rfl, (by omega), hP, hS, (by rw [nI_pred]; exact lv_sub hl [0, 2, 3, 4, 5, 6] rfl)⟩
          · have c_170 : ¬ (ca ≤ 1) := fun h => c_170 ((nI_leI (a := ca) (b := 1) (by omega) (by omega)).mpr h)
            refine lv_iload_n hx hb dX8_leastAll_43 rfl (lv_at hl 3 rfl) ?_
            refine lv_goto (tgt := 48) hx hb dX8_leastAll_44 (by decide) ?_
            refine lv_icmp_ge (tgt := 171) hx hb dX8_leastAll_48 (by decide) (fun c_171 => ?_) (fun c_171 => ?_)
            · have c_171 := (nI_leI (a := (dn sn)) (b := q6_19) (by omega) (by omega)).mp c_171
              refine lv_iinc (v := 0) (lv' := [(5, .int 0), (6, .int (nI q6_19)), (4, .int be_19), (3, .int (nI (dn sn))), (0, .ref (a 0)), (1, .int (nI sn)), (2, .int p1)]) hx hb dX8_leastAll_171 hl (k := 1) rfl (by decide) (by decide) rfl (fun ls hl => ?_)
              refine lv_goto (tgt := 13) hx hb dX8_leastAll_174 (by decide) ?_
              exact ih_1 _ (1, be_19) _ _ _ (by omega) ⟨rfl, (by omega), hP, hS, (by rw [nI_pred]; exact lv_sub hl [0, 2, 3, 4, 5, 6] rfl)⟩
            · have c_171 : ¬ ((dn sn) ≤ q6_19) := fun h => c_171 ((nI_leI (a := (dn sn)) (b := q6_19) (by omega) (by omega)).mpr h)
              refine lv_iconst (v := (-1)) hx hb dX8_leastAll_51 (by decide) ?_
              refine lv_istore (lv' := [(7, .int (-1)), (6, .int (nI q6_19)), (5, .int (-1)), (4, .int be_19), (3, .int (nI (dn sn))), (0, .ref (a 0)), (1, .int (nI sn)), (2, .int p1)]) hx hb dX8_leastAll_52 hl (by decide) rfl (fun ls hl => ?_)
              refine W_loop (σ := Nat × Int32) (fun (n_ : Nat) (x_ : Nat × Int32) (H : Heap) (locs : List Loc) (ls : Array Slot) => match x_ with | (q7_172, be_172) => n_ = 26 - q7_172 ∧ (q7_172 ≤ 25) ∧ va_P D classes [((a 0), .inr (8, (fX8 a (nI tx) fp (nI t0) wd (nI we) nu na (nI rd) ts (nI ru) (nI rw) (nI ca) df db sd))), (aI k (a 1) 3 (nF dn)), (aI k (a 4) 27 (sg se tm gs)), (aI k (a 3) 72 fprices), (aI k (a 36) 4 fwalks)] H ∧ va_S (fun q : Nat => s.heap.size ≤ q) s.heap H locs ∧ lv_has ls 10 [(7, .int (nI q7_172 - 1)), (6, .int (nI q6_19)), (5, .int (-1)), (4, .int be_172), (3, .int (nI (dn sn))), (0, .ref (a 0)), (1, .int (nI sn)), (2, .int p1)]) (fun n_172 x_172 H locs ls hI ih_172 => ?_) _ (0, be_19) ⟨rfl, (by omega), hP, hS, (by rw [dn0]; exact lv_sub hl [0, 1, 2, 3, 4, 5, 6, 7] rfl)⟩
              obtain ⟨q7_172, be_172⟩ := x_172
              obtain ⟨hm_172, hv_172, hP, hS, hl⟩ := hI
              subst hm_172
              rcases q7_172 with _ | q7_172
              · rw [dn0] at hl
                refine lv_iload hx hb dX8_leastAll_54 (lv_at hl 0 rfl) ?_
                refine lv_aload_n hx hb dX8_leastAll_56 rfl (lv_at hl 5 rfl) ?_
                refine va_get (D := D) (ci := 8) (v := .int (nI ca)) (C := RX8) (T := TX8) (N := 44) hx hb hts inX8 hown hK hP 0 rfl rfl 34 (by decide) (hts _ tw_1007) (fun _ h9 => h9) rfl dX8_leastAll_57 ?_
                refine lv_iconst (v := 2) hx hb dX8_leastAll_60 (by decide) ?_
                refine lv_icmp_le (tgt := 68) hx hb dX8_leastAll_61 (by decide) (fun c_173 => ?_) (fun c_173 => ?_)
                · have c_173 := (nI_leI (a := ca) (b := 2) (by omega) (by omega)).mp c_173
                  refine lv_iconst (v := 0) hx hb dX8_leastAll_68 (by decide) ?_
                  refine lv_icmp_ge (tgt := 165) hx hb dX8_leastAll_69 (by decide) (fun h => absurd h (by decide)) (fun _ => ?_)
                  refine lv_iconst (v := (-1)) hx hb dX8_leastAll_72 (by decide) ?_
                  refine lv_istore (lv' := [(8, .int (-1)), (7, .int (-1)), (6, .int (nI q6_19)), (5, .int (-1)), (4, .int be_172), (3, .int (nI (dn sn))), (0, .ref (a 0)), (1, .int (nI sn)), (2, .int p1)]) hx hb dX8_leastAll_73 hl (by decide) rfl (fun ls hl => ?_)
                  refine W_loop (σ := Nat × Int32) (fun (n_ : Nat) (x_ : Nat × Int32) (H : Heap) (locs : List Loc) (ls : Array Slot) => match x_ with | (q8_174, be_174) => n_ = 26 - q8_174 ∧ (q8_174 ≤ 25) ∧ va_P D classes [((a 0), .inr (8, (fX8 a (nI tx) fp (nI t0) wd (nI we) nu na (nI rd) ts (nI ru) (nI rw) (nI ca) df db sd))), (aI k (a 1) 3 (nF dn)), (aI k (a 4) 27 (sg se tm gs)), (aI k (a 3) 72 fprices), (aI k (a 36) 4 fwalks)] H ∧ va_S (fun q : Nat => s.heap.size ≤ q) s.heap H locs ∧ lv_has ls 10 [(8, .int (nI q8_174 - 1)), (7, .int (-1)), (6, .int (nI q6_19)), (5, .int (-1)), (4, .int be_174), (3, .int (nI (dn sn))), (0, .ref (a 0)), (1, .int (nI sn)), (2, .int p1)]) (fun n_174 x_174 H locs ls hI ih_174 => ?_) _ (0, be_172) ⟨rfl, (by omega), hP, hS, (by rw [dn0]; exact lv_sub hl [0, 1, 2, 3, 4, 5, 6, 7, 8] rfl)⟩
                  obtain ⟨q8_174, be_174⟩ := x_174
                  obtain ⟨hm_174, hv_174, hP, hS, hl⟩ := hI
                  subst hm_174
                  rcases q8_174 with _ | q8_174
                  · rw [dn0] at hl
                    refine lv_iload hx hb dX8_leastAll_75 (lv_at hl 0 rfl) ?_
                    refine lv_aload_n hx hb dX8_leastAll_77 rfl (lv_at hl 6 rfl) ?_
                    refine va_get (D := D) (ci := 8) (v := .int (nI ca)) (C := RX8) (T := TX8) (N := 44) hx hb hts inX8 hown hK hP 0 rfl rfl 34 (by decide) (hts _ tw_1007) (fun _ h9 => h9) rfl dX8_leastAll_78 ?_
                    refine lv_iconst (v := 3) hx hb dX8_leastAll_81 (by decide) ?_
                    refine lv_icmp_le (tgt := 89) hx hb dX8_leastAll_82 (by decide) (fun c_175 => ?_) (fun c_175 => ?_)
                    · have c_175 := (nI_leI (a := ca) (b := 3) (by omega) (by omega)).mp c_175
                      refine lv_iconst (v := 0) hx hb dX8_leastAll_89 (by decide) ?_
                      refine lv_icmp_ge (tgt := 159) hx hb dX8_leastAll_90 (by decide) (fun h => absurd h (by decide)) (fun _ => ?_)
                      refine lv_iload_n hx hb dX8_leastAll_93 rfl (lv_at hl 8 rfl) ?_
                      refine lv_iload hx hb dX8_leastAll_94 (lv_at hl 3 rfl) ?_
                      refine lv_iload hx hb dX8_leastAll_96 (lv_at hl 2 rfl) ?_
                      refine lv_iload hx hb dX8_leastAll_98 (lv_at hl 1 rfl) ?_
                      refine lv_iload hx hb dX8_leastAll_100 (lv_at hl 0 rfl) ?_
                      refine ro_i (D := D) (va_runS (As := [.int p1, .int (-1), .int (nI q6_19), .int (-1), .int (-1)]) (rest := []) ⟨hx, hb, hml, hown, hts⟩ ((m_canAll l D k st lo p1 (-1) (nI q6_19) (-1) (-1)) H.size) (va_cwS 5 hts (gS tw_1450 tw_1451 tw_87 tw_1452) rfl rfl rfl (by decide +kernel) ⟨Nat.le_of_ble_eq_true rfl, Nat.le_of_ble_eq_true rfl⟩) (pS hS hAlo hlo hP hK hDL hZ [] (by decide) rfl) rfl rfl hl.1 rfl (lv_room (Nat.le_of_ble_eq_true rfl)) dX8_leastAll_102 ⟨Nat.le_of_ble_eq_true rfl, Nat.le_of_ble_eq_true rfl⟩) hS hA hP (fun r_176 H locs hw_176 hP hS => ?_)
                      try dsimp only at hw_176
                      refine lv_if_eq (tgt := 124) hx hb dX8_leastAll_105 (by decide) (fun c_177 => ?_) (fun c_177 => ?_)
                      · refine lv_iconst (v := (-1)) hx hb dX8_leastAll_124 (by decide) ?_
                        refine lv_istore (lv' := [(9, .int (-1)), (8, .int (-1)), (7, .int (-1)), (6, .int (nI q6_19)), (5, .int (-1)), (4, .int be_174), (3, .int (nI (dn sn))), (0, .ref (a 0)), (1, .int (nI sn)), (2, .int p1)]) hx hb dX8_leastAll_125 hl (by decide) rfl (fun ls hl => ?_)
                        refine lv_iload hx hb dX8_leastAll_127 (lv_at hl 0 rfl) ?_
                        refine lv_if_lt (tgt := 149) hx hb dX8_leastAll_129 (by decide) (fun _ => ?_) (fun h => absurd (by decide) h)
                        refine lv_iload hx hb dX8_leastAll_149 (lv_at hl 5 rfl) ?_
                        refine lv_istore (lv' := [(4, .int be_174), (9, .int (-1)), (8, .int (-1)), (7, .int (-1)), (6, .int (nI q6_19)), (5, .int (-1)), (3, .int (nI (dn sn))), (0, .ref (a 0)), (1, .int (nI sn)), (2, .int p1)]) hx hb dX8_leastAll_151 hl (by decide) rfl (fun ls hl => ?_)
                        refine lv_iinc (v := 0) (lv' := [(8, .int 0), (4, .int be_174), (9, .int (-1)), (7, .int (-1)), (6, .int (nI q6_19)), (5, .int (-1)), (3, .int (nI (dn sn))), (0, .ref (a 0)), (1, .int (nI sn)), (2, .int p1)]) hx hb dX8_leastAll_153 hl (k := 2) rfl (by decide) (by decide) rfl (fun ls hl => ?_)
                        refine lv_goto (tgt := 75) hx hb dX8_leastAll_156 (by decide) ?_
                        exact ih_174 _ (1, be_174) _ _ _ (by omega) ⟨rfl, (by omega), hP, hS, (by rw [nI_pred]; exact lv_sub hl [0, 3, 4, 5, 1, 6, 7, 8, 9] rfl)⟩
                      · refine lv_aload_n hx hb dX8_leastAll_108 rfl (lv_at hl 6 rfl) ?_
                        refine lv_iload_n hx hb dX8_leastAll_109 rfl (lv_at hl 7 rfl) ?_
                        refine lv_iload hx hb dX8_leastAll_110 (lv_at hl 3 rfl) ?_
                        refine lv_iload hx hb dX8_leastAll_112 (lv_at hl 2 rfl) ?_
                        refine lv_iload hx hb dX8_leastAll_114 (lv_at hl 1 rfl) ?_
                        refine lv_iload hx hb dX8_leastAll_116 (lv_at hl 0 rfl) ?_
                        refine ro_i (D := D) (va_runV (As := [.int (nI sn), .int (-1), .int (nI q6_19), .int (-1), .int (-1)]) (rest := []) ⟨hx, hb, hml, hown, hts⟩ ((m_sumAll l D k st lo a tx t0 we rd ru rw ca fp wd nu na ts df db sd dn se tm gs fprices fwalks sn (-1) (nI q6_19) (-1) (-1) (by omega) (by omega) (.inl (by decide)) (.inr ⟨q6_19, by omega, rfl⟩) (.inl (by decide)) (.inl (by decide))) H.size) (cwV 5 hts (gV tw_1459 tw_1461 tw_75 tw_87 tw_1462) rfl rfl rfl (by decide +kernel) ⟨Nat.le_of_ble_eq_true rfl, Nat.le_of_ble_eq_true rfl⟩) (pV hS hAlo hlo hP hK hDL hZ [0, 1, 2, 3, 4] (by decide) rfl (ci := 8) (q := (RX8, TX8, 44)) (q0 := 0) rfl rfl) rfl rfl hl.1 rfl (lv_room (Nat.le_of_ble_eq_true rfl)) dX8_leastAll_118 ⟨Nat.le_of_ble_eq_true rfl, Nat.le_of_ble_eq_true rfl⟩) hS hA hP (fun r_178 H locs hw_178 hP hS => ?_)
                        try dsimp only at hw_178
                        refine lv_goto (tgt := 125) hx hb dX8_leastAll_121 (by decide) ?_
                        refine lv_istore (lv' := [(9, .int r_178), (8, .int (-1)), (7, .int (-1)), (6, .int (nI q6_19)), (5, .int (-1)), (4, .int be_174), (3, .int (nI (dn sn))), (0, .ref (a 0)), (1, .int (nI sn)), (2, .int p1)]) hx hb dX8_leastAll_125 hl (by decide) rfl (fun ls hl => ?_)
                        refine lv_iload hx hb dX8_leastAll_127 (lv_at hl 0 rfl) ?_
                        refine lv_if_lt (tgt := 149) hx hb dX8_leastAll_129 (by decide) (fun c_179 => ?_) (fun c_179 => ?_)
                        · refine lv_iload hx hb dX8_leastAll_149 (lv_at hl 5 rfl) ?_
                          refine lv_istore (lv' := [(4, .int be_174), (9, .int r_178), (8, .int (-1)), (7, .int (-1)), (6, .int (nI q6_19)), (5, .int (-1)), (3, .int (nI (dn sn))), (0, .ref (a 0)), (1, .int (nI sn)), (2, .int p1)]) hx hb dX8_leastAll_151 hl (by decide) rfl (fun ls hl => ?_)
                          refine lv_iinc (v := 0) (lv' := [(8, .int 0), (4, .int be_174), (9, .int r_178), (7, .int (-1)), (6, .int (nI q6_19)), (5, .int (-1)), (3, .int (nI (dn sn))), (0, .ref (a 0)), (1, .int (nI sn)), (2, .int p1)]) hx hb dX8_leastAll_153 hl (k := 2) rfl (by decide) (by decide) rfl (fun ls hl => ?_)
                          refine lv_goto (tgt := 75) hx hb dX8_leastAll_156 (by decide) ?_
                          exact ih_174 _ (1, be_174) _ _ _ (by omega) ⟨rfl, (by omega), hP, hS, (by rw [nI_pred]; exact lv_sub hl [0, 3, 4, 5, 1, 6, 7, 8, 9] rfl)⟩
                        · refine lv_iload hx hb dX8_leastAll_132 (lv_at hl 5 rfl) ?_
                          refine lv_if_lt (tgt := 144) hx hb dX8_leastAll_134 (by decide) (fun c_180 => ?_) (fun c_180 => ?_)
                          · refine lv_iload hx hb dX8_leastAll_144 (lv_at hl 0 rfl) ?_
                            refine lv_goto (tgt := 151) hx hb dX8_leastAll_146 (by decide) ?_
                            refine lv_istore (lv' := [(4, .int r_178), (9, .int r_178), (8, .int (-1)), (7, .int (-1)), (6, .int (nI q6_19)), (5, .int (-1)), (3, .int (nI (dn sn))), (0, .ref (a 0)), (1, .int (nI sn)), (2, .int p1)]) hx hb dX8_leastAll_151 hl (by decide) rfl (fun ls hl => ?_)
                            refine lv_iinc (v := 0) (lv' := [(8, .int 0), (4, .int r_178), (9, .int r_178), (7, .int (-1)), (6, .int (nI q6_19)), (5, .int (-1)), (3, .int (nI (dn sn))), (0, .ref (a 0)), (1, .int (nI sn)), (2, .int p1)]) hx hb dX8_leastAll_153 hl (k := 2) rfl (by decide) (by decide) rfl (fun ls hl => ?_)
                            refine lv_goto (tgt := 75) hx hb dX8_leastAll_156 (by decide) ?_
                            exact ih_174 _ (1, r_178) _ _ _ (by omega) ⟨rfl, (by omega), hP, hS, (by rw [nI_pred]; exact lv_sub hl [0, 3, 4, 5, 1, 6, 7, 8, 9] rfl)⟩
                          · refine lv_iload hx hb dX8_leastAll_137 (lv_at hl 0 rfl) ?_
                            refine lv_iload hx hb dX8_leastAll_139 (lv_at hl 5 rfl) ?_
                            refine lv_icmp_ge (tgt := 149) hx hb dX8_leastAll_141 (by decide) (fun c_181 => ?_) (fun c_181 => ?_)
                            · refine lv_iload hx hb dX8_leastAll_149 (lv_at hl 5 rfl) ?_
                              refine lv_istore (lv' := [(4, .int be_174), (9, .int r_178), (8, .int (-1)), (7, .int (-1)), (6, .int (nI q6_19)), (5, .int (-1)), (3, .int (nI (dn sn))), (0, .ref (a 0)), (1, .int (nI sn)), (2, .int p1)]) hx hb dX8_leastAll_151 hl (by decide) rfl (fun ls hl => ?_)
                              refine lv_iinc (v := 0) (lv' := [(8, .int 0), (4, .int be_174), (9, .int r_178), (7, .int (-1)), (6, .int (nI q6_19)), (5, .int (-1)), (3, .int (nI (dn sn))), (0, .ref (a 0)), (1, .int (nI sn)), (2, .int p1)]) hx hb dX8_leastAll_153 hl (k := 2) rfl (by decide) (by decide) rfl (fun ls hl => ?_)
                              refine lv_goto (tgt := 75) hx hb dX8_leastAll_156 (by decide) ?_
                              exact ih_174 _ (1, be_174) _ _ _ (by omega) ⟨rfl, (by omega), hP, hS, (by rw [nI_pred]; exact lv_sub hl [0, 3, 4, 5, 1, 6, 7, 8, 9] rfl)⟩
                            · refine lv_iload hx hb dX8_leastAll_144 (lv_at hl 0 rfl) ?_
                              refine lv_goto (tgt := 151) hx hb dX8_leastAll_146 (by decide) ?_
                              refine lv_istore (lv' := [(4, .int r_178), (9, .int r_178), (8, .int (-1)), (7, .int (-1)), (6, .int (nI q6_19)), (5, .int (-1)), (3, .int (nI (dn sn))), (0, .ref (a 0)), (1, .int (nI sn)), (2, .int p1)]) hx hb dX8_leastAll_151 hl (by decide) rfl (fun ls hl => ?_)
                              refine lv_iinc (v := 0) (lv' := [(8, .int 0), (4, .int r_178), (9, .int r_178), (7, .int (-1)), (6, .int (nI q6_19)), (5, .int (-1)), (3, .int (nI (dn sn))), (0, .ref (a 0)), (1, .int (nI sn)), (2, .int p1)]) hx hb dX8_leastAll_153 hl (k := 2) rfl (by decide) (by decide) rfl (fun ls hl => ?_)
                              refine lv_goto (tgt := 75) hx hb dX8_leastAll_156 (by decide) ?_
                              exact ih_174 _ (1, r_178) _ _ _ (by omega) ⟨rfl, (by omega), hP, hS, (by rw [nI_pred]; exact lv_sub hl [0, 3, 4, 5, 1, 6, 7, 8, 9] rfl)⟩
                    · have c_175 : ¬ (ca ≤ 3) := fun h => c_175 ((nI_leI (a := ca) (b := 3) (by omega) (by omega)).mpr h)
                      refine lv_iload_n hx hb dX8_leastAll_85 rfl (lv_at hl 5 rfl) ?_
                      refine lv_goto (tgt := 90) hx hb dX8_leastAll_86 (by decide) ?_
                      refine lv_icmp_ge (tgt := 159) hx hb dX8_leastAll_90 (by decide) (fun c_182 => ?_) (fun c_182 => ?_)
                      · refine lv_iinc (v := 0) (lv' := [(7, .int 0), (8, .int (-1)), (6, .int (nI q6_19)), (5, .int (-1)), (4, .int be_174), (3, .int (nI (dn sn))), (0, .ref (a 0)), (1, .int (nI sn)), (2, .int p1)]) hx hb dX8_leastAll_159 hl (k := 1) rfl (by decide) (by decide) rfl (fun ls hl => ?_)
                        refine lv_goto (tgt := 54) hx hb dX8_leastAll_162 (by decide) ?_
                        exact ih_172 _ (1, be_174) _ _ _ (by omega) ⟨rfl, (by omega), hP, hS, (by rw [nI_pred]; exact lv_sub hl [0, 2, 3, 4, 5, 6, 7, 8] rfl)⟩
                      · refine lv_iload_n hx hb dX8_leastAll_93 rfl (lv_at hl 8 rfl) ?_
                        refine lv_iload hx hb dX8_leastAll_94 (lv_at hl 3 rfl) ?_
                        refine lv_iload hx hb dX8_leastAll_96 (lv_at hl 2 rfl) ?_
                        refine lv_iload hx hb dX8_leastAll_98 (lv_at hl 1 rfl) ?_
                        refine lv_iload hx hb dX8_leastAll_100 (lv_at hl 0 rfl) ?_
                        refine ro_i (D := D) (va_runS (As := [.int p1, .int (-1), .int (nI q6_19), .int (-1), .int (-1)]) (rest := []) ⟨hx, hb, hml, hown, hts⟩ ((m_canAll l D k st lo p1 (-1) (nI q6_19) (-1) (-1)) H.size) (va_cwS 5 hts (gS tw_1450 tw_1451 tw_87 tw_1452) rfl rfl rfl (by decide +kernel) ⟨Nat.le_of_ble_eq_true rfl, Nat.le_of_ble_eq_true rfl⟩) (pS hS hAlo hlo hP hK hDL hZ [] (by decide) rfl) rfl rfl hl.1 rfl (lv_room (Nat.le_of_ble_eq_true rfl)) dX8_leastAll_102 ⟨Nat.le_of_ble_eq_true rfl, Nat.le_of_ble_eq_true rfl⟩) hS hA hP (fun r_183 H locs hw_183 hP hS => ?_)
                        try dsimp only at hw_183
                        refine lv_if_eq (tgt := 124) hx hb dX8_leastAll_105 (by decide) (fun c_184 => ?_) (fun c_184 => ?_)
                        · refine lv_iconst (v := (-1)) hx hb dX8_leastAll_124 (by decide) ?_
                          refine lv_istore (lv' := [(9, .int (-1)), (8, .int (-1)), (7, .int (-1)), (6, .int (nI q6_19)), (5, .int (-1)), (4, .int be_174), (3, .int (nI (dn sn))), (0, .ref (a 0)), (1, .int (nI sn)), (2, .int p1)]) hx hb dX8_leastAll_125 hl (by decide) rfl (fun ls hl => ?_)
                          refine lv_iload hx hb dX8_leastAll_127 (lv_at hl 0 rfl) ?_
                          refine lv_if_lt (tgt := 149) hx hb dX8_leastAll_129 (by decide) (fun _ => ?_) (fun h => absurd (by decide) h)
                          refine lv_iload hx hb dX8_leastAll_149 (lv_at hl 5 rfl) ?_
                          refine lv_istore (lv' := [(4, .int be_174), (9, .int (-1)), (8, .int (-1)), (7, .int (-1)), (6, .int (nI q6_19)), (5, .int (-1)), (3, .int (nI (dn sn))), (0, .ref (a 0)), (1, .int (nI sn)), (2, .int p1)]) hx hb dX8_leastAll_151 hl (by decide) rfl (fun ls hl => ?_)
                          refine lv_iinc (v := 0) (lv' := [(8, .int 0), (4, .int be_174), (9, .int (-1)), (7, .int (-1)), (6, .int (nI q6_19)), (5, .int (-1)), (3, .int (nI (dn sn))), (0, .ref (a 0)), (1, .int (nI sn)), (2, .int p1)]) hx hb dX8_leastAll_153 hl (k := 2) rfl (by decide) (by decide) rfl (fun ls hl => ?_)
                          refine lv_goto (tgt := 75) hx hb dX8_leastAll_156 (by decide) ?_
                          exact ih_174 _ (1, be_174) _ _ _ (by omega) ⟨rfl, (by omega), hP, hS, (by rw [nI_pred]; exact lv_sub hl [0, 3, 4, 5, 1, 6, 7, 8, 9] rfl)⟩
                        · refine lv_aload_n hx hb dX8_leastAll_108 rfl (lv_at hl 6 rfl) ?_
                          refine lv_iload_n hx hb dX8_leastAll_109 rfl (lv_at hl 7 rfl) ?_
                          refine lv_iload hx hb dX8_leastAll_110 (lv_at hl 3 rfl) ?_
                          refine lv_iload hx hb dX8_leastAll_112 (lv_at hl 2 rfl) ?_
                          refine lv_iload hx hb dX8_leastAll_114 (lv_at hl 1 rfl) ?_
                          refine lv_iload hx hb dX8_leastAll_116 (lv_at hl 0 rfl) ?_
                          refine ro_i (D := D) (va_runV (As := [.int (nI sn), .int (-1), .int (nI q6_19), .int (-1), .int (-1)]) (rest := []) ⟨hx, hb, hml, hown, hts⟩ ((m_sumAll l D k st lo a tx t0 we rd ru rw ca fp wd nu na ts df db sd dn se tm gs fprices fwalks sn (-1) (nI q6_19) (-1) (-1) (by omega) (by omega) (.inl (by decide)) (.inr ⟨q6_19, by omega, rfl⟩) (.inl (by decide)) (.inl (by decide))) H.size) (cwV 5 hts (gV tw_1459 tw_1461 tw_75 tw_87 tw_1462) rfl rfl rfl (by decide +kernel) ⟨Nat.le_of_ble_eq_true rfl, Nat.le_of_ble_eq_true rfl⟩) (pV hS hAlo hlo hP hK hDL hZ [0, 1, 2, 3, 4] (by decide) rfl (ci := 8) (q := (RX8, TX8, 44)) (q0 := 0) rfl rfl) rfl rfl hl.1 rfl (lv_room (Nat.le_of_ble_eq_true rfl)) dX8_leastAll_118 ⟨Nat.le_of_ble_eq_true rfl, Nat.le_of_ble_eq_true rfl⟩) hS hA hP (fun r_185 H locs hw_185 hP hS => ?_)
                          try dsimp only at hw_185
                          refine lv_goto (tgt := 125) hx hb dX8_leastAll_121 (by decide) ?_
                          refine lv_istore (lv' := [(9, .int r_185), (8, .int (-1)), (7, .int (-1)), (6, .int (nI q6_19)), (5, .int (-1)), (4, .int be_174), (3, .int (nI (dn sn))), (0, .ref (a 0)), (1, .int (nI sn)), (2, .int p1)]) hx hb dX8_leastAll_125 hl (by decide) rfl (fun ls hl => ?_)
                          refine lv_iload hx hb dX8_leastAll_127 (lv_at hl 0 rfl) ?_
                          refine lv_if_lt (tgt := 149) hx hb dX8_leastAll_129 (by decide) (fun c_186 => ?_) (fun c_186 => ?_)
                          · refine lv_iload hx hb dX8_leastAll_149 (lv_at hl 5 rfl) ?_
                            refine lv_istore (lv' := [(4, .int be_174), (9, .int r_185), (8, .int (-1)), (7, .int (-1)), (6, .int (nI q6_19)), (5, .int (-1)), (3, .int (nI (dn sn))), (0, .ref (a 0)), (1, .int (nI sn)), (2, .int p1)]) hx hb dX8_leastAll_151 hl (by decide) rfl (fun ls hl => ?_)
                            refine lv_iinc (v := 0) (lv' := [(8, .int 0), (4, .int be_174), (9, .int r_185), (7, .int (-1)), (6, .int (nI q6_19)), (5, .int (-1)), (3, .int (nI (dn sn))), (0, .ref (a 0)), (1, .int (nI sn)), (2, .int p1)]) hx hb dX8_leastAll_153 hl (k := 2) rfl (by decide) (by decide) rfl (fun ls hl => ?_)
                            refine lv_goto (tgt := 75) hx hb dX8_leastAll_156 (by decide) ?_
                            exact ih_174 _ (1, be_174) _ _ _ (by omega) ⟨rfl, (by omega), hP, hS, (by rw [nI_pred]; exact lv_sub hl [0, 3, 4, 5, 1, 6, 7, 8, 9] rfl)⟩
                          · refine lv_iload hx hb dX8_leastAll_132 (lv_at hl 5 rfl) ?_
                            refine lv_if_lt (tgt := 144) hx hb dX8_leastAll_134 (by decide) (fun c_187 => ?_) (fun c_187 => ?_)
                            · refine lv_iload hx hb dX8_leastAll_144 (lv_at hl 0 rfl) ?_
                              refine lv_goto (tgt := 151) hx hb dX8_leastAll_146 (by decide) ?_
                              refine lv_istore (lv' := [(4, .int r_185), (9, .int r_185), (8, .int (-1)), (7, .int (-1)), (6, .int (nI q6_19)), (5, .int (-1)), (3, .int (nI (dn sn))), (0, .ref (a 0)), (1, .int (nI sn)), (2, .int p1)]) hx hb dX8_leastAll_151 hl (by decide) rfl (fun ls hl => ?_)
                              refine lv_iinc (v := 0) (lv' := [(8, .int 0), (4, .int r_185), (9, .int r_185), (7, .int (-1)), (6, .int (nI q6_19)), (5, .int (-1)), (3, .int (nI (dn sn))), (0, .ref (a 0)), (1, .int (nI sn)), (2, .int p1)]) hx hb dX8_leastAll_153 hl (k := 2) rfl (by decide) (by decide) rfl (fun ls hl => ?_)
                              refine lv_goto (tgt := 75) hx hb dX8_leastAll_156 (by decide) ?_
                              exact ih_174 _ (1, r_185) _ _ _ (by omega) ⟨rfl, (by omega), hP, hS, (by rw [nI_pred]; exact lv_sub hl [0, 3, 4, 5, 1, 6, 7, 8, 9] rfl)⟩
                            · refine lv_iload hx hb dX8_leastAll_137 (lv_at hl 0 rfl) ?_
                              refine lv_iload hx hb dX8_leastAll_139 (lv_at hl 5 rfl) ?_
                              refine lv_icmp_ge (tgt := 149) hx hb dX8_leastAll_141 (by decide) (fun c_188 => ?_) (fun c_188 => ?_)
                              · refine lv_iload hx hb dX8_leastAll_149 (lv_at hl 5 rfl) ?_
                                refine lv_istore (lv' := [(4, .int be_174), (9, .int r_185), (8, .int (-1)), (7, .int (-1)), (6, .int (nI q6_19)), (5, .int (-1)), (3, .int (nI (dn sn))), (0, .ref (a 0)), (1, .int (nI sn)), (2, .int p1)]) hx hb dX8_leastAll_151 hl (by decide) rfl (fun ls hl => ?_)
                                refine lv_iinc (v := 0) (lv' := [(8, .int 0), (4, .int be_174), (9, .int r_185), (7, .int (-1)), (6, .int (nI q6_19)), (5, .int (-1)), (3, .int (nI (dn sn))), (0, .ref (a 0)), (1, .int (nI sn)), (2, .int p1)]) hx hb dX8_leastAll_153 hl (k := 2) rfl (by decide) (by decide) rfl (fun ls hl => ?_)
                                refine lv_goto (tgt := 75) hx hb dX8_leastAll_156 (by decide) ?_
                                exact ih_174 _ (1, be_174) _ _ _ (by omega) ⟨rfl, (by omega), hP, hS, (by rw [nI_pred]; exact lv_sub hl [0, 3, 4, 5, 1, 6, 7, 8, 9] rfl)⟩
                              · refine lv_iload hx hb dX8_leastAll_144 (lv_at hl 0 rfl) ?_
                                refine lv_goto (tgt := 151) hx hb dX8_leastAll_146 (by decide) ?_
                                refine lv_istore (lv' := [(4, .int r_185), (9, .int r_185), (8, .int (-1)), (7, .int (-1)), (6, .int (nI q6_19)), (5, .int (-1)), (3, .int (nI (dn sn))), (0, .ref (a 0)), (1, .int (nI sn)), (2, .int p1)]) hx hb dX8_leastAll_151 hl (by decide) rfl (fun ls hl => ?_)
                                refine lv_iinc (v := 0) (lv' := [(8, .int 0), (4, .int r_185), (9, .int r_185), (7, .int (-1)), (6, .int (nI q6_19)), (5, .int (-1)), (3, .int (nI (dn sn))), (0, .ref (a 0)), (1, .int (nI sn)), (2, .int p1)]) hx hb dX8_leastAll_153 hl (k := 2) rfl (by decide) (by decide) rfl (fun ls hl => ?_)
                                refine lv_goto (tgt := 75) hx hb dX8_leastAll_156 (by decide) ?_
                                exact ih_174 _ (1, r_185) _ _ _ (by omega) ⟨rfl, (by omega), hP, hS, (by rw [nI_pred]; exact lv_sub hl [0, 3, 4, 5, 1, 6, 7, 8, 9] rfl)⟩
                  · rw [nI_pred] at hl
                    refine lv_iload hx hb dX8_leastAll_75 (lv_at hl 0 rfl) ?_
                    refine lv_aload_n hx hb dX8_leastAll_77 rfl (lv_at hl 6 rfl) ?_
                    refine va_get (D := D) (ci := 8) (v := .int (nI ca)) (C := RX8) (T := TX8) (N := 44) hx hb hts inX8 hown hK hP 0 rfl rfl 34 (by decide) (hts _ tw_1007) (fun _ h9 => h9) rfl dX8_leastAll_78 ?_
                    refine lv_iconst (v := 3) hx hb dX8_leastAll_81 (by decide) ?_
                    refine lv_icmp_le (tgt := 89) hx hb dX8_leastAll_82 (by decide) (fun c_189 => ?_) (fun c_189 => ?_)
                    · have c_189 := (nI_leI (a := ca) (b := 3) (by omega) (by omega)).mp c_189
                      refine lv_iconst (v := 0) hx hb dX8_leastAll_89 (by decide) ?_
                      refine lv_icmp_ge (tgt := 159) hx hb dX8_leastAll_90 (by decide) (fun _ => ?_) (fun h => absurd (nI_ge0 (by omega)) h)
                      refine lv_iinc (v := 0) (lv' := [(7, .int 0), (8, .int (nI q8_174)), (6, .int (nI q6_19)), (5, .int (-1)), (4, .int be_174), (3, .int (nI (dn sn))), (0, .ref (a 0)), (1, .int (nI sn)), (2, .int p1)]) hx hb dX8_leastAll_159 hl (k := 1) rfl (by decide) (by decide) rfl (fun ls hl => ?_)
                      refine lv_goto (tgt := 54) hx hb dX8_leastAll_162 (by decide) ?_
                      exact ih_172 _ (1, be_174) _ _ _ (by omega) ⟨rfl, (by omega), hP, hS, (by rw [nI_pred]; exact lv_sub hl [0, 2, 3, 4, 5, 6, 7, 8] rfl)⟩
                    · have c_189 : ¬ (ca ≤ 3) := fun h => c_189 ((nI_leI (a := ca) (b := 3) (by omega) (by omega)).mpr h)
                      refine lv_iload_n hx hb dX8_leastAll_85 rfl (lv_at hl 5 rfl) ?_
                      refine lv_goto (tgt := 90) hx hb dX8_leastAll_86 (by decide) ?_
                      refine lv_icmp_ge (tgt := 159) hx hb dX8_leastAll_90 (by decide) (fun c_190 => ?_) (fun c_190 => ?_)
                      · have c_190 := (nI_leI (a := (dn sn)) (b := q8_174) (by omega) (by omega)).mp c_190
                        refine lv_iinc (v := 0) (lv' := [(7, .int 0), (8, .int (nI q8_174)), (6, .int (nI q6_19)), (5, .int (-1)), (4, .int be_174), (3, .int (nI (dn sn))), (0, .ref (a 0)), (1, .int (nI sn)), (2, .int p1)]) hx hb dX8_leastAll_159 hl (k := 1) rfl (by decide) (by decide) rfl (fun ls hl => ?_)
                        refine lv_goto (tgt := 54) hx hb dX8_leastAll_162 (by decide) ?_
                        exact ih_172 _ (1, be_174) _ _ _ (by omega) ⟨rfl, (by omega), hP, hS, (by rw [nI_pred]; exact lv_sub hl [0, 2, 3, 4, 5, 6, 7, 8] rfl)⟩
                      · have c_190 : ¬ ((dn sn) ≤ q8_174) := fun h => c_190 ((nI_leI (a := (dn sn)) (b := q8_174) (by omega) (by omega)).mpr h)
                        refine lv_iload_n hx hb dX8_leastAll_93 rfl (lv_at hl 8 rfl) ?_
                        refine lv_iload hx hb dX8_leastAll_94 (lv_at hl 3 rfl) ?_
                        refine lv_iload hx hb dX8_leastAll_96 (lv_at hl 2 rfl) ?_
                        refine lv_iload hx hb dX8_leastAll_98 (lv_at hl 1 rfl) ?_
                        refine lv_iload hx hb dX8_leastAll_100 (lv_at hl 0 rfl) ?_
                        refine ro_i (D := D) (va_runS (As := [.int p1, .int (-1), .int (nI q6_19), .int (-1), .int (nI q8_174)]) (rest := []) ⟨hx, hb, hml, hown, hts⟩ ((m_canAll l D k st lo p1 (-1) (nI q6_19) (-1) (nI q8_174)) H.size) (va_cwS 5 hts (gS tw_1450 tw_1451 tw_87 tw_1452) rfl rfl rfl (by decide +kernel) ⟨Nat.le_of_ble_eq_true rfl, Nat.le_of_ble_eq_true rfl⟩) (pS hS hAlo hlo hP hK hDL hZ [] (by decide) rfl) rfl rfl hl.1 rfl (lv_room (Nat.le_of_ble_eq_true rfl)) dX8_leastAll_102 ⟨Nat.le_of_ble_eq_true rfl, Nat.le_of_ble_eq_true rfl⟩) hS hA hP (fun r_191 H locs hw_191 hP hS => ?_)
                        try dsimp only at hw_191
                        refine lv_if_eq (tgt := 124) hx hb dX8_leastAll_105 (by decide) (fun c_192 => ?_) (fun c_192 => ?_)
                        · refine lv_iconst (v := (-1)) hx hb dX8_leastAll_124 (by decide) ?_
                          refine lv_istore (lv' := [(9, .int (-1)), (8, .int (nI q8_174)), (7, .int (-1)), (6, .int (nI q6_19)), (5, .int (-1)), (4, .int be_174), (3, .int (nI (dn sn))), (0, .ref (a 0)), (1, .int (nI sn)), (2, .int p1)]) hx hb dX8_leastAll_125 hl (by decide) rfl (fun ls hl => ?_)
                          refine lv_iload hx hb dX8_leastAll_127 (lv_at hl 0 rfl) ?_
                          refine lv_if_lt (tgt := 149) hx hb dX8_leastAll_129 (by decide) (fun _ => ?_) (fun h => absurd (by decide) h)
                          refine lv_iload hx hb dX8_leastAll_149 (lv_at hl 5 rfl) ?_
                          refine lv_istore (lv' := [(4, .int be_174), (9, .int (-1)), (8, .int (nI q8_174)), (7, .int (-1)), (6, .int (nI q6_19)), (5, .int (-1)), (3, .int (nI (dn sn))), (0, .ref (a 0)), (1, .int (nI sn)), (2, .int p1)]) hx hb dX8_leastAll_151 hl (by decide) rfl (fun ls hl => ?_)
                          refine lv_iinc (v := (nI (q8_174 + 1))) (lv' := [(8, .int (nI (q8_174 + 1))), (4, .int be_174), (9, .int (-1)), (7, .int (-1)), (6, .int (nI q6_19)), (5, .int (-1)), (3, .int (nI (dn sn))), (0, .ref (a 0)), (1, .int (nI sn)), (2, .int p1)]) hx hb dX8_leastAll_153 hl (k := 2) rfl (nI_add q8_174 1) (by decide) rfl (fun ls hl => ?_)
                          refine lv_goto (tgt := 75) hx hb dX8_leastAll_156 (by decide) ?_
                          exact ih_174 _ (q8_174 + 1 + 1, be_174) _ _ _ (by omega) ⟨rfl, (by omega), hP, hS, (by rw [nI_pred]; exact lv_sub hl [0, 3, 4, 5, 1, 6, 7, 8, 9] rfl)⟩
                        · refine lv_aload_n hx hb dX8_leastAll_108 rfl (lv_at hl 6 rfl) ?_
                          refine lv_iload_n hx hb dX8_leastAll_109 rfl (lv_at hl 7 rfl) ?_
                          refine lv_iload hx hb dX8_leastAll_110 (lv_at hl 3 rfl) ?_
                          refine lv_iload hx hb dX8_leastAll_112 (lv_at hl 2 rfl) ?_
                          refine lv_iload hx hb dX8_leastAll_114 (lv_at hl 1 rfl) ?_
                          refine lv_iload hx hb dX8_leastAll_116 (lv_at hl 0 rfl) ?_
                          refine ro_i (D := D) (va_runV (As := [.int (nI sn), .int (-1), .int (nI q6_19), .int (-1), .int (nI q8_174)]) (rest := []) ⟨hx, hb, hml, hown, hts⟩ ((m_sumAll l D k st lo a tx t0 we rd ru rw ca fp wd nu na ts df db sd dn se tm gs fprices fwalks sn (-1) (nI q6_19) (-1) (nI q8_174) (by omega) (by omega) (.inl (by decide)) (.inr ⟨q6_19, by omega, rfl⟩) (.inl (by decide)) (.inr ⟨q8_174, by omega, rfl⟩)) H.size) (cwV 5 hts (gV tw_1459 tw_1461 tw_75 tw_87 tw_1462) rfl rfl rfl (by decide +kernel) ⟨Nat.le_of_ble_eq_true rfl, Nat.le_of_ble_eq_true rfl⟩) (pV hS hAlo hlo hP hK hDL hZ [0, 1, 2, 3, 4] (by decide) rfl (ci := 8) (q := (RX8, TX8, 44)) (q0 := 0) rfl rfl) rfl rfl hl.1 rfl (lv_room (Nat.le_of_ble_eq_true rfl)) dX8_leastAll_118 ⟨Nat.le_of_ble_eq_true rfl, Nat.le_of_ble_eq_true rfl⟩) hS hA hP (fun r_193 H locs hw_193 hP hS => ?_)
                          try dsimp only at hw_193
                          refine lv_goto (tgt := 125) hx hb dX8_leastAll_121 (by decide) ?_
                          refine lv_istore (lv' := [(9, .int r_193), (8, .int (nI q8_174)), (7, .int (-1)), (6, .int (nI q6_19)), (5, .int (-1)), (4, .int be_174), (3, .int (nI (dn sn))), (0, .ref (a 0)), (1, .int (nI sn)), (2, .int p1)]) hx hb dX8_leastAll_125 hl (by decide) rfl (fun ls hl => ?_)
                          refine lv_iload hx hb dX8_leastAll_127 (lv_at hl 0 rfl) ?_
                          refine lv_if_lt (tgt := 149) hx hb dX8_leastAll_129 (by decide) (fun c_194 => ?_) (fun c_194 => ?_)
                          · refine lv_iload hx hb dX8_leastAll_149 (lv_at hl 5 rfl) ?_
                            refine lv_istore (lv' := [(4, .int be_174), (9, .int r_193), (8, .int (nI q8_174)), (7, .int (-1)), (6, .int (nI q6_19)), (5, .int (-1)), (3, .int (nI (dn sn))), (0, .ref (a 0)), (1, .int (nI sn)), (2, .int p1)]) hx hb dX8_leastAll_151 hl (by decide) rfl (fun ls hl => ?_)
                            refine lv_iinc (v := (nI (q8_174 + 1))) (lv' := [(8, .int (nI (q8_174 + 1))), (4, .int be_174), (9, .int r_193), (7, .int (-1)), (6, .int (nI q6_19)), (5, .int (-1)), (3, .int (nI (dn sn))), (0, .ref (a 0)), (1, .int (nI sn)), (2, .int p1)]) hx hb dX8_leastAll_153 hl (k := 2) rfl (nI_add q8_174 1) (by decide) rfl (fun ls hl => ?_)
                            refine lv_goto (tgt := 75) hx hb dX8_leastAll_156 (by decide) ?_
                            exact ih_174 _ (q8_174 + 1 + 1, be_174) _ _ _ (by omega) ⟨rfl, (by omega), hP, hS, (by rw [nI_pred]; exact lv_sub hl [0, 3, 4, 5, 1, 6, 7, 8, 9] rfl)⟩
                          · refine lv_iload hx hb dX8_leastAll_132 (lv_at hl 5 rfl) ?_
                            refine lv_if_lt (tgt := 144) hx hb dX8_leastAll_134 (by decide) (fun c_195 => ?_) (fun c_195 => ?_)
                            · refine lv_iload hx hb dX8_leastAll_144 (lv_at hl 0 rfl) ?_
                              refine lv_goto (tgt := 151) hx hb dX8_leastAll_146 (by decide) ?_
                              refine lv_istore (lv' := [(4, .int r_193), (9, .int r_193), (8, .int (nI q8_174)), (7, .int (-1)), (6, .int (nI q6_19)), (5, .int (-1)), (3, .int (nI (dn sn))), (0, .ref (a 0)), (1, .int (nI sn)), (2, .int p1)]) hx hb dX8_leastAll_151 hl (by decide) rfl (fun ls hl => ?_)
                              refine lv_iinc (v := (nI (q8_174 + 1))) (lv' := [(8, .int (nI (q8_174 + 1))), (4, .int r_193), (9, .int r_193), (7, .int (-1)), (6, .int (nI q6_19)), (5, .int (-1)), (3, .int (nI (dn sn))), (0, .ref (a 0)), (1, .int (nI sn)), (2, .int p1)]) hx hb dX8_leastAll_153 hl (k := 2) rfl (nI_add q8_174 1) (by decide) rfl (fun ls hl => ?_)
                              refine lv_goto (tgt := 75) hx hb dX8_leastAll_156 (by decide) ?_
                              exact ih_174 _ (q8_174 + 1 + 1, r_193) _ _ _ (by omega) ⟨rfl, (by omega), hP, hS, (by rw [nI_pred]; exact lv_sub hl [0, 3, 4, 5, 1, 6, 7, 8, 9] rfl)⟩
                            · refine lv_iload hx hb dX8_leastAll_137 (lv_at hl 0 rfl) ?_
                              refine lv_iload hx hb dX8_leastAll_139 (lv_at hl 5 rfl) ?_
                              refine lv_icmp_ge (tgt := 149) hx hb dX8_leastAll_141 (by decide) (fun c_196 => ?_) (fun c_196 => ?_)
                              · refine lv_iload hx hb dX8_leastAll_149 (lv_at hl 5 rfl) ?_
                                refine lv_istore (lv' := [(4, .int be_174), (9, .int r_193), (8, .int (nI q8_174)), (7, .int (-1)), (6, .int (nI q6_19)), (5, .int (-1)), (3, .int (nI (dn sn))), (0, .ref (a 0)), (1, .int (nI sn)), (2, .int p1)]) hx hb dX8_leastAll_151 hl (by decide) rfl (fun ls hl => ?_)
                                refine lv_iinc (v := (nI (q8_174 + 1))) (lv' := [(8, .int (nI (q8_174 + 1))), (4, .int be_174), (9, .int r_193), (7, .int (-1)), (6, .int (nI q6_19)), (5, .int (-1)), (3, .int (nI (dn sn))), (0, .ref (a 0)), (1, .int (nI sn)), (2, .int p1)]) hx hb dX8_leastAll_153 hl (k := 2) rfl (nI_add q8_174 1) (by decide) rfl (fun ls hl => ?_)
                                refine lv_goto (tgt := 75) hx hb dX8_leastAll_156 (by decide) ?_
                                exact ih_174 _ (q8_174 + 1 + 1, be_174) _ _ _ (by omega) ⟨rfl, (by omega), hP, hS, (by rw [nI_pred]; exact lv_sub hl [0, 3, 4, 5, 1, 6, 7, 8, 9] rfl)⟩
                              · refine lv_iload hx hb dX8_leastAll_144 (lv_at hl 0 rfl) ?_
                                refine lv_goto (tgt := 151) hx hb dX8_leastAll_146 (by decide) ?_
                                refine lv_istore (lv' := [(4, .int r_193), (9, .int r_193), (8, .int (nI q8_174)), (7, .int (-1)), (6, .int (nI q6_19)), (5, .int (-1)), (3, .int (nI (dn sn))), (0, .ref (a 0)), (1, .int (nI sn)), (2, .int p1)]) hx hb dX8_leastAll_151 hl (by decide) rfl (fun ls hl => ?_)
                                refine lv_iinc (v := (nI (q8_174 + 1))) (lv' := [(8, .int (nI (q8_174 + 1))), (4, .int r_193), (9, .int r_193), (7, .int (-1)), (6, .int (nI q6_19)), (5, .int (-1)), (3, .int (nI (dn sn))), (0, .ref (a 0)), (1, .int (nI sn)), (2, .int p1)]) hx hb dX8_leastAll_153 hl (k := 2) rfl (nI_add q8_174 1) (by decide) rfl (fun ls hl => ?_)
                                refine lv_goto (tgt := 75) hx hb dX8_leastAll_156 (by decide) ?_
                                exact ih_174 _ (q8_174 + 1 + 1, r_193) _ _ _ (by omega) ⟨rfl, (by omega), hP, hS, (by rw [nI_pred]; exact lv_sub hl [0, 3, 4, 5, 1, 6, 7, 8, 9] rfl)⟩
                · have c_173 : ¬ (ca ≤ 2) := fun h => c_173 ((nI_leI (a := ca) (b := 2) (by omega) (by omega)).mpr h)
                  refine lv_iload_n hx hb dX8_leastAll_64 rfl (lv_at hl 4 rfl) ?_
                  refine lv_goto (tgt := 69) hx hb dX8_leastAll_65 (by decide) ?_
                  refine lv_icmp_ge (tgt := 165) hx hb dX8_leastAll_69 (by decide) (fun c_197 => ?_) (fun c_197 => ?_)
                  · refine lv_iinc (v := (nI (q6_19 + 1))) (lv' := [(6, .int (nI (q6_19 + 1))), (7, .int (-1)), (5, .int (-1)), (4, .int be_172), (3, .int (nI (dn sn))), (0, .ref (a 0)), (1, .int (nI sn)), (2, .int p1)]) hx hb dX8_leastAll_165 hl (k := 1) rfl (nI_add q6_19 1) (by decide) rfl (fun ls hl => ?_)
                    refine lv_goto (tgt := 33) hx hb dX8_leastAll_168 (by decide) ?_
                    exact ih_19 _ (q6_19 + 1 + 1, be_172) _ _ _ (by omega) ⟨rfl, (by omega), hP, hS, (by rw [nI_pred]; exact lv_sub hl [0, 2, 3, 4, 5, 6, 7] rfl)⟩
                  · refine lv_iconst (v := (-1)) hx hb dX8_leastAll_72 (by decide) ?_
                    refine lv_istore (lv' := [(8, .int (-1)), (7, .int (-1)), (6, .int (nI q6_19)), (5, .int (-1)), (4, .int be_172), (3, .int (nI (dn sn))), (0, .ref (a 0)), (1, .int (nI sn)), (2, .int p1)]) hx hb dX8_leastAll_73 hl (by decide) rfl (fun ls hl => ?_)
                    refine W_loop (σ := Nat × Int32) (fun (n_ : Nat) (x_ : Nat × Int32) (H : Heap) (locs : List Loc) (ls : Array Slot) => match x_ with | (q8_198, be_198) => n_ = 26 - q8_198 ∧ (q8_198 ≤ 25) ∧ va_P D classes [((a 0), .inr (8, (fX8 a (nI tx) fp (nI t0) wd (nI we) nu na (nI rd) ts (nI ru) (nI rw) (nI ca) df db sd))), (aI k (a 1) 3 (nF dn)), (aI k (a 4) 27 (sg se tm gs)), (aI k (a 3) 72 fprices), (aI k (a 36) 4 fwalks)] H ∧ va_S (fun q : Nat => s.heap.size ≤ q) s.heap H locs ∧ lv_has ls 10 [(8, .int (nI q8_198 - 1)), (7, .int (-1)), (6, .int (nI q6_19)), (5, .int (-1)), (4, .int be_198), (3, .int (nI (dn sn))), (0, .ref (a 0)), (1, .int (nI sn)), (2, .int p1)]) (fun n_198 x_198 H locs ls hI ih_198 => ?_) _ (0, be_172) ⟨rfl, (by omega), hP, hS, (by rw [dn0]; exact lv_sub hl [0, 1, 2, 3, 4, 5, 6, 7, 8] rfl)⟩
                    obtain ⟨q8_198, be_198⟩ := x_198
                    obtain ⟨hm_198, hv_198, hP, hS, hl⟩ := hI
                    subst hm_198
                    rcases q8_198 with _ | q8_198
                    · rw [dn0] at hl
                      refine lv_iload hx hb dX8_leastAll_75 (lv_at hl 0 rfl) ?_
                      refine lv_aload_n hx hb dX8_leastAll_77 rfl (lv_at hl 6 rfl) ?_
                      refine va_get (D := D) (ci := 8) (v := .int (nI ca)) (C := RX8) (T := TX8) (N := 44) hx hb hts inX8 hown hK hP 0 rfl rfl 34 (by decide) (hts _ tw_1007) (fun _ h9 => h9) rfl dX8_leastAll_78 ?_
                      refine lv_iconst (v := 3) hx hb dX8_leastAll_81 (by decide) ?_
                      refine lv_icmp_le (tgt := 89) hx hb dX8_leastAll_82 (by decide) (fun c_199 => ?_) (fun c_199 => ?_)
                      · have c_199 := (nI_leI (a := ca) (b := 3) (by omega) (by omega)).mp c_199
                        refine lv_iconst (v := 0) hx hb dX8_leastAll_89 (by decide) ?_
                        refine lv_icmp_ge (tgt := 159) hx hb dX8_leastAll_90 (by decide) (fun h => absurd h (by decide)) (fun _ => ?_)
                        refine lv_iload_n hx hb dX8_leastAll_93 rfl (lv_at hl 8 rfl) ?_
                        refine lv_iload hx hb dX8_leastAll_94 (lv_at hl 3 rfl) ?_
                        refine lv_iload hx hb dX8_leastAll_96 (lv_at hl 2 rfl) ?_
                        refine lv_iload hx hb dX8_leastAll_98 (lv_at hl 1 rfl) ?_
                        refine lv_iload hx hb dX8_leastAll_100 (lv_at hl 0 rfl) ?_
                        refine ro_i (D := D) (va_runS (As := [.int p1, .int (-1), .int (nI q6_19), .int (-1), .int (-1)]) (rest := []) ⟨hx, hb, hml, hown, hts⟩ ((m_canAll l D k st lo p1 (-1) (nI q6_19) (-1) (-1)) H.size) (va_cwS 5 hts (gS tw_1450 tw_1451 tw_87 tw_1452) rfl rfl rfl (by decide +kernel) ⟨Nat.le_of_ble_eq_true rfl, Nat.le_of_ble_eq_true rfl⟩) (pS hS hAlo hlo hP hK hDL hZ [] (by decide) rfl) rfl rfl hl.1 rfl (lv_room (Nat.le_of_ble_eq_true rfl)) dX8_leastAll_102 ⟨Nat.le_of_ble_eq_true rfl, Nat.le_of_ble_eq_true rfl⟩) hS hA hP (fun r_200 H locs hw_200 hP hS => ?_)
                        try dsimp only at hw_200
                        refine lv_if_eq (tgt := 124) hx hb dX8_leastAll_105 (by decide) (fun c_201 => ?_) (fun c_201 => ?_)
                        · refine lv_iconst (v := (-1)) hx hb dX8_leastAll_124 (by decide) ?_
                          refine lv_istore (lv' := [(9, .int (-1)), (8, .int (-1)), (7, .int (-1)), (6, .int (nI q6_19)), (5, .int (-1)), (4, .int be_198), (3, .int (nI (dn sn))), (0, .ref (a 0)), (1, .int (nI sn)), (2, .int p1)]) hx hb dX8_leastAll_125 hl (by decide) rfl (fun ls hl => ?_)
                          refine lv_iload hx hb dX8_leastAll_127 (lv_at hl 0 rfl) ?_
                          refine lv_if_lt (tgt := 149) hx hb dX8_leastAll_129 (by decide) (fun _ => ?_) (fun h => absurd (by decide) h)
                          refine lv_iload hx hb dX8_leastAll_149 (lv_at hl 5 rfl) ?_
                          refine lv_istore (lv' := [(4, .int be_198), (9, .int (-1)), (8, .int (-1)), (7, .int (-1)), (6, .int (nI q6_19)), (5, .int (-1)), (3, .int (nI (dn sn))), (0, .ref (a 0)), (1, .int (nI sn)), (2, .int p1)]) hx hb dX8_leastAll_151 hl (by decide) rfl (fun ls hl => ?_)
                          refine lv_iinc (v := 0) (lv' := [(8, .int 0), (4, .int be_198), (9, .int (-1)), (7, .int (-1)), (6, .int (nI q6_19)), (5, .int (-1)), (3, .int (nI (dn sn))), (0, .ref (a 0)), (1, .int (nI sn)), (2, .int p1)]) hx hb dX8_leastAll_153 hl (k := 2) rfl (by decide) (by decide) rfl (fun ls hl => ?_)
                          refine lv_goto (tgt := 75) hx hb dX8_leastAll_156 (by decide) ?_
                          exact ih_198 _ (1, be_198) _ _ _ (by omega) ⟨rfl, (by omega), hP, hS, (by rw [nI_pred]; exact lv_sub hl [0, 3, 4, 5, 1, 6, 7, 8, 9] rfl)⟩
                        · refine lv_aload_n hx hb dX8_leastAll_108 rfl (lv_at hl 6 rfl) ?_
                          refine lv_iload_n hx hb dX8_leastAll_109 rfl (lv_at hl 7 rfl) ?_
                          refine lv_iload hx hb dX8_leastAll_110 (lv_at hl 3 rfl) ?_
                          refine lv_iload hx hb dX8_leastAll_112 (lv_at hl 2 rfl) ?_
                          refine lv_iload hx hb dX8_leastAll_114 (lv_at hl 1 rfl) ?_
                          refine lv_iload hx hb dX8_leastAll_116 (lv_at hl 0 rfl) ?_
                          refine ro_i (D := D) (va_runV (As := [.int (nI sn), .int (-1), .int (nI q6_19), .int (-1), .int (-1)]) (rest := []) ⟨hx, hb, hml, hown, hts⟩ ((m_sumAll l D k st lo a tx t0 we rd ru rw ca fp wd nu na ts df db sd dn se tm gs fprices fwalks sn (-1) (nI q6_19) (-1) (-1) (by omega) (by omega) (.inl (by decide)) (.inr ⟨q6_19, by omega, rfl⟩) (.inl (by decide)) (.inl (by decide))) H.size) (cwV 5 hts (gV tw_1459 tw_1461 tw_75 tw_87 tw_1462) rfl rfl rfl (by decide +kernel) ⟨Nat.le_of_ble_eq_true rfl, Nat.le_of_ble_eq_true rfl⟩) (pV hS hAlo hlo hP hK hDL hZ [0, 1, 2, 3, 4] (by decide) rfl (ci := 8) (q := (RX8, TX8, 44)) (q0 := 0) rfl rfl) rfl rfl hl.1 rfl (lv_room (Nat.le_of_ble_eq_true rfl)) dX8_leastAll_118 ⟨Nat.le_of_ble_eq_true rfl, Nat.le_of_ble_eq_true rfl⟩) hS hA hP (fun r_202 H locs hw_202 hP hS => ?_)
                          try dsimp only at hw_202
                          refine lv_goto (tgt := 125) hx hb dX8_leastAll_121 (by decide) ?_
                          refine lv_istore (lv' := [(9, .int r_202), (8, .int (-1)), (7, .int (-1)), (6, .int (nI q6_19)), (5, .int (-1)), (4, .int be_198), (3, .int (nI (dn sn))), (0, .ref (a 0)), (1, .int (nI sn)), (2, .int p1)]) hx hb dX8_leastAll_125 hl (by decide) rfl (fun ls hl => ?_)
                          refine lv_iload hx hb dX8_leastAll_127 (lv_at hl 0 rfl) ?_
                          refine lv_if_lt (tgt := 149) hx hb dX8_leastAll_129 (by decide) (fun c_203 => ?_) (fun c_203 => ?_)
                          · refine lv_iload hx hb dX8_leastAll_149 (lv_at hl 5 rfl) ?_
                            refine lv_istore (lv' := [(4, .int be_198), (9, .int r_202), (8, .int (-1)), (7, .int (-1)), (6, .int (nI q6_19)), (5, .int (-1)), (3, .int (nI (dn sn))), (0, .ref (a 0)), (1, .int (nI sn)), (2, .int p1)]) hx hb dX8_leastAll_151 hl (by decide) rfl (fun ls hl => ?_)
                            refine lv_iinc (v := 0) (lv' := [(8, .int 0), (4, .int be_198), (9, .int r_202), (7, .int (-1)), (6, .int (nI q6_19)), (5, .int (-1)), (3, .int (nI (dn sn))), (0, .ref (a 0)), (1, .int (nI sn)), (2, .int p1)]) hx hb dX8_leastAll_153 hl (k := 2) rfl (by decide) (by decide) rfl (fun ls hl => ?_)
                            refine lv_goto (tgt := 75) hx hb dX8_leastAll_156 (by decide) ?_
                            exact ih_198 _ (1, be_198) _ _ _ (by omega) ⟨rfl, (by omega), hP, hS, (by rw [nI_pred]; exact lv_sub hl [0, 3, 4, 5, 1, 6, 7, 8, 9] rfl)⟩
                          · refine lv_iload hx hb dX8_leastAll_132 (lv_at hl 5 rfl) ?_
                            refine lv_if_lt (tgt := 144) hx hb dX8_leastAll_134 (by decide) (fun c_204 => ?_) (fun c_204 => ?_)
                            · refine lv_iload hx hb dX8_leastAll_144 (lv_at hl 0 rfl) ?_
                              refine lv_goto (tgt := 151) hx hb dX8_leastAll_146 (by decide) ?_
                              refine lv_istore (lv' := [(4, .int r_202), (9, .int r_202), (8, .int (-1)), (7, .int (-1)), (6, .int (nI q6_19)), (5, .int (-1)), (3, .int (nI (dn sn))), (0, .ref (a 0)), (1, .int (nI sn)), (2, .int p1)]) hx hb dX8_leastAll_151 hl (by decide) rfl (fun ls hl => ?_)
                              refine lv_iinc (v := 0) (lv' := [(8, .int 0), (4, .int r_202), (9, .int r_202), (7, .int (-1)), (6, .int (nI q6_19)), (5, .int (-1)), (3, .int (nI (dn sn))), (0, .ref (a 0)), (1, .int (nI sn)), (2, .int p1)]) hx hb dX8_leastAll_153 hl (k := 2) rfl (by decide) (by decide) rfl (fun ls hl => ?_)
                              refine lv_goto (tgt := 75) hx hb dX8_leastAll_156 (by decide) ?_
                              exact ih_198 _ (1, r_202) _ _ _ (by omega) ⟨rfl, (by omega), hP, hS, (by rw [nI_pred]; exact lv_sub hl [0, 3, 4, 5, 1, 6, 7, 8, 9] rfl)⟩
                            · refine lv_iload hx hb dX8_leastAll_137 (lv_at hl 0 rfl) ?_
                              refine lv_iload hx hb dX8_leastAll_139 (lv_at hl 5 rfl) ?_
                              refine lv_icmp_ge (tgt := 149) hx hb dX8_leastAll_141 (by decide) (fun c_205 => ?_) (fun c_205 => ?_)
                              · refine lv_iload hx hb dX8_leastAll_149 (lv_at hl 5 rfl) ?_
                                refine lv_istore (lv' := [(4, .int be_198), (9, .int r_202), (8, .int (-1)), (7, .int (-1)), (6, .int (nI q6_19)), (5, .int (-1)), (3, .int (nI (dn sn))), (0, .ref (a 0)), (1, .int (nI sn)), (2, .int p1)]) hx hb dX8_leastAll_151 hl (by decide) rfl (fun ls hl => ?_)
                                refine lv_iinc (v := 0) (lv' := [(8, .int 0), (4, .int be_198), (9, .int r_202), (7, .int (-1)), (6, .int (nI q6_19)), (5, .int (-1)), (3, .int (nI (dn sn))), (0, .ref (a 0)), (1, .int (nI sn)), (2, .int p1)]) hx hb dX8_leastAll_153 hl (k := 2) rfl (by decide) (by decide) rfl (fun ls hl => ?_)
                                refine lv_goto (tgt := 75) hx hb dX8_leastAll_156 (by decide) ?_
                                exact ih_198 _ (1, be_198) _ _ _ (by omega) ⟨rfl, (by omega), hP, hS, (by rw [nI_pred]; exact lv_sub hl [0, 3, 4, 5, 1, 6, 7, 8, 9] rfl)⟩
                              · refine lv_iload hx hb dX8_leastAll_144 (lv_at hl 0 rfl) ?_
                                refine lv_goto (tgt := 151) hx hb dX8_leastAll_146 (by decide) ?_
                                refine lv_istore (lv' := [(4, .int r_202), (9, .int r_202), (8, .int (-1)), (7, .int (-1)), (6, .int (nI q6_19)), (5, .int (-1)), (3, .int (nI (dn sn))), (0, .ref (a 0)), (1, .int (nI sn)), (2, .int p1)]) hx hb dX8_leastAll_151 hl (by decide) rfl (fun ls hl => ?_)
                                refine lv_iinc (v := 0) (lv' := [(8, .int 0), (4, .int r_202), (9, .int r_202), (7, .int (-1)), (6, .int (nI q6_19)), (5, .int (-1)), (3, .int (nI (dn sn))), (0, .ref (a 0)), (1, .int (nI sn)), (2, .int p1)]) hx hb dX8_leastAll_153 hl (k := 2) rfl (by decide) (by decide) rfl (fun ls hl => ?_)
                                refine lv_goto (tgt := 75) hx hb dX8_leastAll_156 (by decide) ?_
                                exact ih_198 _ (1, r_202) _ _ _ (by omega) ⟨rfl, (by omega), hP, hS, (by rw [nI_pred]; exact lv_sub hl [0, 3, 4, 5, 1, 6, 7, 8, 9] rfl)⟩
                      · have c_199 : ¬ (ca ≤ 3) := fun h => c_199 ((nI_leI (a := ca) (b := 3) (by omega) (by omega)).mpr h)
                        refine lv_iload_n hx hb dX8_leastAll_85 rfl (lv_at hl 5 rfl) ?_
                        refine lv_goto (tgt := 90) hx hb dX8_leastAll_86 (by decide) ?_
                        refine lv_icmp_ge (tgt := 159) hx hb dX8_leastAll_90 (by decide) (fun c_206 => ?_) (fun c_206 => ?_)
                        · refine lv_iinc (v := 0) (lv' := [(7, .int 0), (8, .int (-1)), (6, .int (nI q6_19)), (5, .int (-1)), (4, .int be_198), (3, .int (nI (dn sn))), (0, .ref (a 0)), (1, .int (nI sn)), (2, .int p1)]) hx hb dX8_leastAll_159 hl (k := 1) rfl (by decide) (by decide) rfl (fun ls hl => ?_)
                          refine lv_goto (tgt := 54) hx hb dX8_leastAll_162 (by decide) ?_
                          exact ih_172 _ (1, be_198) _ _ _ (by omega) ⟨rfl, (by omega), hP, hS, (by rw [nI_pred]; exact lv_sub hl [0, 2, 3, 4, 5, 6, 7, 8] rfl)⟩
                        · refine lv_iload_n hx hb dX8_leastAll_93 rfl (lv_at hl 8 rfl) ?_
                          refine lv_iload hx hb dX8_leastAll_94 (lv_at hl 3 rfl) ?_
                          refine lv_iload hx hb dX8_leastAll_96 (lv_at hl 2 rfl) ?_
                          refine lv_iload hx hb dX8_leastAll_98 (lv_at hl 1 rfl) ?_
                          refine lv_iload hx hb dX8_leastAll_100 (lv_at hl 0 rfl) ?_
                          refine ro_i (D := D) (va_runS (As := [.int p1, .int (-1), .int (nI q6_19), .int (-1), .int (-1)]) (rest := []) ⟨hx, hb, hml, hown, hts⟩ ((m_canAll l D k st lo p1 (-1) (nI q6_19) (-1) (-1)) H.size) (va_cwS 5 hts (gS tw_1450 tw_1451 tw_87 tw_1452) rfl rfl rfl (by decide +kernel) ⟨Nat.le_of_ble_eq_true rfl, Nat.le_of_ble_eq_true rfl⟩) (pS hS hAlo hlo hP hK hDL hZ [] (by decide) rfl) rfl rfl hl.1 rfl (lv_room (Nat.le_of_ble_eq_true rfl)) dX8_leastAll_102 ⟨Nat.le_of_ble_eq_true rfl, Nat.le_of_ble_eq_true rfl⟩) hS hA hP (fun r_207 H locs hw_207 hP hS => ?_)
                          try dsimp only at hw_207
                          refine lv_if_eq (tgt := 124) hx hb dX8_leastAll_105 (by decide) (fun c_208 => ?_) (fun c_208 => ?_)
                          · refine lv_iconst (v := (-1)) hx hb dX8_leastAll_124 (by decide) ?_
                            refine lv_istore (lv' := [(9, .int (-1)), (8, .int (-1)), (7, .int (-1)), (6, .int (nI q6_19)), (5, .int (-1)), (4, .int be_198), (3, .int (nI (dn sn))), (0, .ref (a 0)), (1, .int (nI sn)), (2, .int p1)]) hx hb dX8_leastAll_125 hl (by decide) rfl (fun ls hl => ?_)
                            refine lv_iload hx hb dX8_leastAll_127 (lv_at hl 0 rfl) ?_
                            refine lv_if_lt (tgt := 149) hx hb dX8_leastAll_129 (by decide) (fun _ => ?_) (fun h => absurd (by decide) h)
                            refine lv_iload hx hb dX8_leastAll_149 (lv_at hl 5 rfl) ?_
                            refine lv_istore (lv' := [(4, .int be_198), (9, .int (-1)), (8, .int (-1)), (7, .int (-1)), (6, .int (nI q6_19)), (5, .int (-1)), (3, .int (nI (dn sn))), (0, .ref (a 0)), (1, .int (nI sn)), (2, .int p1)]) hx hb dX8_leastAll_151 hl (by decide) rfl (fun ls hl => ?_)
                            refine lv_iinc (v := 0) (lv' := [(8, .int 0), (4, .int be_198), (9, .int (-1)), (7, .int (-1)), (6, .int (nI q6_19)), (5, .int (-1)), (3, .int (nI (dn sn))), (0, .ref (a 0)), (1, .int (nI sn)), (2, .int p1)]) hx hb dX8_leastAll_153 hl (k := 2) rfl (by decide) (by decide) rfl (fun ls hl => ?_)
                            refine lv_goto (tgt := 75) hx hb dX8_leastAll_156 (by decide) ?_
                            exact ih_198 _ (1, be_198) _ _ _ (by omega) ⟨rfl, (by omega), hP, hS, (by rw [nI_pred]; exact lv_sub hl [0, 3, 4, 5, 1, 6, 7, 8, 9] rfl)⟩
                          · refine lv_aload_n hx hb dX8_leastAll_108 rfl (lv_at hl 6 rfl) ?_
                            refine lv_iload_n hx hb dX8_leastAll_109 rfl (lv_at hl 7 rfl) ?_
                            refine lv_iload hx hb dX8_leastAll_110 (lv_at hl 3 rfl) ?_
                            refine lv_iload hx hb dX8_leastAll_112 (lv_at hl 2 rfl) ?_
                            refine lv_iload hx hb dX8_leastAll_114 (lv_at hl 1 rfl) ?_
                            refine lv_iload hx hb dX8_leastAll_116 (lv_at hl 0 rfl) ?_
                            refine ro_i (D := D) (va_runV (As := [.int (nI sn), .int (-1), .int (nI q6_19), .int (-1), .int (-1)]) (rest := []) ⟨hx, hb, hml, hown, hts⟩ ((m_sumAll l D k st lo a tx t0 we rd ru rw ca fp wd nu na ts df db sd dn se tm gs fprices fwalks sn (-1) (nI q6_19) (-1) (-1) (by omega) (by omega) (.inl (by decide)) (.inr ⟨q6_19, by omega, rfl⟩) (.inl (by decide)) (.inl (by decide))) H.size) (cwV 5 hts (gV tw_1459 tw_1461 tw_75 tw_87 tw_1462) rfl rfl rfl (by decide +kernel) ⟨Nat.le_of_ble_eq_true rfl, Nat.le_of_ble_eq_true rfl⟩) (pV hS hAlo hlo hP hK hDL hZ [0, 1, 2, 3, 4] (by decide) rfl (ci := 8) (q := (RX8, TX8, 44)) (q0 := 0) rfl rfl) rfl rfl hl.1 rfl (lv_room (Nat.le_of_ble_eq_true rfl)) dX8_leastAll_118 ⟨Nat.le_of_ble_eq_true rfl, Nat.le_of_ble_eq_true rfl⟩) hS hA hP (fun r_209 H locs hw_209 hP hS => ?_)
                            try dsimp only at hw_209
                            refine lv_goto (tgt := 125) hx hb dX8_leastAll_121 (by decide) ?_
                            refine lv_istore (lv' := [(9, .int r_209), (8, .int (-1)), (7, .int (-1)), (6, .int (nI q6_19)), (5, .int (-1)), (4, .int be_198), (3, .int (nI (dn sn))), (0, .ref (a 0)), (1, .int (nI sn)), (2, .int p1)]) hx hb dX8_leastAll_125 hl (by decide) rfl (fun ls hl => ?_)
                            refine lv_iload hx hb dX8_leastAll_127 (lv_at hl 0 rfl) ?_
                            refine lv_if_lt (tgt := 149) hx hb dX8_leastAll_129 (by decide) (fun c_210 => ?_) (fun c_210 => ?_)
                            · refine lv_iload hx hb dX8_leastAll_149 (lv_at hl 5 rfl) ?_
                              refine lv_istore (lv' := [(4, .int be_198), (9, .int r_209), (8, .int (-1)), (7, .int (-1)), (6, .int (nI q6_19)), (5, .int (-1)), (3, .int (nI (dn sn))), (0, .ref (a 0)), (1, .int (nI sn)), (2, .int p1)]) hx hb dX8_leastAll_151 hl (by decide) rfl (fun ls hl => ?_)
                              refine lv_iinc (v := 0) (lv' := [(8, .int 0), (4, .int be_198), (9, .int r_209), (7, .int (-1)), (6, .int (nI q6_19)), (5, .int (-1)), (3, .int (nI (dn sn))), (0, .ref (a 0)), (1, .int (nI sn)), (2, .int p1)]) hx hb dX8_leastAll_153 hl (k := 2) rfl (by decide) (by decide) rfl (fun ls hl => ?_)
                              refine lv_goto (tgt := 75) hx hb dX8_leastAll_156 (by decide) ?_
                              exact ih_198 _ (1, be_198) _ _ _ (by omega) ⟨rfl, (by omega), hP, hS, (by rw [nI_pred]; exact lv_sub hl [0, 3, 4, 5, 1, 6, 7, 8, 9] rfl)⟩
                            · refine lv_iload hx hb dX8_leastAll_132 (lv_at hl 5 rfl) ?_
                              refine lv_if_lt (tgt := 144) hx hb dX8_leastAll_134 (by decide) (fun c_211 => ?_) (fun c_211 => ?_)
                              · refine lv_iload hx hb dX8_leastAll_144 (lv_at hl 0 rfl) ?_
                                refine lv_goto (tgt := 151) hx hb dX8_leastAll_146 (by decide) ?_
                                refine lv_istore (lv' := [(4, .int r_209), (9, .int r_209), (8, .int (-1)), (7, .int (-1)), (6, .int (nI q6_19)), (5, .int (-1)), (3, .int (nI (dn sn))), (0, .ref (a 0)), (1, .int (nI sn)), (2, .int p1)]) hx hb dX8_leastAll_151 hl (by decide) rfl (fun ls hl => ?_)
                                refine lv_iinc (v := 0) (lv' := [(8, .int 0), (4, .int r_209), (9, .int r_209), (7, .int (-1)), (6, .int (nI q6_19)), (5, .int (-1)), (3, .int (nI (dn sn))), (0, .ref (a 0)), (1, .int (nI sn)), (2, .int p1)]) hx hb dX8_leastAll_153 hl (k := 2) rfl (by decide) (by decide) rfl (fun ls hl => ?_)
                                refine lv_goto (tgt := 75) hx hb dX8_leastAll_156 (by decide) ?_
                                exact ih_198 _ (1, r_209) _ _ _ (by omega) ⟨rfl, (by omega), hP, hS, (by rw [nI_pred]; exact lv_sub hl [0, 3, 4, 5, 1, 6, 7, 8, 9] rfl)⟩
                              · refine lv_iload hx hb dX8_leastAll_137 (lv_at hl 0 rfl) ?_
                                refine lv_iload hx hb dX8_leastAll_139 (lv_at hl 5 rfl) ?_
                                refine lv_icmp_ge (tgt := 149) hx hb dX8_leastAll_141 (by decide) (fun c_212 => ?_) (fun c_212 => ?_)
                                · refine lv_iload hx hb dX8_leastAll_149 (lv_at hl 5 rfl) ?_
                                  refine lv_istore (lv' := [(4, .int be_198), (9, .int r_209), (8, .int (-1)), (7, .int (-1)), (6, .int (nI q6_19)), (5, .int (-1)), (3, .int (nI (dn sn))), (0, .ref (a 0)), (1, .int (nI sn)), (2, .int p1)]) hx hb dX8_leastAll_151 hl (by decide) rfl (fun ls hl => ?_)
                                  refine lv_iinc (v := 0) (lv' := [(8, .int 0), (4, .int be_198), (9, .int r_209), (7, .int (-1)), (6, .int (nI q6_19)), (5, .int (-1)), (3, .int (nI (dn sn))), (0, .ref (a 0)), (1, .int (nI sn)), (2, .int p1)]) hx hb dX8_leastAll_153 hl (k := 2) rfl (by decide) (by decide) rfl (fun ls hl => ?_)
                                  refine lv_goto (tgt := 75) hx hb dX8_leastAll_156 (by decide) ?_
                                  exact ih_198 _ (1, be_198) _ _ _ (by omega) ⟨rfl, (by omega), hP, hS, (by rw [nI_pred]; exact lv_sub hl [0, 3, 4, 5, 1, 6, 7, 8, 9] rfl)⟩
                                · refine lv_iload hx hb dX8_leastAll_144 (lv_at hl 0 rfl) ?_
                                  refine lv_goto (tgt := 151) hx hb dX8_leastAll_146 (by decide) ?_
                                  refine lv_istore (lv' := [(4, .int r_209), (9, .int r_209), (8, .int (-1)), (7, .int (-1)), (6, .int (nI q6_19)), (5, .int (-1)), (3, .int (nI (dn sn))), (0, .ref (a 0)), (1, .int (nI sn)), (2, .int p1)]) hx hb dX8_leastAll_151 hl (by decide) rfl (fun ls hl => ?_)
                                  refine lv_iinc (v := 0) (lv' := [(8, .int 0), (4, .int r_209), (9, .int r_209), (7, .int (-1)), (6, .int (nI q6_19)), (5, .int (-1)), (3, .int (nI (dn sn))), (0, .ref (a 0)), (1, .int (nI sn)), (2, .int p1)]) hx hb dX8_leastAll_153 hl (k := 2) rfl (by decide) (by decide) rfl (fun ls hl => ?_)
                                  refine lv_goto (tgt := 75) hx hb dX8_leastAll_156 (by decide) ?_
                                  exact ih_198 _ (1, r_209) _ _ _ (by omega) ⟨rfl, (by omega), hP, hS, (by rw [nI_pred]; exact lv_sub hl [0, 3, 4, 5, 1, 6, 7, 8, 9] rfl)⟩
                    · rw [nI_pred] at hl
                      refine lv_iload hx hb dX8_leastAll_75 (lv_at hl 0 rfl) ?_
                      refine lv_aload_n hx hb dX8_leastAll_77 rfl (lv_at hl 6 rfl) ?_
                      refine va_get (D := D) (ci := 8) (v := .int (nI ca)) (C := RX8) (T := TX8) (N := 44) hx hb hts inX8 hown hK hP 0 rfl rfl 34 (by decide) (hts _ tw_1007) (fun _ h9 => h9) rfl dX8_leastAll_78 ?_
                      refine lv_iconst (v := 3) hx hb dX8_leastAll_81 (by decide) ?_
                      refine lv_icmp_le (tgt := 89) hx hb dX8_leastAll_82 (by decide) (fun c_213 => ?_) (fun c_213 => ?_)
                      · have c_213 := (nI_leI (a := ca) (b := 3) (by omega) (by omega)).mp c_213
                        refine lv_iconst (v := 0) hx hb dX8_leastAll_89 (by decide) ?_
                        refine lv_icmp_ge (tgt := 159) hx hb dX8_leastAll_90 (by decide) (fun _ => ?_) (fun h => absurd (nI_ge0 (by omega)) h)
                        refine lv_iinc (v := 0) (lv' := [(7, .int 0), (8, .int (nI q8_198)), (6, .int (nI q6_19)), (5, .int (-1)), (4, .int be_198), (3, .int (nI (dn sn))), (0, .ref (a 0)), (1, .int (nI sn)), (2, .int p1)]) hx hb dX8_leastAll_159 hl (k := 1) rfl (by decide) (by decide) rfl (fun ls hl => ?_)
                        refine lv_goto (tgt := 54) hx hb dX8_leastAll_162 (by decide) ?_
                        exact ih_172 _ (1, be_198) _ _ _ (by omega) ⟨rfl, (by omega), hP, hS, (by rw [nI_pred]; exact lv_sub hl [0, 2, 3, 4, 5, 6, 7, 8] rfl)⟩
                      · have c_213 : ¬ (ca ≤ 3) := fun h => c_213 ((nI_leI (a := ca) (b := 3) (by omega) (by omega)).mpr h)
                        refine lv_iload_n hx hb dX8_leastAll_85 rfl (lv_at hl 5 rfl) ?_
                        refine lv_goto (tgt := 90) hx hb dX8_leastAll_86 (by decide) ?_
                        refine lv_icmp_ge (tgt := 159) hx hb dX8_leastAll_90 (by decide) (fun c_214 => ?_) (fun c_214 => ?_)
                        · have c_214 := (nI_leI (a := (dn sn)) (b := q8_198) (by omega) (by omega)).mp c_214
                          refine lv_iinc (v := 0) (lv' := [(7, .int 0), (8, .int (nI q8_198)), (6, .int (nI q6_19)), (5, .int (-1)), (4, .int be_198), (3, .int (nI (dn sn))), (0, .ref (a 0)), (1, .int (nI sn)), (2, .int p1)]) hx hb dX8_leastAll_159 hl (k := 1) rfl (by decide) (by decide) rfl (fun ls hl => ?_)
                          refine lv_goto (tgt := 54) hx hb dX8_leastAll_162 (by decide) ?_
                          exact ih_172 _ (1, be_198) _ _ _ (by omega) ⟨rfl, (by omega), hP, hS, (by rw [nI_pred]; exact lv_sub hl [0, 2, 3, 4, 5, 6, 7, 8] rfl)⟩
                        · have c_214 : ¬ ((dn sn) ≤ q8_198) := fun h => c_214 ((nI_leI (a := (dn sn)) (b := q8_198) (by omega) (by omega)).mpr h)
                          refine lv_iload_n hx hb dX8_leastAll_93 rfl (lv_at hl 8 rfl) ?_
                          refine lv_iload hx hb dX8_leastAll_94 (lv_at hl 3 rfl) ?_
                          refine lv_iload hx hb dX8_leastAll_96 (lv_at hl 2 rfl) ?_
                          refine lv_iload hx hb dX8_leastAll_98 (lv_at hl 1 rfl) ?_
                          refine lv_iload hx hb dX8_leastAll_100 (lv_at hl 0 rfl) ?_
                          refine ro_i (D := D) (va_runS (As := [.int p1, .int (-1), .int (nI q6_19), .int (-1), .int (nI q8_198)]) (rest := []) ⟨hx, hb, hml, hown, hts⟩ ((m_canAll l D k st lo p1 (-1) (nI q6_19) (-1) (nI q8_198)) H.size) (va_cwS 5 hts (gS tw_1450 tw_1451 tw_87 tw_1452) rfl rfl rfl (by decide +kernel) ⟨Nat.le_of_ble_eq_true rfl, Nat.le_of_ble_eq_true rfl⟩) (pS hS hAlo hlo hP hK hDL hZ [] (by decide) rfl) rfl rfl hl.1 rfl (lv_room (Nat.le_of_ble_eq_true rfl)) dX8_leastAll_102 ⟨Nat.le_of_ble_eq_true rfl, Nat.le_of_ble_eq_true rfl⟩) hS hA hP (fun r_215 H locs hw_215 hP hS => ?_)
                          try dsimp only at hw_215
                          refine lv_if_eq (tgt := 124) hx hb dX8_leastAll_105 (by decide) (fun c_216 => ?_) (fun c_216 => ?_)
                          · refine lv_iconst (v := (-1)) hx hb dX8_leastAll_124 (by decide) ?_
                            refine lv_istore (lv' := [(9, .int (-1)), (8, .int (nI q8_198)), (7, .int (-1)), (6, .int (nI q6_19)), (5, .int (-1)), (4, .int be_198), (3, .int (nI (dn sn))), (0, .ref (a 0)), (1, .int (nI sn)), (2, .int p1)]) hx hb dX8_leastAll_125 hl (by decide) rfl (fun ls hl => ?_)
                            refine lv_iload hx hb dX8_leastAll_127 (lv_at hl 0 rfl) ?_
                            refine lv_if_lt (tgt := 149) hx hb dX8_leastAll_129 (by decide) (fun _ => ?_) (fun h => absurd (by decide) h)
                            refine lv_iload hx hb dX8_leastAll_149 (lv_at hl 5 rfl) ?_
                            refine lv_istore (lv' := [(4, .int be_198), (9, .int (-1)), (8, .int (nI q8_198)), (7, .int (-1)), (6, .int (nI q6_19)), (5, .int (-1)), (3, .int (nI (dn sn))), (0, .ref (a 0)), (1, .int (nI sn)), (2, .int p1)]) hx hb dX8_leastAll_151 hl (by decide) rfl (fun ls hl => ?_)
                            refine lv_iinc (v := (nI (q8_198 + 1))) (lv' := [(8, .int (nI (q8_198 + 1))), (4, .int be_198), (9, .int (-1)), (7, .int (-1)), (6, .int (nI q6_19)), (5, .int (-1)), (3, .int (nI (dn sn))), (0, .ref (a 0)), (1, .int (nI sn)), (2, .int p1)]) hx hb dX8_leastAll_153 hl (k := 2) rfl (nI_add q8_198 1) (by decide) rfl (fun ls hl => ?_)
                            refine lv_goto (tgt := 75) hx hb dX8_leastAll_156 (by decide) ?_
                            exact ih_198 _ (q8_198 + 1 + 1, be_198) _ _ _ (by omega) ⟨rfl, (by omega), hP, hS, (by rw [nI_pred]; exact lv_sub hl [0, 3, 4, 5, 1, 6, 7, 8, 9] rfl)⟩
                          · refine lv_aload_n hx hb dX8_leastAll_108 rfl (lv_at hl 6 rfl) ?_
                            refine lv_iload_n hx hb dX8_leastAll_109 rfl (lv_at hl 7 rfl) ?_
                            refine lv_iload hx hb dX8_leastAll_110 (lv_at hl 3 rfl) ?_
                            refine lv_iload hx hb dX8_leastAll_112 (lv_at hl 2 rfl) ?_
                            refine lv_iload hx hb dX8_leastAll_114 (lv_at hl 1 rfl) ?_
                            refine lv_iload hx hb dX8_leastAll_116 (lv_at hl 0 rfl) ?_
                            refine ro_i (D := D) (va_runV (As := [.int (nI sn), .int (-1), .int (nI q6_19), .int (-1), .int (nI q8_198)]) (rest := []) ⟨hx, hb, hml, hown, hts⟩ ((m_sumAll l D k st lo a tx t0 we rd ru rw ca fp wd nu na ts df db sd dn se tm gs fprices fwalks sn (-1) (nI q6_19) (-1) (nI q8_198) (by omega) (by omega) (.inl (by decide)) (.inr ⟨q6_19, by omega, rfl⟩) (.inl (by decide)) (.inr ⟨q8_198, by omega, rfl⟩)) H.size) (cwV 5 hts (gV tw_1459 tw_1461 tw_75 tw_87 tw_1462) rfl rfl rfl (by decide +kernel) ⟨Nat.le_of_ble_eq_true rfl, Nat.le_of_ble_eq_true rfl⟩) (pV hS hAlo hlo hP hK hDL hZ [0, 1, 2, 3, 4] (by decide) rfl (ci := 8) (q := (RX8, TX8, 44)) (q0 := 0) rfl rfl) rfl rfl hl.1 rfl (lv_room (Nat.le_of_ble_eq_true rfl)) dX8_leastAll_118 ⟨Nat.le_of_ble_eq_true rfl, Nat.le_of_ble_eq_true rfl⟩) hS hA hP (fun r_217 H locs hw_217 hP hS => ?_)
                            try dsimp only at hw_217
                            refine lv_goto (tgt := 125) hx hb dX8_leastAll_121 (by decide) ?_
                            refine lv_istore (lv' := [(9, .int r_217), (8, .int (nI q8_198)), (7, .int (-1)), (6, .int (nI q6_19)), (5, .int (-1)), (4, .int be_198), (3, .int (nI (dn sn))), (0, .ref (a 0)), (1, .int (nI sn)), (2, .int p1)]) hx hb dX8_leastAll_125 hl (by decide) rfl (fun ls hl => ?_)
                            refine lv_iload hx hb dX8_leastAll_127 (lv_at hl 0 rfl) ?_
                            refine lv_if_lt (tgt := 149) hx hb dX8_leastAll_129 (by decide) (fun c_218 => ?_) (fun c_218 => ?_)
                            · refine lv_iload hx hb dX8_leastAll_149 (lv_at hl 5 rfl) ?_
                              refine lv_istore (lv' := [(4, .int be_198), (9, .int r_217), (8, .int (nI q8_198)), (7, .int (-1)), (6, .int (nI q6_19)), (5, .int (-1)), (3, .int (nI (dn sn))), (0, .ref (a 0)), (1, .int (nI sn)), (2, .int p1)]) hx hb dX8_leastAll_151 hl (by decide) rfl (fun ls hl => ?_)
                              refine lv_iinc (v := (nI (q8_198 + 1))) (lv' := [(8, .int (nI (q8_198 + 1))), (4, .int be_198), (9, .int r_217), (7, .int (-1)), (6, .int (nI q6_19)), (5, .int (-1)), (3, .int (nI (dn sn))), (0, .ref (a 0)), (1, .int (nI sn)), (2, .int p1)]) hx hb dX8_leastAll_153 hl (k := 2) rfl (nI_add q8_198 1) (by decide) rfl (fun ls hl => ?_)
                              refine lv_goto (tgt := 75) hx hb dX8_leastAll_156 (by decide) ?_
                              exact ih_198 _ (q8_198 + 1 + 1, be_198) _ _ _ (by omega) ⟨rfl, (by omega), hP, hS, (by rw [nI_pred]; exact lv_sub hl [0, 3, 4, 5, 1, 6, 7, 8, 9] rfl)⟩
                            · refine lv_iload hx hb dX8_leastAll_132 (lv_at hl 5 rfl) ?_
                              refine lv_if_lt (tgt := 144) hx hb dX8_leastAll_134 (by decide) (fun c_219 => ?_) (fun c_219 => ?_)
                              · refine lv_iload hx hb dX8_leastAll_144 (lv_at hl 0 rfl) ?_
                                refine lv_goto (tgt := 151) hx hb dX8_leastAll_146 (by decide) ?_
                                refine lv_istore (lv' := [(4, .int r_217), (9, .int r_217), (8, .int (nI q8_198)), (7, .int (-1)), (6, .int (nI q6_19)), (5, .int (-1)), (3, .int (nI (dn sn))), (0, .ref (a 0)), (1, .int (nI sn)), (2, .int p1)]) hx hb dX8_leastAll_151 hl (by decide) rfl (fun ls hl => ?_)
                                refine lv_iinc (v := (nI (q8_198 + 1))) (lv' := [(8, .int (nI (q8_198 + 1))), (4, .int r_217), (9, .int r_217), (7, .int (-1)), (6, .int (nI q6_19)), (5, .int (-1)), (3, .int (nI (dn sn))), (0, .ref (a 0)), (1, .int (nI sn)), (2, .int p1)]) hx hb dX8_leastAll_153 hl (k := 2) rfl (nI_add q8_198 1) (by decide) rfl (fun ls hl => ?_)
                                refine lv_goto (tgt := 75) hx hb dX8_leastAll_156 (by decide) ?_
                                exact ih_198 _ (q8_198 + 1 + 1, r_217) _ _ _ (by omega) ⟨rfl, (by omega), hP, hS, (by rw [nI_pred]; exact lv_sub hl [0, 3, 4, 5, 1, 6, 7, 8, 9] rfl)⟩
                              · refine lv_iload hx hb dX8_leastAll_137 (lv_at hl 0 rfl) ?_
                                refine lv_iload hx hb dX8_leastAll_139 (lv_at hl 5 rfl) ?_
                                refine lv_icmp_ge (tgt := 149) hx hb dX8_leastAll_141 (by decide) (fun c_220 => ?_) (fun c_220 => ?_)
                                · refine lv_iload hx hb dX8_leastAll_149 (lv_at hl 5 rfl) ?_
                                  refine lv_istore (lv' := [(4, .int be_198), (9, .int r_217), (8, .int (nI q8_198)), (7, .int (-1)), (6, .int (nI q6_19)), (5, .int (-1)), (3, .int (nI (dn sn))), (0, .ref (a 0)), (1, .int (nI sn)), (2, .int p1)]) hx hb dX8_leastAll_151 hl (by decide) rfl (fun ls hl => ?_)
                                  refine lv_iinc (v := (nI (q8_198 + 1))) (lv' := [(8, .int (nI (q8_198 + 1))), (4, .int be_198), (9, .int r_217), (7, .int (-1)), (6, .int (nI q6_19)), (5, .int (-1)), (3, .int (nI (dn sn))), (0, .ref (a 0)), (1, .int (nI sn)), (2, .int p1)]) hx hb dX8_leastAll_153 hl (k := 2) rfl (nI_add q8_198 1) (by decide) rfl (fun ls hl => ?_)
                                  refine lv_goto (tgt := 75) hx hb dX8_leastAll_156 (by decide) ?_
                                  exact ih_198 _ (q8_198 + 1 + 1, be_198) _ _ _ (by omega) ⟨rfl, (by omega), hP, hS, (by rw [nI_pred]; exact lv_sub hl [0, 3, 4, 5, 1, 6, 7, 8, 9] rfl)⟩
                                · refine lv_iload hx hb dX8_leastAll_144 (lv_at hl 0 rfl) ?_
                                  refine lv_goto (tgt := 151) hx hb dX8_leastAll_146 (by decide) ?_
                                  refine lv_istore (lv' := [(4, .int r_217), (9, .int r_217), (8, .int (nI q8_198)), (7, .int (-1)), (6, .int (nI q6_19)), (5, .int (-1)), (3, .int (nI (dn sn))), (0, .ref (a 0)), (1, .int (nI sn)), (2, .int p1)]) hx hb dX8_leastAll_151 hl (by decide) rfl (fun ls hl => ?_)
                                  refine lv_iinc (v := (nI (q8_198 + 1))) (lv' := [(8, .int (nI (q8_198 + 1))), (4, .int r_217), (9, .int r_217), (7, .int (-1)), (6, .int (nI q6_19)), (5, .int (-1)), (3, .int (nI (dn sn))), (0, .ref (a 0)), (1, .int (nI sn)), (2, .int p1)]) hx hb dX8_leastAll_153 hl (k := 2) rfl (nI_add q8_198 1) (by decide) rfl (fun ls hl => ?_)
                                  refine lv_goto (tgt := 75) hx hb dX8_leastAll_156 (by decide) ?_
                                  exact ih_198 _ (q8_198 + 1 + 1, r_217) _ _ _ (by omega) ⟨rfl, (by omega), hP, hS, (by rw [nI_pred]; exact lv_sub hl [0, 3, 4, 5, 1, 6, 7, 8, 9] rfl)⟩
              · rw [nI_pred] at hl
                refine lv_iload hx hb dX8_leastAll_54 (lv_at hl 0 rfl) ?_
                refine lv_aload_n hx hb dX8_leastAll_56 rfl (lv_at hl 5 rfl) ?_
                refine va_get (D := D) (ci := 8) (v := .int (nI ca)) (C := RX8) (T := TX8) (N := 44) hx hb hts inX8 hown hK hP 0 rfl rfl 34 (by decide) (hts _ tw_1007) (fun _ h9 => h9) rfl dX8_leastAll_57 ?_
                refine lv_iconst (v := 2) hx hb dX8_leastAll_60 (by decide) ?_
                refine lv_icmp_le (tgt := 68) hx hb dX8_leastAll_61 (by decide) (fun c_221 => ?_) (fun c_221 => ?_)
                · have c_221 := (nI_leI (a := ca) (b := 2) (by omega) (by omega)).mp c_221
                  refine lv_iconst (v := 0) hx hb dX8_leastAll_68 (by decide) ?_
                  refine lv_icmp_ge (tgt := 165) hx hb dX8_leastAll_69 (by decide) (fun _ => ?_) (fun h => absurd (nI_ge0 (by omega)) h)
                  refine lv_iinc (v := (nI (q6_19 + 1))) (lv' := [(6, .int (nI (q6_19 + 1))), (7, .int (nI q7_172)), (5, .int (-1)), (4, .int be_172), (3, .int (nI (dn sn))), (0, .ref (a 0)), (1, .int (nI sn)), (2, .int p1)]) hx hb dX8_leastAll_165 hl (k := 1) rfl (nI_add q6_19 1) (by decide) rfl (fun ls hl => ?_)
                  refine lv_goto (tgt := 33) hx hb dX8_leastAll_168 (by decide) ?_
                  exact ih_19 _ (q6_19 + 1 + 1, be_172) _ _ _ (by omega) ⟨rfl, (by omega), hP, hS, (by rw [nI_pred]; exact lv_sub hl [0, 2, 3, 4, 5, 6, 7] rfl)⟩
                · have c_221 : ¬ (ca ≤ 2) := fun h => c_221 ((nI_leI (a := ca) (b := 2) (by omega) (by omega)).mpr h)
                  refine lv_iload_n hx hb dX8_leastAll_64 rfl (lv_at hl 4 rfl) ?_
                  refine lv_goto (tgt := 69) hx hb dX8_leastAll_65 (by decide) ?_
                  refine lv_icmp_ge (tgt := 165) hx hb dX8_leastAll_69 (by decide) (fun c_222 => ?_) (fun c_222 => ?_)
                  · have c_222 := (nI_leI (a := (dn sn)) (b := q7_172) (by omega) (by omega)).mp c_222
                    refine lv_iinc (v := (nI (q6_19 + 1))) (lv' := [(6, .int (nI (q6_19 + 1))), (7, .int (nI q7_172)), (5, .int (-1)), (4, .int be_172), (3, .int (nI (dn sn))), (0, .ref (a 0)), (1, .int (nI sn)), (2, .int p1)]) hx hb dX8_leastAll_165 hl (k := 1) rfl (nI_add q6_19 1) (by decide) rfl (fun ls hl => ?_)
                    refine lv_goto (tgt := 33) hx hb dX8_leastAll_168 (by decide) ?_
                    exact ih_19 _ (q6_19 + 1 + 1, be_172) _ _ _ (by omega) ⟨rfl, (by omega), hP, hS, (by rw [nI_pred]; exact lv_sub hl [0, 2, 3, 4, 5, 6, 7] rfl)⟩
                  · have c_222 : ¬ ((dn sn) ≤ q7_172) := fun h => c_222 ((nI_leI (a := (dn sn)) (b := q7_172) (by omega) (by omega)).mpr h)
                    refine lv_iconst (v := (-1)) hx hb dX8_leastAll_72 (by decide) ?_
                    refine lv_istore (lv' := [(8, .int (-1)), (7, .int (nI q7_172)), (6, .int (nI q6_19)), (5, .int (-1)), (4, .int be_172), (3, .int (nI (dn sn))), (0, .ref (a 0)), (1, .int (nI sn)), (2, .int p1)]) hx hb dX8_leastAll_73 hl (by decide) rfl (fun ls hl => ?_)
                    refine W_loop (σ := Nat × Int32) (fun (n_ : Nat) (x_ : Nat × Int32) (H : Heap) (locs : List Loc) (ls : Array Slot) => match x_ with | (q8_223, be_223) => n_ = 26 - q8_223 ∧ (q8_223 ≤ 25) ∧ va_P D classes [((a 0), .inr (8, (fX8 a (nI tx) fp (nI t0) wd (nI we) nu na (nI rd) ts (nI ru) (nI rw) (nI ca) df db sd))), (aI k (a 1) 3 (nF dn)), (aI k (a 4) 27 (sg se tm gs)), (aI k (a 3) 72 fprices), (aI k (a 36) 4 fwalks)] H ∧ va_S (fun q : Nat => s.heap.size ≤ q) s.heap H locs ∧ lv_has ls 10 [(8, .int (nI q8_223 - 1)), (7, .int (nI q7_172)), (6, .int (nI q6_19)), (5, .int (-1)), (4, .int be_223), (3, .int (nI (dn sn))), (0, .ref (a 0)), (1, .int (nI sn)), (2, .int p1)]) (fun n_223 x_223 H locs ls hI ih_223 => ?_) _ (0, be_172) ⟨rfl, (by omega), hP, hS, (by rw [dn0]; exact lv_sub hl [0, 1, 2, 3, 4, 5, 6, 7, 8] rfl)⟩
                    obtain ⟨q8_223, be_223⟩ := x_223
                    obtain ⟨hm_223, hv_223, hP, hS, hl⟩ := hI
                    subst hm_223
                    rcases q8_223 with _ | q8_223
                    · rw [dn0] at hl
                      refine lv_iload hx hb dX8_leastAll_75 (lv_at hl 0 rfl) ?_
                      refine lv_aload_n hx hb dX8_leastAll_77 rfl (lv_at hl 6 rfl) ?_
                      refine va_get (D := D) (ci := 8) (v := .int (nI ca)) (C := RX8) (T := TX8) (N := 44) hx hb hts inX8 hown hK hP 0 rfl rfl 34 (by decide) (hts _ tw_1007) (fun _ h9 => h9) rfl dX8_leastAll_78 ?_
                      refine lv_iconst (v := 3) hx hb dX8_leastAll_81 (by decide) ?_
                      refine lv_icmp_le (tgt := 89) hx hb dX8_leastAll_82 (by decide) (fun c_224 => ?_) (fun c_224 => ?_)
                      · have c_224 := (nI_leI (a := ca) (b := 3) (by omega) (by omega)).mp c_224
                        refine lv_iconst (v := 0) hx hb dX8_leastAll_89 (by decide) ?_
                        refine lv_icmp_ge (tgt := 159) hx hb dX8_leastAll_90 (by decide) (fun h => absurd h (by decide)) (fun _ => ?_)
                        refine lv_iload_n hx hb dX8_leastAll_93 rfl (lv_at hl 8 rfl) ?_
                        refine lv_iload hx hb dX8_leastAll_94 (lv_at hl 3 rfl) ?_
                        refine lv_iload hx hb dX8_leastAll_96 (lv_at hl 2 rfl) ?_
                        refine lv_iload hx hb dX8_leastAll_98 (lv_at hl 1 rfl) ?_
                        refine lv_iload hx hb dX8_leastAll_100 (lv_at hl 0 rfl) ?_
                        refine ro_i (D := D) (va_runS (As := [.int p1, .int (-1), .int (nI q6_19), .int (nI q7_172), .int (-1)]) (rest := []) ⟨hx, hb, hml, hown, hts⟩ ((m_canAll l D k st lo p1 (-1) (nI q6_19) (nI q7_172) (-1)) H.size) (va_cwS 5 hts (gS tw_1450 tw_1451 tw_87 tw_1452) rfl rfl rfl (by decide +kernel) ⟨Nat.le_of_ble_eq_true rfl, Nat.le_of_ble_eq_true rfl⟩) (pS hS hAlo hlo hP hK hDL hZ [] (by decide) rfl) rfl rfl hl.1 rfl (lv_room (Nat.le_of_ble_eq_true rfl)) dX8_leastAll_102 ⟨Nat.le_of_ble_eq_true rfl, Nat.le_of_ble_eq_true rfl⟩) hS hA hP (fun r_225 H locs hw_225 hP hS => ?_)
                        try dsimp only at hw_225
                        refine lv_if_eq (tgt := 124) hx hb dX8_leastAll_105 (by decide) (fun c_226 => ?_) (fun c_226 => ?_)
                        · refine lv_iconst (v := (-1)) hx hb dX8_leastAll_124 (by decide) ?_
                          refine lv_istore (lv' := [(9, .int (-1)), (8, .int (-1)), (7, .int (nI q7_172)), (6, .int (nI q6_19)), (5, .int (-1)), (4, .int be_223), (3, .int (nI (dn sn))), (0, .ref (a 0)), (1, .int (nI sn)), (2, .int p1)]) hx hb dX8_leastAll_125 hl (by decide) rfl (fun ls hl => ?_)
                          refine lv_iload hx hb dX8_leastAll_127 (lv_at hl 0 rfl) ?_
                          refine lv_if_lt (tgt := 149) hx hb dX8_leastAll_129 (by decide) (fun _ => ?_) (fun h => absurd (by decide) h)
                          refine lv_iload hx hb dX8_leastAll_149 (lv_at hl 5 rfl) ?_
                          refine lv_istore (lv' := [(4, .int be_223), (9, .int (-1)), (8, .int (-1)), (7, .int (nI q7_172)), (6, .int (nI q6_19)), (5, .int (-1)), (3, .int (nI (dn sn))), (0, .ref (a 0)), (1, .int (nI sn)), (2, .int p1)]) hx hb dX8_leastAll_151 hl (by decide) rfl (fun ls hl => ?_)
                          refine lv_iinc (v := 0) (lv' := [(8, .int 0), (4, .int be_223), (9, .int (-1)), (7, .int (nI q7_172)), (6, .int (nI q6_19)), (5, .int (-1)), (3, .int (nI (dn sn))), (0, .ref (a 0)), (1, .int (nI sn)), (2, .int p1)]) hx hb dX8_leastAll_153 hl (k := 2) rfl (by decide) (by decide) rfl (fun ls hl => ?_)
                          refine lv_goto (tgt := 75) hx hb dX8_leastAll_156 (by decide) ?_
                          exact ih_223 _ (1, be_223) _ _ _ (by omega) ⟨rfl, (by omega), hP, hS, (by rw [nI_pred]; exact lv_sub hl [0, 3, 4, 5, 1, 6, 7, 8, 9] rfl)⟩
                        · refine lv_aload_n hx hb dX8_leastAll_108 rfl (lv_at hl 6 rfl) ?_
                          refine lv_iload_n hx hb dX8_leastAll_109 rfl (lv_at hl 7 rfl) ?_
                          refine lv_iload hx hb dX8_leastAll_110 (lv_at hl 3 rfl) ?_
                          refine lv_iload hx hb dX8_leastAll_112 (lv_at hl 2 rfl) ?_
                          refine lv_iload hx hb dX8_leastAll_114 (lv_at hl 1 rfl) ?_
                          refine lv_iload hx hb dX8_leastAll_116 (lv_at hl 0 rfl) ?_
                          refine ro_i (D := D) (va_runV (As := [.int (nI sn), .int (-1), .int (nI q6_19), .int (nI q7_172), .int (-1)]) (rest := []) ⟨hx, hb, hml, hown, hts⟩ ((m_sumAll l D k st lo a tx t0 we rd ru rw ca fp wd nu na ts df db sd dn se tm gs fprices fwalks sn (-1) (nI q6_19) (nI q7_172) (-1) (by omega) (by omega) (.inl (by decide)) (.inr ⟨q6_19, by omega, rfl⟩) (.inr ⟨q7_172, by omega, rfl⟩) (.inl (by decide))) H.size) (cwV 5 hts (gV tw_1459 tw_1461 tw_75 tw_87 tw_1462) rfl rfl rfl (by decide +kernel) ⟨Nat.le_of_ble_eq_true rfl, Nat.le_of_ble_eq_true rfl⟩) (pV hS hAlo hlo hP hK hDL hZ [0, 1, 2, 3, 4] (by decide) rfl (ci := 8) (q := (RX8, TX8, 44)) (q0 := 0) rfl rfl) rfl rfl hl.1 rfl (lv_room (Nat.le_of_ble_eq_true rfl)) dX8_leastAll_118 ⟨Nat.le_of_ble_eq_true rfl, Nat.le_of_ble_eq_true rfl⟩) hS hA hP (fun r_227 H locs hw_227 hP hS => ?_)
                          try dsimp only at hw_227
                          refine lv_goto (tgt := 125) hx hb dX8_leastAll_121 (by decide) ?_
                          refine lv_istore (lv' := [(9, .int r_227), (8, .int (-1)), (7, .int (nI q7_172)), (6, .int (nI q6_19)), (5, .int (-1)), (4, .int be_223), (3, .int (nI (dn sn))), (0, .ref (a 0)), (1, .int (nI sn)), (2, .int p1)]) hx hb dX8_leastAll_125 hl (by decide) rfl (fun ls hl => ?_)
                          refine lv_iload hx hb dX8_leastAll_127 (lv_at hl 0 rfl) ?_
                          refine lv_if_lt (tgt := 149) hx hb dX8_leastAll_129 (by decide) (fun c_228 => ?_) (fun c_228 => ?_)
                          · refine lv_iload hx hb dX8_leastAll_149 (lv_at hl 5 rfl) ?_
                            refine lv_istore (lv' := [(4, .int be_223), (9, .int r_227), (8, .int (-1)), (7, .int (nI q7_172)), (6, .int (nI q6_19)), (5, .int (-1)), (3, .int (nI (dn sn))), (0, .ref (a 0)), (1, .int (nI sn)), (2, .int p1)]) hx hb dX8_leastAll_151 hl (by decide) rfl (fun ls hl => ?_)
                            refine lv_iinc (v := 0) (lv' := [(8, .int 0), (4, .int be_223), (9, .int r_227), (7, .int (nI q7_172)), (6, .int (nI q6_19)), (5, .int (-1)), (3, .int (nI (dn sn))), (0, .ref (a 0)), (1, .int (nI sn)), (2, .int p1)]) hx hb dX8_leastAll_153 hl (k := 2) rfl (by decide) (by decide) rfl (fun ls hl => ?_)
                            refine lv_goto (tgt := 75) hx hb dX8_leastAll_156 (by decide) ?_
                            exact ih_223 _ (1, be_223) _ _ _ (by omega) ⟨rfl, (by omega), hP, hS, (by rw [nI_pred]; exact lv_sub hl [0, 3, 4, 5, 1, 6, 7, 8, 9] rfl)⟩
                          · refine lv_iload hx hb dX8_leastAll_132 (lv_at hl 5 rfl) ?_
                            refine lv_if_lt (tgt := 144) hx hb dX8_leastAll_134 (by decide) (fun c_229 => ?_) (fun c_229 => ?_)
                            · refine lv_iload hx hb dX8_leastAll_144 (lv_at hl 0 rfl) ?_
                              refine lv_goto (tgt := 151) hx hb dX8_leastAll_146 (by decide) ?_
                              refine lv_istore (lv' := [(4, .int r_227), (9, .int r_227), (8, .int (-1)), (7, .int (nI q7_172)), (6, .int (nI q6_19)), (5, .int (-1)), (3, .int (nI (dn sn))), (0, .ref (a 0)), (1, .int (nI sn)), (2, .int p1)]) hx hb dX8_leastAll_151 hl (by decide) rfl (fun ls hl => ?_)
                              refine lv_iinc (v := 0) (lv' := [(8, .int 0), (4, .int r_227), (9, .int r_227), (7, .int (nI q7_172)), (6, .int (nI q6_19)), (5, .int (-1)), (3, .int (nI (dn sn))), (0, .ref (a 0)), (1, .int (nI sn)), (2, .int p1)]) hx hb dX8_leastAll_153 hl (k := 2) rfl (by decide) (by decide) rfl (fun ls hl => ?_)
                              refine lv_goto (tgt := 75) hx hb dX8_leastAll_156 (by decide) ?_
                              exact ih_223 _ (1, r_227) _ _ _ (by omega) ⟨rfl, (by omega), hP, hS, (by rw [nI_pred]; exact lv_sub hl [0, 3, 4, 5, 1, 6, 7, 8, 9] rfl)⟩
                            · refine lv_iload hx hb dX8_leastAll_137 (lv_at hl 0 rfl) ?_
                              refine lv_iload hx hb dX8_leastAll_139 (lv_at hl 5 rfl) ?_
                              refine lv_icmp_ge (tgt := 149) hx hb dX8_leastAll_141 (by decide) (fun c_230 => ?_) (fun c_230 => ?_)
                              · refine lv_iload hx hb dX8_leastAll_149 (lv_at hl 5 rfl) ?_
                                refine lv_istore (lv' := [(4, .int be_223), (9, .int r_227), (8, .int (-1)), (7, .int (nI q7_172)), (6, .int (nI q6_19)), (5, .int (-1)), (3, .int (nI (dn sn))), (0, .ref (a 0)), (1, .int (nI sn)), (2, .int p1)]) hx hb dX8_leastAll_151 hl (by decide) rfl (fun ls hl => ?_)
                                refine lv_iinc (v := 0) (lv' := [(8, .int 0), (4, .int be_223), (9, .int r_227), (7, .int (nI q7_172)), (6, .int (nI q6_19)), (5, .int (-1)), (3, .int (nI (dn sn))), (0, .ref (a 0)), (1, .int (nI sn)), (2, .int p1)]) hx hb dX8_leastAll_153 hl (k := 2) rfl (by decide) (by decide) rfl (fun ls hl => ?_)
                                refine lv_goto (tgt := 75) hx hb dX8_leastAll_156 (by decide) ?_
                                exact ih_223 _ (1, be_223) _ _ _ (by omega) ⟨rfl, (by omega), hP, hS, (by rw [nI_pred]; exact lv_sub hl [0, 3, 4, 5, 1, 6, 7, 8, 9] rfl)⟩
                              · refine lv_iload hx hb dX8_leastAll_144 (lv_at hl 0 rfl) ?_
                                refine lv_goto (tgt := 151) hx hb dX8_leastAll_146 (by decide) ?_
                                refine lv_istore (lv' := [(4, .int r_227), (9, .int r_227), (8, .int (-1)), (7, .int (nI q7_172)), (6, .int (nI q6_19)), (5, .int (-1)), (3, .int (nI (dn sn))), (0, .ref (a 0)), (1, .int (nI sn)), (2, .int p1)]) hx hb dX8_leastAll_151 hl (by decide) rfl (fun ls hl => ?_)
                                refine lv_iinc (v := 0) (lv' := [(8, .int 0), (4, .int r_227), (9, .int r_227), (7, .int (nI q7_172)), (6, .int (nI q6_19)), (5, .int (-1)), (3, .int (nI (dn sn))), (0, .ref (a 0)), (1, .int (nI sn)), (2, .int p1)]) hx hb dX8_leastAll_153 hl (k := 2) rfl (by decide) (by decide) rfl (fun ls hl => ?_)
                                refine lv_goto (tgt := 75) hx hb dX8_leastAll_156 (by decide) ?_
                                exact ih_223 _ (1, r_227) _ _ _ (by omega) ⟨rfl, (by omega), hP, hS, (by rw [nI_pred]; exact lv_sub hl [0, 3, 4, 5, 1, 6, 7, 8, 9] rfl)⟩
                      · have c_224 : ¬ (ca ≤ 3) := fun h => c_224 ((nI_leI (a := ca) (b := 3) (by omega) (by omega)).mpr h)
                        refine lv_iload_n hx hb dX8_leastAll_85 rfl (lv_at hl 5 rfl) ?_
                        refine lv_goto (tgt := 90) hx hb dX8_leastAll_86 (by decide) ?_
                        refine lv_icmp_ge (tgt := 159) hx hb dX8_leastAll_90 (by decide) (fun c_231 => ?_) (fun c_231 => ?_)
                        · refine lv_iinc (v := (nI (q7_172 + 1))) (lv' := [(7, .int (nI (q7_172 + 1))), (8, .int (-1)), (6, .int (nI q6_19)), (5, .int (-1)), (4, .int be_223), (3, .int (nI (dn sn))), (0, .ref (a 0)), (1, .int (nI sn)), (2, .int p1)]) hx hb dX8_leastAll_159 hl (k := 1) rfl (nI_add q7_172 1) (by decide) rfl (fun ls hl => ?_)
                          refine lv_goto (tgt := 54) hx hb dX8_leastAll_162 (by decide) ?_
                          exact ih_172 _ (q7_172 + 1 + 1, be_223) _ _ _ (by omega) ⟨rfl, (by omega), hP, hS, (by rw [nI_pred]; exact lv_sub hl [0, 2, 3, 4, 5, 6, 7, 8] rfl)⟩
                        · refine lv_iload_n hx hb dX8_leastAll_93 rfl (lv_at hl 8 rfl) ?_
                          refine lv_iload hx hb dX8_leastAll_94 (lv_at hl 3 rfl) ?_
                          refine lv_iload hx hb dX8_leastAll_96 (lv_at hl 2 rfl) ?_
                          refine lv_iload hx hb dX8_leastAll_98 (lv_at hl 1 rfl) ?_
                          refine lv_iload hx hb dX8_leastAll_100 (lv_at hl 0 rfl) ?_
                          refine ro_i (D := D) (va_runS (As := [.int p1, .int (-1), .int (nI q6_19), .int (nI q7_172), .int (-1)]) (rest := []) ⟨hx, hb, hml, hown, hts⟩ ((m_canAll l D k st lo p1 (-1) (nI q6_19) (nI q7_172) (-1)) H.size) (va_cwS 5 hts (gS tw_1450 tw_1451 tw_87 tw_1452) rfl rfl rfl (by decide +kernel) ⟨Nat.le_of_ble_eq_true rfl, Nat.le_of_ble_eq_true rfl⟩) (pS hS hAlo hlo hP hK hDL hZ [] (by decide) rfl) rfl rfl hl.1 rfl (lv_room (Nat.le_of_ble_eq_true rfl)) dX8_leastAll_102 ⟨Nat.le_of_ble_eq_true rfl, Nat.le_of_ble_eq_true rfl⟩) hS hA hP (fun r_232 H locs hw_232 hP hS => ?_)
                          try dsimp only at hw_232
                          refine lv_if_eq (tgt := 124) hx hb dX8_leastAll_105 (by decide) (fun c_233 => ?_) (fun c_233 => ?_)
                          · refine lv_iconst (v := (-1)) hx hb dX8_leastAll_124 (by decide) ?_
                            refine lv_istore (lv' := [(9, .int (-1)), (8, .int (-1)), (7, .int (nI q7_172)), (6, .int (nI q6_19)), (5, .int (-1)), (4, .int be_223), (3, .int (nI (dn sn))), (0, .ref (a 0)), (1, .int (nI sn)), (2, .int p1)]) hx hb dX8_leastAll_125 hl (by decide) rfl (fun ls hl => ?_)
                            refine lv_iload hx hb dX8_leastAll_127 (lv_at hl 0 rfl) ?_
                            refine lv_if_lt (tgt := 149) hx hb dX8_leastAll_129 (by decide) (fun _ => ?_) (fun h => absurd (by decide) h)
                            refine lv_iload hx hb dX8_leastAll_149 (lv_at hl 5 rfl) ?_
                            refine lv_istore (lv' := [(4, .int be_223), (9, .int (-1)), (8, .int (-1)), (7, .int (nI q7_172)), (6, .int (nI q6_19)), (5, .int (-1)), (3, .int (nI (dn sn))), (0, .ref (a 0)), (1, .int (nI sn)), (2, .int p1)]) hx hb dX8_leastAll_151 hl (by decide) rfl (fun ls hl => ?_)
                            refine lv_iinc (v := 0) (lv' := [(8, .int 0), (4, .int be_223), (9, .int (-1)), (7, .int (nI q7_172)), (6, .int (nI q6_19)), (5, .int (-1)), (3, .int (nI (dn sn))), (0, .ref (a 0)), (1, .int (nI sn)), (2, .int p1)]) hx hb dX8_leastAll_153 hl (k := 2) rfl (by decide) (by decide) rfl (fun ls hl => ?_)
                            refine lv_goto (tgt := 75) hx hb dX8_leastAll_156 (by decide) ?_
                            exact ih_223 _ (1, be_223) _ _ _ (by omega) ⟨rfl, (by omega), hP, hS, (by rw [nI_pred]; exact lv_sub hl [0, 3, 4, 5, 1, 6, 7, 8, 9] rfl)⟩
                          · refine lv_aload_n hx hb dX8_leastAll_108 rfl (lv_at hl 6 rfl) ?_
                            refine lv_iload_n hx hb dX8_leastAll_109 rfl (lv_at hl 7 rfl) ?_
                            refine lv_iload hx hb dX8_leastAll_110 (lv_at hl 3 rfl) ?_
                            refine lv_iload hx hb dX8_leastAll_112 (lv_at hl 2 rfl) ?_
                            refine lv_iload hx hb dX8_leastAll_114 (lv_at hl 1 rfl) ?_
                            refine lv_iload hx hb dX8_leastAll_116 (lv_at hl 0 rfl) ?_
                            refine ro_i (D := D) (va_runV (As := [.int (nI sn), .int (-1), .int (nI q6_19), .int (nI q7_172), .int (-1)]) (rest := []) ⟨hx, hb, hml, hown, hts⟩ ((m_sumAll l D k st lo a tx t0 we rd ru rw ca fp wd nu na ts df db sd dn se tm gs fprices fwalks sn (-1) (nI q6_19) (nI q7_172) (-1) (by omega) (by omega) (.inl (by decide)) (.inr ⟨q6_19, by omega, rfl⟩) (.inr ⟨q7_172, by omega, rfl⟩) (.inl (by decide))) H.size) (cwV 5 hts (gV tw_1459 tw_1461 tw_75 tw_87 tw_1462) rfl rfl rfl (by decide +kernel) ⟨Nat.le_of_ble_eq_true rfl, Nat.le_of_ble_eq_true rfl⟩) (pV hS hAlo hlo hP hK hDL hZ [0, 1, 2, 3, 4] (by decide) rfl (ci := 8) (q := (RX8, TX8, 44)) (q0 := 0) rfl rfl) rfl rfl hl.1 rfl (lv_room (Nat.le_of_ble_eq_true rfl)) dX8_leastAll_118 ⟨Nat.le_of_ble_eq_true rfl, Nat.le_of_ble_eq_true rfl⟩) hS hA hP (fun r_234 H locs hw_234 hP hS => ?_)
                            try dsimp only at hw_234
                            refine lv_goto (tgt := 125) hx hb dX8_leastAll_121 (by decide) ?_
                            refine lv_istore (lv' := [(9, .int r_234), (8, .int (-1)), (7, .int (nI q7_172)), (6, .int (nI q6_19)), (5, .int (-1)), (4, .int be_223), (3, .int (nI (dn sn))), (0, .ref (a 0)), (1, .int (nI sn)), (2, .int p1)]) hx hb dX8_leastAll_125 hl (by decide) rfl (fun ls hl => ?_)
                            refine lv_iload hx hb dX8_leastAll_127 (lv_at hl 0 rfl) ?_
                            refine lv_if_lt (tgt := 149) hx hb dX8_leastAll_129 (by decide) (fun c_235 => ?_) (fun c_235 => ?_)
                            · refine lv_iload hx hb dX8_leastAll_149 (lv_at hl 5 rfl) ?_
                              refine lv_istore (lv' := [(4, .int be_223), (9, .int r_234), (8, .int (-1)), (7, .int (nI q7_172)), (6, .int (nI q6_19)), (5, .int (-1)), (3, .int (nI (dn sn))), (0, .ref (a 0)), (1, .int (nI sn)), (2, .int p1)]) hx hb dX8_leastAll_151 hl (by decide) rfl (fun ls hl => ?_)
                              refine lv_iinc (v := 0) (lv' := [(8, .int 0), (4, .int be_223), (9, .int r_234), (7, .int (nI q7_172)), (6, .int (nI q6_19)), (5, .int (-1)), (3, .int (nI (dn sn))), (0, .ref (a 0)), (1, .int (nI sn)), (2, .int p1)]) hx hb dX8_leastAll_153 hl (k := 2) rfl (by decide) (by decide) rfl (fun ls hl => ?_)
                              refine lv_goto (tgt := 75) hx hb dX8_leastAll_156 (by decide) ?_
                              exact ih_223 _ (1, be_223) _ _ _ (by omega) ⟨rfl, (by omega), hP, hS, (by rw [nI_pred]; exact lv_sub hl [0, 3, 4, 5, 1, 6, 7, 8, 9] rfl)⟩
                            · refine lv_iload hx hb dX8_leastAll_132 (lv_at hl 5 rfl) ?_
                              refine lv_if_lt (tgt := 144) hx hb dX8_leastAll_134 (by decide) (fun c_236 => ?_) (fun c_236 => ?_)
                              · refine lv_iload hx hb dX8_leastAll_144 (lv_at hl 0 rfl) ?_
                                refine lv_goto (tgt := 151) hx hb dX8_leastAll_146 (by decide) ?_
                                refine lv_istore (lv' := [(4, .int r_234), (9, .int r_234), (8, .int (-1)), (7, .int (nI q7_172)), (6, .int (nI q6_19)), (5, .int (-1)), (3, .int (nI (dn sn))), (0, .ref (a 0)), (1, .int (nI sn)), (2, .int p1)]) hx hb dX8_leastAll_151 hl (by decide) rfl (fun ls hl => ?_)
                                refine lv_iinc (v := 0) (lv' := [(8, .int 0), (4, .int r_234), (9, .int r_234), (7, .int (nI q7_172)), (6, .int (nI q6_19)), (5, .int (-1)), (3, .int (nI (dn sn))), (0, .ref (a 0)), (1, .int (nI sn)), (2, .int p1)]) hx hb dX8_leastAll_153 hl (k := 2) rfl (by decide) (by decide) rfl (fun ls hl => ?_)
                                refine lv_goto (tgt := 75) hx hb dX8_leastAll_156 (by decide) ?_
                                exact ih_223 _ (1, r_234) _ _ _ (by omega) ⟨rfl, (by omega), hP, hS, (by rw [nI_pred]; exact lv_sub hl [0, 3, 4, 5, 1, 6, 7, 8, 9] rfl)⟩
                              · refine lv_iload hx hb dX8_leastAll_137 (lv_at hl 0 rfl) ?_
                                refine lv_iload hx hb dX8_leastAll_139 (lv_at hl 5 rfl) ?_
                                refine lv_icmp_ge (tgt := 149) hx hb dX8_leastAll_141 (by decide) (fun c_237 => ?_) (fun c_237 => ?_)
                                · refine lv_iload hx hb dX8_leastAll_149 (lv_at hl 5 rfl) ?_
                                  refine lv_istore (lv' := [(4, .int be_223), (9, .int r_234), (8, .int (-1)), (7, .int (nI q7_172)), (6, .int (nI q6_19)), (5, .int (-1)), (3, .int (nI (dn sn))), (0, .ref (a 0)), (1, .int (nI sn)), (2, .int p1)]) hx hb dX8_leastAll_151 hl (by decide) rfl (fun ls hl => ?_)
                                  refine lv_iinc (v := 0) (lv' := [(8, .int 0), (4, .int be_223), (9, .int r_234), (7, .int (nI q7_172)), (6, .int (nI q6_19)), (5, .int (-1)), (3, .int (nI (dn sn))), (0, .ref (a 0)), (1, .int (nI sn)), (2, .int p1)]) hx hb dX8_leastAll_153 hl (k := 2) rfl (by decide) (by decide) rfl (fun ls hl => ?_)
                                  refine lv_goto (tgt := 75) hx hb dX8_leastAll_156 (by decide) ?_
                                  exact ih_223 _ (1, be_223) _ _ _ (by omega) ⟨rfl, (by omega), hP, hS, (by rw [nI_pred]; exact lv_sub hl [0, 3, 4, 5, 1, 6, 7, 8, 9] rfl)⟩
                                · refine lv_iload hx hb dX8_leastAll_144 (lv_at hl 0 rfl) ?_
                                  refine lv_goto (tgt := 151) hx hb dX8_leastAll_146 (by decide) ?_
                                  refine lv_istore (lv' := [(4, .int r_234), (9, .int r_234), (8, .int (-1)), (7, .int (nI q7_172)), (6, .int (nI q6_19)), (5, .int (-1)), (3, .int (nI (dn sn))), (0, .ref (a 0)), (1, .int (nI sn)), (2, .int p1)]) hx hb dX8_leastAll_151 hl (by decide) rfl (fun ls hl => ?_)
                                  refine lv_iinc (v := 0) (lv' := [(8, .int 0), (4, .int r_234), (9, .int r_234), (7, .int (nI q7_172)), (6, .int (nI q6_19)), (5, .int (-1)), (3, .int (nI (dn sn))), (0, .ref (a 0)), (1, .int (nI sn)), (2, .int p1)]) hx hb dX8_leastAll_153 hl (k := 2) rfl (by decide) (by decide) rfl (fun ls hl => ?_)
                                  refine lv_goto (tgt := 75) hx hb dX8_leastAll_156 (by decide) ?_
                                  exact ih_223 _ (1, r_234) _ _ _ (by omega) ⟨rfl, (by omega), hP, hS, (by rw [nI_pred]; exact lv_sub hl [0, 3, 4, 5, 1, 6, 7, 8, 9] rfl)⟩
                    · rw [nI_pred] at hl
                      refine lv_iload hx hb dX8_leastAll_75 (lv_at hl 0 rfl) ?_
                      refine lv_aload_n hx hb dX8_leastAll_77 rfl (lv_at hl 6 rfl) ?_
                      refine va_get (D := D) (ci := 8) (v := .int (nI ca)) (C := RX8) (T := TX8) (N := 44) hx hb hts inX8 hown hK hP 0 rfl rfl 34 (by decide) (hts _ tw_1007) (fun _ h9 => h9) rfl dX8_leastAll_78 ?_
                      refine lv_iconst (v := 3) hx hb dX8_leastAll_81 (by decide) ?_
                      refine lv_icmp_le (tgt := 89) hx hb dX8_leastAll_82 (by decide) (fun c_238 => ?_) (fun c_238 => ?_)
                      · have c_238 := (nI_leI (a := ca) (b := 3) (by omega) (by omega)).mp c_238
                        refine lv_iconst (v := 0) hx hb dX8_leastAll_89 (by decide) ?_
                        refine lv_icmp_ge (tgt := 159) hx hb dX8_leastAll_90 (by decide) (fun _ => ?_) (fun h => absurd (nI_ge0 (by omega)) h)
                        refine lv_iinc (v := (nI (q7_172 + 1))) (lv' := [(7, .int (nI (q7_172 + 1))), (8, .int (nI q8_223)), (6, .int (nI q6_19)), (5, .int (-1)), (4, .int be_223), (3, .int (nI (dn sn))), (0, .ref (a 0)), (1, .int (nI sn)), (2, .int p1)]) hx hb dX8_leastAll_159 hl (k := 1) rfl (nI_add q7_172 1) (by decide) rfl (fun ls hl => ?_)
                        refine lv_goto (tgt := 54) hx hb dX8_leastAll_162 (by decide) ?_
                        exact ih_172 _ (q7_172 + 1 + 1, be_223) _ _ _ (by omega) ⟨rfl, (by omega), hP, hS, (by rw [nI_pred]; exact lv_sub hl [0, 2, 3, 4, 5, 6, 7, 8] rfl)⟩
                      · have c_238 : ¬ (ca ≤ 3) := fun h => c_238 ((nI_leI (a := ca) (b := 3) (by omega) (by omega)).mpr h)
                        refine lv_iload_n hx hb dX8_leastAll_85 rfl (lv_at hl 5 rfl) ?_
                        refine lv_goto (tgt := 90) hx hb dX8_leastAll_86 (by decide) ?_
                        refine lv_icmp_ge (tgt := 159) hx hb dX8_leastAll_90 (by decide) (fun c_239 => ?_) (fun c_239 => ?_)
                        · have c_239 := (nI_leI (a := (dn sn)) (b := q8_223) (by omega) (by omega)).mp c_239
                          refine lv_iinc (v := (nI (q7_172 + 1))) (lv' := [(7, .int (nI (q7_172 + 1))), (8, .int (nI q8_223)), (6, .int (nI q6_19)), (5, .int (-1)), (4, .int be_223), (3, .int (nI (dn sn))), (0, .ref (a 0)), (1, .int (nI sn)), (2, .int p1)]) hx hb dX8_leastAll_159 hl (k := 1) rfl (nI_add q7_172 1) (by decide) rfl (fun ls hl => ?_)
                          refine lv_goto (tgt := 54) hx hb dX8_leastAll_162 (by decide) ?_
                          exact ih_172 _ (q7_172 + 1 + 1, be_223) _ _ _ (by omega) ⟨rfl, (by omega), hP, hS, (by rw [nI_pred]; exact lv_sub hl [0, 2, 3, 4, 5, 6, 7, 8] rfl)⟩
                        · have c_239 : ¬ ((dn sn) ≤ q8_223) := fun h => c_239 ((nI_leI (a := (dn sn)) (b := q8_223) (by omega) (by omega)).mpr h)
                          refine lv_iload_n hx hb dX8_leastAll_93 rfl (lv_at hl 8 rfl) ?_
                          refine lv_iload hx hb dX8_leastAll_94 (lv_at hl 3 rfl) ?_
                          refine lv_iload hx hb dX8_leastAll_96 (lv_at hl 2 rfl) ?_
                          refine lv_iload hx hb dX8_leastAll_98 (lv_at hl 1 rfl) ?_
                          refine lv_iload hx hb dX8_leastAll_100 (lv_at hl 0 rfl) ?_
                          refine ro_i (D := D) (va_runS (As := [.int p1, .int (-1), .int (nI q6_19), .int (nI q7_172), .int (nI q8_223)]) (rest := []) ⟨hx, hb, hml, hown, hts⟩ ((m_canAll l D k st lo p1 (-1) (nI q6_19) (nI q7_172) (nI q8_223)) H.size) (va_cwS 5 hts (gS tw_1450 tw_1451 tw_87 tw_1452) rfl rfl rfl (by decide +kernel) ⟨Nat.le_of_ble_eq_true rfl, Nat.le_of_ble_eq_true rfl⟩) (pS hS hAlo hlo hP hK hDL hZ [] (by decide) rfl) rfl rfl hl.1 rfl (lv_room (Nat.le_of_ble_eq_true rfl)) dX8_leastAll_102 ⟨Nat.le_of_ble_eq_true rfl, Nat.le_of_ble_eq_true rfl⟩) hS hA hP (fun r_240 H locs hw_240 hP hS => ?_)
                          try dsimp only at hw_240
                          refine lv_if_eq (tgt := 124) hx hb dX8_leastAll_105 (by decide) (fun c_241 => ?_) (fun c_241 => ?_)
                          · refine lv_iconst (v := (-1)) hx hb dX8_leastAll_124 (by decide) ?_
                            refine lv_istore (lv' := [(9, .int (-1)), (8, .int (nI q8_223)), (7, .int (nI q7_172)), (6, .int (nI q6_19)), (5, .int (-1)), (4, .int be_223), (3, .int (nI (dn sn))), (0, .ref (a 0)), (1, .int (nI sn)), (2, .int p1)]) hx hb dX8_leastAll_125 hl (by decide) rfl (fun ls hl => ?_)
                            refine lv_iload hx hb dX8_leastAll_127 (lv_at hl 0 rfl) ?_
                            refine lv_if_lt (tgt := 149) hx hb dX8_leastAll_129 (by decide) (fun _ => ?_) (fun h => absurd (by decide) h)
                            refine lv_iload hx hb dX8_leastAll_149 (lv_at hl 5 rfl) ?_
                            refine lv_istore (lv' := [(4, .int be_223), (9, .int (-1)), (8, .int (nI q8_223)), (7, .int (nI q7_172)), (6, .int (nI q6_19)), (5, .int (-1)), (3, .int (nI (dn sn))), (0, .ref (a 0)), (1, .int (nI sn)), (2, .int p1)]) hx hb dX8_leastAll_151 hl (by decide) rfl (fun ls hl => ?_)
                            refine lv_iinc (v := (nI (q8_223 + 1))) (lv' := [(8, .int (nI (q8_223 + 1))), (4, .int be_223), (9, .int (-1)), (7, .int (nI q7_172)), (6, .int (nI q6_19)), (5, .int (-1)), (3, .int (nI (dn sn))), (0, .ref (a 0)), (1, .int (nI sn)), (2, .int p1)]) hx hb dX8_leastAll_153 hl (k := 2) rfl (nI_add q8_223 1) (by decide) rfl (fun ls hl => ?_)
                            refine lv_goto (tgt := 75) hx hb dX8_leastAll_156 (by decide) ?_
                            exact ih_223 _ (q8_223 + 1 + 1, be_223) _ _ _ (by omega) ⟨rfl, (by omega), hP, hS, (by rw [nI_pred]; exact lv_sub hl [0, 3, 4, 5, 1, 6, 7, 8, 9] rfl)⟩
                          · refine lv_aload_n hx hb dX8_leastAll_108 rfl (lv_at hl 6 rfl) ?_
                            refine lv_iload_n hx hb dX8_leastAll_109 rfl (lv_at hl 7 rfl) ?_
                            refine lv_iload hx hb dX8_leastAll_110 (lv_at hl 3 rfl) ?_
                            refine lv_iload hx hb dX8_leastAll_112 (lv_at hl 2 rfl) ?_
                            refine lv_iload hx hb dX8_leastAll_114 (lv_at hl 1 rfl) ?_
                            refine lv_iload hx hb dX8_leastAll_116 (lv_at hl 0 rfl) ?_
                            refine ro_i (D := D) (va_runV (As := [.int (nI sn), .int (-1), .int (nI q6_19), .int (nI q7_172), .int (nI q8_223)]) (rest := []) ⟨hx, hb, hml, hown, hts⟩ ((m_sumAll l D k st lo a tx t0 we rd ru rw ca fp wd nu na ts df db sd dn se tm gs fprices fwalks sn (-1) (nI q6_19) (nI q7_172) (nI q8_223) (by omega) (by omega) (.inl (by decide)) (.inr ⟨q6_19, by omega, rfl⟩) (.inr ⟨q7_172, by omega, rfl⟩) (.inr ⟨q8_223, by omega, rfl⟩)) H.size) (cwV 5 hts (gV tw_1459 tw_1461 tw_75 tw_87 tw_1462) rfl rfl rfl (by decide +kernel) ⟨Nat.le_of_ble_eq_true rfl, Nat.le_of_ble_eq_true rfl⟩) (pV hS hAlo hlo hP hK hDL hZ [0, 1, 2, 3, 4] (by decide) rfl (ci := 8) (q := (RX8, TX8, 44)) (q0 := 0) rfl rfl) rfl rfl hl.1 rfl (lv_room (Nat.le_of_ble_eq_true rfl)) dX8_leastAll_118 ⟨Nat.le_of_ble_eq_true rfl, Nat.le_of_ble_eq_true rfl⟩) hS hA hP (fun r_242 H locs hw_242 hP hS => ?_)
                            try dsimp only at hw_242
                            refine lv_goto (tgt := 125) hx hb dX8_leastAll_121 (by decide) ?_
                            refine lv_istore (lv' := [(9, .int r_242), (8, .int (nI q8_223)), (7, .int (nI q7_172)), (6, .int (nI q6_19)), (5, .int (-1)), (4, .int be_223), (3, .int (nI (dn sn))), (0, .ref (a 0)), (1, .int (nI sn)), (2, .int p1)]) hx hb dX8_leastAll_125 hl (by decide) rfl (fun ls hl => ?_)
                            refine lv_iload hx hb dX8_leastAll_127 (lv_at hl 0 rfl) ?_
                            refine lv_if_lt (tgt := 149) hx hb dX8_leastAll_129 (by decide) (fun c_243 => ?_) (fun c_243 => ?_)
                            · refine lv_iload hx hb dX8_leastAll_149 (lv_at hl 5 rfl) ?_
                              refine lv_istore (lv' := [(4, .int be_223), (9, .int r_242), (8, .int (nI q8_223)), (7, .int (nI q7_172)), (6, .int (nI q6_19)), (5, .int (-1)), (3, .int (nI (dn sn))), (0, .ref (a 0)), (1, .int (nI sn)), (2, .int p1)]) hx hb dX8_leastAll_151 hl (by decide) rfl (fun ls hl => ?_)
                              refine lv_iinc (v := (nI (q8_223 + 1))) (lv' := [(8, .int (nI (q8_223 + 1))), (4, .int be_223), (9, .int r_242), (7, .int (nI q7_172)), (6, .int (nI q6_19)), (5, .int (-1)), (3, .int (nI (dn sn))), (0, .ref (a 0)), (1, .int (nI sn)), (2, .int p1)]) hx hb dX8_leastAll_153 hl (k := 2) rfl (nI_add q8_223 1) (by decide) rfl (fun ls hl => ?_)
                              refine lv_goto (tgt := 75) hx hb dX8_leastAll_156 (by decide) ?_
                              exact ih_223 _ (q8_223 + 1 + 1, be_223) _ _ _ (by omega) ⟨rfl, (by omega), hP, hS, (by rw [nI_pred]; exact lv_sub hl [0, 3, 4, 5, 1, 6, 7, 8, 9] rfl)⟩
                            · refine lv_iload hx hb dX8_leastAll_132 (lv_at hl 5 rfl) ?_
                              refine lv_if_lt (tgt := 144) hx hb dX8_leastAll_134 (by decide) (fun c_244 => ?_) (fun c_244 => ?_)
                              · refine lv_iload hx hb dX8_leastAll_144 (lv_at hl 0 rfl) ?_
                                refine lv_goto (tgt := 151) hx hb dX8_leastAll_146 (by decide) ?_
                                refine lv_istore (lv' := [(4, .int r_242), (9, .int r_242), (8, .int (nI q8_223)), (7, .int (nI q7_172)), (6, .int (nI q6_19)), (5, .int (-1)), (3, .int (nI (dn sn))), (0, .ref (a 0)), (1, .int (nI sn)), (2, .int p1)]) hx hb dX8_leastAll_151 hl (by decide) rfl (fun ls hl => ?_)
                                refine lv_iinc (v := (nI (q8_223 + 1))) (lv' := [(8, .int (nI (q8_223 + 1))), (4, .int r_242), (9, .int r_242), (7, .int (nI q7_172)), (6, .int (nI q6_19)), (5, .int (-1)), (3, .int (nI (dn sn))), (0, .ref (a 0)), (1, .int (nI sn)), (2, .int p1)]) hx hb dX8_leastAll_153 hl (k := 2) rfl (nI_add q8_223 1) (by decide) rfl (fun ls hl => ?_)
                                refine lv_goto (tgt := 75) hx hb dX8_leastAll_156 (by decide) ?_
                                exact ih_223 _ (q8_223 + 1 + 1, r_242) _ _ _ (by omega) ⟨rfl, (by omega), hP, hS, (by rw [nI_pred]; exact lv_sub hl [0, 3, 4, 5, 1, 6, 7, 8, 9] rfl)⟩
                              · refine lv_iload hx hb dX8_leastAll_137 (lv_at hl 0 rfl) ?_
                                refine lv_iload hx hb dX8_leastAll_139 (lv_at hl 5 rfl) ?_
                                refine lv_icmp_ge (tgt := 149) hx hb dX8_leastAll_141 (by decide) (fun c_245 => ?_) (fun c_245 => ?_)
                                · refine lv_iload hx hb dX8_leastAll_149 (lv_at hl 5 rfl) ?_
                                  refine lv_istore (lv' := [(4, .int be_223), (9, .int r_242), (8, .int (nI q8_223)), (7, .int (nI q7_172)), (6, .int (nI q6_19)), (5, .int (-1)), (3, .int (nI (dn sn))), (0, .ref (a 0)), (1, .int (nI sn)), (2, .int p1)]) hx hb dX8_leastAll_151 hl (by decide) rfl (fun ls hl => ?_)
                                  refine lv_iinc (v := (nI (q8_223 + 1))) (lv' := [(8, .int (nI (q8_223 + 1))), (4, .int be_223), (9, .int r_242), (7, .int (nI q7_172)), (6, .int (nI q6_19)), (5, .int (-1)), (3, .int (nI (dn sn))), (0, .ref (a 0)), (1, .int (nI sn)), (2, .int p1)]) hx hb dX8_leastAll_153 hl (k := 2) rfl (nI_add q8_223 1) (by decide) rfl (fun ls hl => ?_)
                                  refine lv_goto (tgt := 75) hx hb dX8_leastAll_156 (by decide) ?_
                                  exact ih_223 _ (q8_223 + 1 + 1, be_223) _ _ _ (by omega) ⟨rfl, (by omega), hP, hS, (by rw [nI_pred]; exact lv_sub hl [0, 3, 4, 5, 1, 6, 7, 8, 9] rfl)⟩
                                · refine lv_iload hx hb dX8_leastAll_144 (lv_at hl 0 rfl) ?_
                                  refine lv_goto (tgt := 151) hx hb dX8_leastAll_146 (by decide) ?_
                                  refine lv_istore (lv' := [(4, .int r_242), (9, .int r_242), (8, .int (nI q8_223)), (7, .int (nI q7_172)), (6, .int (nI q6_19)), (5, .int (-1)), (3, .int (nI (dn sn))), (0, .ref (a 0)), (1, .int (nI sn)), (2, .int p1)]) hx hb dX8_leastAll_151 hl (by decide) rfl (fun ls hl => ?_)
                                  refine lv_iinc (v := (nI (q8_223 + 1))) (lv' := [(8, .int (nI (q8_223 + 1))), (4, .int r_242), (9, .int r_242), (7, .int (nI q7_172)), (6, .int (nI q6_19)), (5, .int (-1)), (3, .int (nI (dn sn))), (0, .ref (a 0)), (1, .int (nI sn)), (2, .int p1)]) hx hb dX8_leastAll_153 hl (k := 2) rfl (nI_add q8_223 1) (by decide) rfl (fun ls hl => ?_)
                                  refine lv_goto (tgt := 75) hx hb dX8_leastAll_156 (by decide) ?_
                                  exact ih_223 _ (q8_223 + 1 + 1, r_242) _ _ _ (by omega) ⟨rfl, (by omega), hP, hS, (by rw [nI_pred]; exact lv_sub hl [0, 3, 4, 5, 1, 6, 7, 8, 9] rfl)⟩
  · rw [nI_pred] at hl
    refine lv_iload hx hb dX8_leastAll_13 (lv_at hl 0 rfl) ?_
    refine lv_aload_n hx hb dX8_leastAll_15 rfl (lv_at hl 3 rfl) ?_
    refine va_get (D := D) (ci := 8) (v := .int (nI ca)) (C := RX8) (T := TX8) (N := 44) hx hb hts inX8 hown hK hP 0 rfl rfl 34 (by decide) (hts _ tw_1007) (fun _ h9 => h9) rfl dX8_leastAll_16 ?_
    refine lv_if_le (tgt := 26) hx hb dX8_leastAll_19 (by decide) (fun c_246 => ?_) (fun c_246 => ?_)
    · have c_246 := (nI_leI (a := ca) (b := 0) (by omega) (by omega)).mp c_246
      refine lv_iconst (v := 0) hx hb dX8_leastAll_26 (by decide) ?_
      refine lv_icmp_ge (tgt := 177) hx hb dX8_leastAll_27 (by decide) (fun _ => ?_) (fun h => absurd (nI_ge0 (by omega)) h)
      refine lv_iload hx hb dX8_leastAll_177 (lv_at hl 1 rfl) ?_
      exact W.iret (v := be_1) hx hb hr (fun t ht hW => ⟨⟨be_1, (), rfl, trivial, trivial⟩, hS.F ht⟩) hS.2.2 dX8_leastAll_179
    · have c_246 : ¬ (ca ≤ 0) := fun h => c_246 ((nI_leI (a := ca) (b := 0) (by omega) (by omega)).mpr h)
      refine lv_iload_n hx hb dX8_leastAll_22 rfl (lv_at hl 2 rfl) ?_
      refine lv_goto (tgt := 27) hx hb dX8_leastAll_23 (by decide) ?_
      refine lv_icmp_ge (tgt := 177) hx hb dX8_leastAll_27 (by decide) (fun c_247 => ?_) (fun c_247 => ?_)
      · have c_247 := (nI_leI (a := (dn sn)) (b := q5_1) (by omega) (by omega)).mp c_247
        refine lv_iload hx hb dX8_leastAll_177 (lv_at hl 1 rfl) ?_
        exact W.iret (v := be_1) hx hb hr (fun t ht hW => ⟨⟨be_1, (), rfl, trivial, trivial⟩, hS.F ht⟩) hS.2.2 dX8_leastAll_179
      · have c_247 : ¬ ((dn sn) ≤ q5_1) := fun h => c_247 ((nI_leI (a := (dn sn)) (b := q5_1) (by omega) (by omega)).mpr h)
        refine lv_iconst (v := (-1)) hx hb dX8_leastAll_30 (by decide) ?_
        refine lv_istore (lv' := [(6, .int (-1)), (5, .int (nI q5_1)), (4, .int be_1), (3, .int (nI (dn sn))), (0, .ref (a 0)), (1, .int (nI sn)), (2, .int p1)]) hx hb dX8_leastAll_31 hl (by decide) rfl (fun ls hl => ?_)
        refine W_loop (σ := Nat × Int32) (fun (n_ : Nat) (x_ : Nat × Int32) (H : Heap) (locs : List Loc) (ls : Array Slot) => match x_ with | (q6_248, be_248) => n_ = 26 - q6_248 ∧ (q6_248 ≤ 25) ∧ va_P D classes [((a 0), .inr (8, (fX8 a (nI tx) fp (nI t0) wd (nI we) nu na (nI rd) ts (nI ru) (nI rw) (nI ca) df db sd))), (aI k (a 1) 3 (nF dn)), (aI k (a 4) 27 (sg se tm gs)), (aI k (a 3) 72 fprices), (aI k (a 36) 4 fwalks)] H ∧ va_S (fun q : Nat => s.heap.size ≤ q) s.heap H locs ∧ lv_has ls 10 [(6, .int (nI q6_248 - 1)), (5, .int (nI q5_1)), (4, .int be_248), (3, .int (nI (dn sn))), (0, .ref (a 0)), (1, .int (nI sn)), (2, .int p1)]) (fun n_248 x_248 H locs ls hI ih_248 => ?_) _ (0, be_1) ⟨rfl, (by omega), hP, hS, (by rw [dn0]; exact lv_sub hl [0, 1, 2, 3, 4, 5, 6] rfl)⟩
        obtain ⟨q6_248, be_248⟩ := x_248
        obtain ⟨hm_248, hv_248, hP, hS, hl⟩ := hI
        subst hm_248
        rcases q6_248 with _ | q6_248
        · rw [dn0] at hl
          refine lv_iload hx hb dX8_leastAll_33 (lv_at hl 0 rfl) ?_
          refine lv_aload_n hx hb dX8_leastAll_35 rfl (lv_at hl 4 rfl) ?_
          refine va_get (D := D) (ci := 8) (v := .int (nI ca)) (C := RX8) (T := TX8) (N := 44) hx hb hts inX8 hown hK hP 0 rfl rfl 34 (by decide) (hts _ tw_1007) (fun _ h9 => h9) rfl dX8_leastAll_36 ?_
          refine lv_iconst (v := 1) hx hb dX8_leastAll_39 (by decide) ?_
          refine lv_icmp_le (tgt := 47) hx hb dX8_leastAll_40 (by decide) (fun c_249 => ?_) (fun c_249 => ?_)
          · have c_249 := (nI_leI (a := ca) (b := 1) (by omega) (by omega)).mp c_249
            refine lv_iconst (v := 0) hx hb dX8_leastAll_47 (by decide) ?_
            refine lv_icmp_ge (tgt := 171) hx hb dX8_leastAll_48 (by decide) (fun h => absurd h (by decide)) (fun _ => ?_)
            refine lv_iconst (v := (-1)) hx hb dX8_leastAll_51 (by decide) ?_
            refine lv_istore (lv' := [(7, .int (-1)), (6, .int (-1)), (5, .int (nI q5_1)), (4, .int be_248), (3, .int (nI (dn sn))), (0, .ref (a 0)), (1, .int (nI sn)), (2, .int p1)]) hx hb dX8_leastAll_52 hl (by decide) rfl (fun ls hl => ?_)
            refine W_loop (σ := Nat × Int32) (fun (n_ : Nat) (x_ : Nat × Int32) (H : Heap) (locs : List Loc) (ls : Array Slot) => match x_ with | (q7_250, be_250) => n_ = 26 - q7_250 ∧ (q7_250 ≤ 25) ∧ va_P D classes [((a 0), .inr (8, (fX8 a (nI tx) fp (nI t0) wd (nI we) nu na (nI rd) ts (nI ru) (nI rw) (nI ca) df db sd))), (aI k (a 1) 3 (nF dn)), (aI k (a 4) 27 (sg se tm gs)), (aI k (a 3) 72 fprices), (aI k (a 36) 4 fwalks)] H ∧ va_S (fun q : Nat => s.heap.size ≤ q) s.heap H locs ∧ lv_has ls 10 [(7, .int (nI q7_250 - 1)), (6, .int (-1)), (5, .int (nI q5_1)), (4, .int be_250), (3, .int (nI (dn sn))), (0, .ref (a 0)), (1, .int (nI sn)), (2, .int p1)]) (fun n_250 x_250 H locs ls hI ih_250 => ?_) _ (0, be_248) ⟨rfl, (by omega), hP, hS, (by rw [dn0]; exact lv_sub hl [0, 1, 2, 3, 4, 5, 6, 7] rfl)⟩
            obtain ⟨q7_250, be_250⟩ := x_250
            obtain ⟨hm_250, hv_250, hP, hS, hl⟩ := hI
            subst hm_250
            rcases q7_250 with _ | q7_250
            · rw [dn0] at hl
              refine lv_iload hx hb dX8_leastAll_54 (lv_at hl 0 rfl) ?_
              refine lv_aload_n hx hb dX8_leastAll_56 rfl (lv_at hl 5 rfl) ?_
              refine va_get (D := D) (ci := 8) (v := .int (nI ca)) (C := RX8) (T := TX8) (N := 44) hx hb hts inX8 hown hK hP 0 rfl rfl 34 (by decide) (hts _ tw_1007) (fun _ h9 => h9) rfl dX8_leastAll_57 ?_
              refine lv_iconst (v := 2) hx hb dX8_leastAll_60 (by decide) ?_
              refine lv_icmp_le (tgt := 68) hx hb dX8_leastAll_61 (by decide) (fun c_251 => ?_) (fun c_251 => ?_)
              · have c_251 := (nI_leI (a := ca) (b := 2) (by omega) (by omega)).mp c_251
                refine lv_iconst (v := 0) hx hb dX8_leastAll_68 (by decide) ?_
                refine lv_icmp_ge (tgt := 165) hx hb dX8_leastAll_69 (by decide) (fun h => absurd h (by decide)) (fun _ => ?_)
                refine lv_iconst (v := (-1)) hx hb dX8_leastAll_72 (by decide) ?_
                refine lv_istore (lv' := [(8, .int (-1)), (7, .int (-1)), (6, .int (-1)), (5, .int (nI q5_1)), (4, .int be_250), (3, .int (nI (dn sn))), (0, .ref (a 0)), (1, .int (nI sn)), (2, .int p1)]) hx hb dX8_leastAll_73 hl (by decide) rfl (fun ls hl => ?_)
                refine W_loop (σ := Nat × Int32) (fun (n_ : Nat) (x_ : Nat × Int32) (H : Heap) (locs : List Loc) (ls : Array Slot) => match x_ with | (q8_252, be_252) => n_ = 26 - q8_252 ∧ (q8_252 ≤ 25) ∧ va_P D classes [((a 0), .inr (8, (fX8 a (nI tx) fp (nI t0) wd (nI we) nu na (nI rd) ts (nI ru) (nI rw) (nI ca) df db sd))), (aI k (a 1) 3 (nF dn)), (aI k (a 4) 27 (sg se tm gs)), (aI k (a 3) 72 fprices), (aI k (a 36) 4 fwalks)] H ∧ va_S (fun q : Nat => s.heap.size ≤ q) s.heap H locs ∧ lv_has ls 10 [(8, .int (nI q8_252 - 1)), (7, .int (-1)), (6, .int (-1)), (5, .int (nI q5_1)), (4, .int be_252), (3, .int (nI (dn sn))), (0, .ref (a 0)), (1, .int (nI sn)), (2, .int p1)]) (fun n_252 x_252 H locs ls hI ih_252 => ?_) _ (0, be_250) ⟨rfl, (by omega), hP, hS, (by rw [dn0]; exact lv_sub hl [0, 1, 2, 3, 4, 5, 6, 7, 8] rfl)⟩
                obtain ⟨q8_252, be_252⟩ := x_252
                obtain ⟨hm_252, hv_252, hP, hS, hl⟩ := hI
                subst hm_252
                rcases q8_252 with _ | q8_252
                · rw [dn0] at hl
                  refine lv_iload hx hb dX8_leastAll_75 (lv_at hl 0 rfl) ?_
                  refine lv_aload_n hx hb dX8_leastAll_77 rfl (lv_at hl 6 rfl) ?_
                  refine va_get (D := D) (ci := 8) (v := .int (nI ca)) (C := RX8) (T := TX8) (N := 44) hx hb hts inX8 hown hK hP 0 rfl rfl 34 (by decide) (hts _ tw_1007) (fun _ h9 => h9) rfl dX8_leastAll_78 ?_
                  refine lv_iconst (v := 3) hx hb dX8_leastAll_81 (by decide) ?_
                  refine lv_icmp_le (tgt := 89) hx hb dX8_leastAll_82 (by decide) (fun c_253 => ?_) (fun c_253 => ?_)
                  · have c_253 := (nI_leI (a := ca) (b := 3) (by omega) (by omega)).mp c_253
                    refine lv_iconst (v := 0) hx hb dX8_leastAll_89 (by decide) ?_
                    refine lv_icmp_ge (tgt := 159) hx hb dX8_leastAll_90 (by decide) (fun h => absurd h (by decide)) (fun _ => ?_)
                    refine lv_iload_n hx hb dX8_leastAll_93 rfl (lv_at hl 8 rfl) ?_
                    refine lv_iload hx hb dX8_leastAll_94 (lv_at hl 3 rfl) ?_
                    refine lv_iload hx hb dX8_leastAll_96 (lv_at hl 2 rfl) ?_
                    refine lv_iload hx hb dX8_leastAll_98 (lv_at hl 1 rfl) ?_
                    refine lv_iload hx hb dX8_leastAll_100 (lv_at hl 0 rfl) ?_
                    refine ro_i (D := D) (va_runS (As := [.int p1, .int (nI q5_1), .int (-1), .int (-1), .int (-1)]) (rest := []) ⟨hx, hb, hml, hown, hts⟩ ((m_canAll l D k st lo p1 (nI q5_1) (-1) (-1) (-1)) H.size) (va_cwS 5 hts (gS tw_1450 tw_1451 tw_87 tw_1452) rfl rfl rfl (by decide +kernel) ⟨Nat.le_of_ble_eq_true rfl, Nat.le_of_ble_eq_true rfl⟩) (pS hS hAlo hlo hP hK hDL hZ [] (by decide) rfl) rfl rfl hl.1 rfl (lv_room (Nat.le_of_ble_eq_true rfl)) dX8_leastAll_102 ⟨Nat.le_of_ble_eq_true rfl, Nat.le_of_ble_eq_true rfl⟩) hS hA hP (fun r_254 H locs hw_254 hP hS => ?_)
                    try dsimp only at hw_254
                    refine lv_if_eq (tgt := 124) hx hb dX8_leastAll_105 (by decide) (fun c_255 => ?_) (fun c_255 => ?_)
                    · refine lv_iconst (v := (-1)) hx hb dX8_leastAll_124 (by decide) ?_
                      refine lv_istore (lv' := [(9, .int (-1)), (8, .int (-1)), (7, .int (-1)), (6, .int (-1)), (5, .int (nI q5_1)), (4, .int be_252), (3, .int (nI (dn sn))), (0, .ref (a 0)), (1, .int (nI sn)), (2, .int p1)]) hx hb dX8_leastAll_125 hl (by decide) rfl (fun ls hl => ?_)
                      refine lv_iload hx hb dX8_leastAll_127 (lv_at hl 0 rfl) ?_
                      refine lv_if_lt (tgt := 149) hx hb dX8_leastAll_129 (by decide) (fun _ => ?_) (fun h => absurd (by decide) h)
                      refine lv_iload hx hb dX8_leastAll_149 (lv_at hl 5 rfl) ?_
                      refine lv_istore (lv' := [(4, .int be_252), (9, .int (-1)), (8, .int (-1)), (7, .int (-1)), (6, .int (-1)), (5, .int (nI q5_1)), (3, .int (nI (dn sn))), (0, .ref (a 0)), (1, .int (nI sn)), (2, .int p1)]) hx hb dX8_leastAll_151 hl (by decide) rfl (fun ls hl => ?_)
                      refine lv_iinc (v := 0) (lv' := [(8, .int 0), (4, .int be_252), (9, .int (-1)), (7, .int (-1)), (6, .int (-1)), (5, .int (nI q5_1)), (3, .int (nI (dn sn))), (0, .ref (a 0)), (1, .int (nI sn)), (2, .int p1)]) hx hb dX8_leastAll_153 hl (k := 2) rfl (by decide) (by decide) rfl (fun ls hl => ?_)
                      refine lv_goto (tgt := 75) hx hb dX8_leastAll_156 (by decide) ?_
                      exact ih_252 _ (1, be_252) _ _ _ (by omega) ⟨rfl, (by omega), hP, hS, (by rw [nI_pred]; exact lv_sub hl [0, 3, 4, 5, 1, 6, 7, 8, 9] rfl)⟩
                    · refine lv_aload_n hx hb dX8_leastAll_108 rfl (lv_at hl 6 rfl) ?_
                      refine lv_iload_n hx hb dX8_leastAll_109 rfl (lv_at hl 7 rfl) ?_
                      refine lv_iload hx hb dX8_leastAll_110 (lv_at hl 3 rfl) ?_
                      refine lv_iload hx hb dX8_leastAll_112 (lv_at hl 2 rfl) ?_
                      refine lv_iload hx hb dX8_leastAll_114 (lv_at hl 1 rfl) ?_
                      refine lv_iload hx hb dX8_leastAll_116 (lv_at hl 0 rfl) ?_
                      refine ro_i (D := D) (va_runV (As := [.int (nI sn), .int (nI q5_1), .int (-1), .int (-1), .int (-1)]) (rest := []) ⟨hx, hb, hml, hown, hts⟩ ((m_sumAll l D k st lo a tx t0 we rd ru rw ca fp wd nu na ts df db sd dn se tm gs fprices fwalks sn (nI q5_1) (-1) (-1) (-1) (by omega) (by omega) (.inr ⟨q5_1, by omega, rfl⟩) (.inl (by decide)) (.inl (by decide)) (.inl (by decide))) H.size) (cwV 5 hts (gV tw_1459 tw_1461 tw_75 tw_87 tw_1462) rfl rfl rfl (by decide +kernel) ⟨Nat.le_of_ble_eq_true rfl, Nat.le_of_ble_eq_true rfl⟩) (pV hS hAlo hlo hP hK hDL hZ [0, 1, 2, 3, 4] (by decide) rfl (ci := 8) (q := (RX8, TX8, 44)) (q0 := 0) rfl rfl) rfl rfl hl.1 rfl (lv_room (Nat.le_of_ble_eq_true rfl)) dX8_leastAll_118 ⟨Nat.le_of_ble_eq_true rfl, Nat.le_of_ble_eq_true rfl⟩) hS hA hP (fun r_256 H locs hw_256 hP hS => ?_)
                      try dsimp only at hw_256
                      refine lv_goto (tgt := 125) hx hb dX8_leastAll_121 (by decide) ?_
                      refine lv_istore (lv' := [(9, .int r_256), (8, .int (-1)), (7, .int (-1)), (6, .int (-1)), (5, .int (nI q5_1)), (4, .int be_252), (3, .int (nI (dn sn))), (0, .ref (a 0)), (1, .int (nI sn)), (2, .int p1)]) hx hb dX8_leastAll_125 hl (by decide) rfl (fun ls hl => ?_)
                      refine lv_iload hx hb dX8_leastAll_127 (lv_at hl 0 rfl) ?_
                      refine lv_if_lt (tgt := 149) hx hb dX8_leastAll_129 (by decide) (fun c_257 => ?_) (fun c_257 => ?_)
                      · refine lv_iload hx hb dX8_leastAll_149 (lv_at hl 5 rfl) ?_
                        refine lv_istore (lv' := [(4, .int be_252), (9, .int r_256), (8, .int (-1)), (7, .int (-1)), (6, .int (-1)), (5, .int (nI q5_1)), (3, .int (nI (dn sn))), (0, .ref (a 0)), (1, .int (nI sn)), (2, .int p1)]) hx hb dX8_leastAll_151 hl (by decide) rfl (fun ls hl => ?_)
                        refine lv_iinc (v := 0) (lv' := [(8, .int 0), (4, .int be_252), (9, .int r_256), (7, .int (-1)), (6, .int (-1)), (5, .int (nI q5_1)), (3, .int (nI (dn sn))), (0, .ref (a 0)), (1, .int (nI sn)), (2, .int p1)]) hx hb dX8_leastAll_153 hl (k := 2) rfl (by decide) (by decide) rfl (fun ls hl => ?_)
                        refine lv_goto (tgt := 75) hx hb dX8_leastAll_156 (by decide) ?_
                        exact ih_252 _ (1, be_252) _ _ _ (by omega) ⟨rfl, (by omega), hP, hS, (by rw [nI_pred]; exact lv_sub hl [0, 3, 4, 5, 1, 6, 7, 8, 9] rfl)⟩
                      · refine lv_iload hx hb dX8_leastAll_132 (lv_at hl 5 rfl) ?_
                        refine lv_if_lt (tgt := 144) hx hb dX8_leastAll_134 (by decide) (fun c_258 => ?_) (fun c_258 => ?_)
                        · refine lv_iload hx hb dX8_leastAll_144 (lv_at hl 0 rfl) ?_
                          refine lv_goto (tgt := 151) hx hb dX8_leastAll_146 (by decide) ?_
                          refine lv_istore (lv' := [(4, .int r_256), (9, .int r_256), (8, .int (-1)), (7, .int (-1)), (6, .int (-1)), (5, .int (nI q5_1)), (3, .int (nI (dn sn))), (0, .ref (a 0)), (1, .int (nI sn)), (2, .int p1)]) hx hb dX8_leastAll_151 hl (by decide) rfl (fun ls hl => ?_)
                          refine lv_iinc (v := 0) (lv' := [(8, .int 0), (4, .int r_256), (9, .int r_256), (7, .int (-1)), (6, .int (-1)), (5, .int (nI q5_1)), (3, .int (nI (dn sn))), (0, .ref (a 0)), (1, .int (nI sn)), (2, .int p1)]) hx hb dX8_leastAll_153 hl (k := 2) rfl (by decide) (by decide) rfl (fun ls hl => ?_)
                          refine lv_goto (tgt := 75) hx hb dX8_leastAll_156 (by decide) ?_
                          exact ih_252 _ (1, r_256) _ _ _ (by omega) ⟨rfl, (by omega), hP, hS, (by rw [nI_pred]; exact lv_sub hl [0, 3, 4, 5, 1, 6, 7, 8, 9] rfl)⟩
                        · refine lv_iload hx hb dX8_leastAll_137 (lv_at hl 0 rfl) ?_
                          refine lv_iload hx hb dX8_leastAll_139 (lv_at hl 5 rfl) ?_
                          refine lv_icmp_ge (tgt := 149) hx hb dX8_leastAll_141 (by decide) (fun c_259 => ?_) (fun c_259 => ?_)
                          · refine lv_iload hx hb dX8_leastAll_149 (lv_at hl 5 rfl) ?_
                            refine lv_istore (lv' := [(4, .int be_252), (9, .int r_256), (8, .int (-1)), (7, .int (-1)), (6, .int (-1)), (5, .int (nI q5_1)), (3, .int (nI (dn sn))), (0, .ref (a 0)), (1, .int (nI sn)), (2, .int p1)]) hx hb dX8_leastAll_151 hl (by decide) rfl (fun ls hl => ?_)
                            refine lv_iinc (v := 0) (lv' := [(8, .int 0), (4, .int be_252), (9, .int r_256), (7, .int (-1)), (6, .int (-1)), (5, .int (nI q5_1)), (3, .int (nI (dn sn))), (0, .ref (a 0)), (1, .int (nI sn)), (2, .int p1)]) hx hb dX8_leastAll_153 hl (k := 2) rfl (by decide) (by decide) rfl (fun ls hl => ?_)
                            refine lv_goto (tgt := 75) hx hb dX8_leastAll_156 (by decide) ?_
                            exact ih_252 _ (1, be_252) _ _ _ (by omega) ⟨rfl, (by omega), hP, hS, (by rw [nI_pred]; exact lv_sub hl [0, 3, 4, 5, 1, 6, 7, 8, 9] rfl)⟩
                          · refine lv_iload hx hb dX8_leastAll_144 (lv_at hl 0 rfl) ?_
                            refine lv_goto (tgt := 151) hx hb dX8_leastAll_146 (by decide) ?_
                            refine lv_istore (lv' := [(4, .int r_256), (9, .int r_256), (8, .int (-1)), (7, .int (-1)), (6, .int (-1)), (5, .int (nI q5_1)), (3, .int (nI (dn sn))), (0, .ref (a 0)), (1, .int (nI sn)), (2, .int p1)]) hx hb dX8_leastAll_151 hl (by decide) rfl (fun ls hl => ?_)
                            refine lv_iinc (v := 0) (lv' := [(8, .int 0), (4, .int r_256), (9, .int r_256), (7, .int (-1)), (6, .int (-1)), (5, .int (nI q5_1)), (3, .int (nI (dn sn))), (0, .ref (a 0)), (1, .int (nI sn)), (2, .int p1)]) hx hb dX8_leastAll_153 hl (k := 2) rfl (by decide) (by decide) rfl (fun ls hl => ?_)
                            refine lv_goto (tgt := 75) hx hb dX8_leastAll_156 (by decide) ?_
                            exact ih_252 _ (1, r_256) _ _ _ (by omega) ⟨rfl, (by omega), hP, hS, (by rw [nI_pred]; exact lv_sub hl [0, 3, 4, 5, 1, 6, 7, 8, 9] rfl)⟩
                  · have c_253 : ¬ (ca ≤ 3) := fun h => c_253 ((nI_leI (a := ca) (b := 3) (by omega) (by omega)).mpr h)
                    refine lv_iload_n hx hb dX8_leastAll_85 rfl (lv_at hl 5 rfl) ?_
                    refine lv_goto (tgt := 90) hx hb dX8_leastAll_86 (by decide) ?_
                    refine lv_icmp_ge (tgt := 159) hx hb dX8_leastAll_90 (by decide) (fun c_260 => ?_) (fun c_260 => ?_)
                    · refine lv_iinc (v := 0) (lv' := [(7, .int 0), (8, .int (-1)), (6, .int (-1)), (5, .int (nI q5_1)), (4, .int be_252), (3, .int (nI (dn sn))), (0, .ref (a 0)), (1, .int (nI sn)), (2, .int p1)]) hx hb dX8_leastAll_159 hl (k := 1) rfl (by decide) (by decide) rfl (fun ls hl => ?_)
                      refine lv_goto (tgt := 54) hx hb dX8_leastAll_162 (by decide) ?_
                      exact ih_250 _ (1, be_252) _ _ _ (by omega) ⟨rfl, (by omega), hP, hS, (by rw [nI_pred]; exact lv_sub hl [0, 2, 3, 4, 5, 6, 7, 8] rfl)⟩
                    · refine lv_iload_n hx hb dX8_leastAll_93 rfl (lv_at hl 8 rfl) ?_
                      refine lv_iload hx hb dX8_leastAll_94 (lv_at hl 3 rfl) ?_
                      refine lv_iload hx hb dX8_leastAll_96 (lv_at hl 2 rfl) ?_
                      refine lv_iload hx hb dX8_leastAll_98 (lv_at hl 1 rfl) ?_
                      refine lv_iload hx hb dX8_leastAll_100 (lv_at hl 0 rfl) ?_
                      refine ro_i (D := D) (va_runS (As := [.int p1, .int (nI q5_1), .int (-1), .int (-1), .int (-1)]) (rest := []) ⟨hx, hb, hml, hown, hts⟩ ((m_canAll l D k st lo p1 (nI q5_1) (-1) (-1) (-1)) H.size) (va_cwS 5 hts (gS tw_1450 tw_1451 tw_87 tw_1452) rfl rfl rfl (by decide +kernel) ⟨Nat.le_of_ble_eq_true rfl, Nat.le_of_ble_eq_true rfl⟩) (pS hS hAlo hlo hP hK hDL hZ [] (by decide) rfl) rfl rfl hl.1 rfl (lv_room (Nat.le_of_ble_eq_true rfl)) dX8_leastAll_102 ⟨Nat.le_of_ble_eq_true rfl, Nat.le_of_ble_eq_true rfl⟩) hS hA hP (fun r_261 H locs hw_261 hP hS => ?_)
                      try dsimp only at hw_261
                      refine lv_if_eq (tgt := 124) hx hb dX8_leastAll_105 (by decide) (fun c_262 => ?_) (fun c_262 => ?_)
                      · refine lv_iconst (v := (-1)) hx hb dX8_leastAll_124 (by decide) ?_
                        refine lv_istore (lv' := [(9, .int (-1)), (8, .int (-1)), (7, .int (-1)), (6, .int (-1)), (5, .int (nI q5_1)), (4, .int be_252), (3, .int (nI (dn sn))), (0, .ref (a 0)), (1, .int (nI sn)), (2, .int p1)]) hx hb dX8_leastAll_125 hl (by decide) rfl (fun ls hl => ?_)
                        refine lv_iload hx hb dX8_leastAll_127 (lv_at hl 0 rfl) ?_
                        refine lv_if_lt (tgt := 149) hx hb dX8_leastAll_129 (by decide) (fun _ => ?_) (fun h => absurd (by decide) h)
                        refine lv_iload hx hb dX8_leastAll_149 (lv_at hl 5 rfl) ?_
                        refine lv_istore (lv' := [(4, .int be_252), (9, .int (-1)), (8, .int (-1)), (7, .int (-1)), (6, .int (-1)), (5, .int (nI q5_1)), (3, .int (nI (dn sn))), (0, .ref (a 0)), (1, .int (nI sn)), (2, .int p1)]) hx hb dX8_leastAll_151 hl (by decide) rfl (fun ls hl => ?_)
                        refine lv_iinc (v := 0) (lv' := [(8, .int 0), (4, .int be_252), (9, .int (-1)), (7, .int (-1)), (6, .int (-1)), (5, .int (nI q5_1)), (3, .int (nI (dn sn))), (0, .ref (a 0)), (1, .int (nI sn)), (2, .int p1)]) hx hb dX8_leastAll_153 hl (k := 2) rfl (by decide) (by decide) rfl (fun ls hl => ?_)
                        refine lv_goto (tgt := 75) hx hb dX8_leastAll_156 (by decide) ?_
                        exact ih_252 _ (1, be_252) _ _ _ (by omega) ⟨rfl, (by omega), hP, hS, (by rw [nI_pred]; exact lv_sub hl [0, 3, 4, 5, 1, 6, 7, 8, 9] rfl)⟩
                      · refine lv_aload_n hx hb dX8_leastAll_108 rfl (lv_at hl 6 rfl) ?_
                        refine lv_iload_n hx hb dX8_leastAll_109 rfl (lv_at hl 7 rfl) ?_
                        refine lv_iload hx hb dX8_leastAll_110 (lv_at hl 3 rfl) ?_
                        refine lv_iload hx hb dX8_leastAll_112 (lv_at hl 2 rfl) ?_
                        refine lv_iload hx hb dX8_leastAll_114 (lv_at hl 1 rfl) ?_
                        refine lv_iload hx hb dX8_leastAll_116 (lv_at hl 0 rfl) ?_
                        refine ro_i (D := D) (va_runV (As := [.int (nI sn), .int (nI q5_1), .int (-1), .int (-1), .int (-1)]) (rest := []) ⟨hx, hb, hml, hown, hts⟩ ((m_sumAll l D k st lo a tx t0 we rd ru rw ca fp wd nu na ts df db sd dn se tm gs fprices fwalks sn (nI q5_1) (-1) (-1) (-1) (by omega) (by omega) (.inr ⟨q5_1, by omega, rfl⟩) (.inl (by decide)) (.inl (by decide)) (.inl (by decide))) H.size) (cwV 5 hts (gV tw_1459 tw_1461 tw_75 tw_87 tw_1462) rfl rfl rfl (by decide +kernel) ⟨Nat.le_of_ble_eq_true rfl, Nat.le_of_ble_eq_true rfl⟩) (pV hS hAlo hlo hP hK hDL hZ [0, 1, 2, 3, 4] (by decide) rfl (ci := 8) (q := (RX8, TX8, 44)) (q0 := 0) rfl rfl) rfl rfl hl.1 rfl (lv_room (Nat.le_of_ble_eq_true rfl)) dX8_leastAll_118 ⟨Nat.le_of_ble_eq_true rfl, Nat.le_of_ble_eq_true rfl⟩) hS hA hP (fun r_263 H locs hw_263 hP hS => ?_)
                        try dsimp only at hw_263
                        refine lv_goto (tgt := 125) hx hb dX8_leastAll_121 (by decide) ?_
                        refine lv_istore (lv' := [(9, .int r_263), (8, .int (-1)), (7, .int (-1)), (6, .int (-1)), (5, .int (nI q5_1)), (4, .int be_252), (3, .int (nI (dn sn))), (0, .ref (a 0)), (1, .int (nI sn)), (2, .int p1)]) hx hb dX8_leastAll_125 hl (by decide) rfl (fun ls hl => ?_)
                        refine lv_iload hx hb dX8_leastAll_127 (lv_at hl 0 rfl) ?_
                        refine lv_if_lt (tgt := 149) hx hb dX8_leastAll_129 (by decide) (fun c_264 => ?_) (fun c_264 => ?_)
                        · refine lv_iload hx hb dX8_leastAll_149 (lv_at hl 5 rfl) ?_
                          refine lv_istore (lv' := [(4, .int be_252), (9, .int r_263), (8, .int (-1)), (7, .int (-1)), (6, .int (-1)), (5, .int (nI q5_1)), (3, .int (nI (dn sn))), (0, .ref (a 0)), (1, .int (nI sn)), (2, .int p1)]) hx hb dX8_leastAll_151 hl (by decide) rfl (fun ls hl => ?_)
                          refine lv_iinc (v := 0) (lv' := [(8, .int 0), (4, .int be_252), (9, .int r_263), (7, .int (-1)), (6, .int (-1)), (5, .int (nI q5_1)), (3, .int (nI (dn sn))), (0, .ref (a 0)), (1, .int (nI sn)), (2, .int p1)]) hx hb dX8_leastAll_153 hl (k := 2) rfl (by decide) (by decide) rfl (fun ls hl => ?_)
                          refine lv_goto (tgt := 75) hx hb dX8_leastAll_156 (by decide) ?_
                          exact ih_252 _ (1, be_252) _ _ _ (by omega) ⟨rfl, (by omega), hP, hS, (by rw [nI_pred]; exact lv_sub hl [0, 3, 4, 5, 1, 6, 7, 8, 9] rfl)⟩
                        · refine lv_iload hx hb dX8_leastAll_132 (lv_at hl 5 rfl) ?_
                          refine lv_if_lt (tgt := 144) hx hb dX8_leastAll_134 (by decide) (fun c_265 => ?_) (fun c_265 => ?_)
                          · refine lv_iload hx hb dX8_leastAll_144 (lv_at hl 0 rfl) ?_
                            refine lv_goto (tgt := 151) hx hb dX8_leastAll_146 (by decide) ?_
                            refine lv_istore (lv' := [(4, .int r_263), (9, .int r_263), (8, .int (-1)), (7, .int (-1)), (6, .int (-1)), (5, .int (nI q5_1)), (3, .int (nI (dn sn))), (0, .ref (a 0)), (1, .int (nI sn)), (2, .int p1)]) hx hb dX8_leastAll_151 hl (by decide) rfl (fun ls hl => ?_)
                            refine lv_iinc (v := 0) (lv' := [(8, .int 0), (4, .int r_263), (9, .int r_263), (7, .int (-1)), (6, .int (-1)), (5, .int (nI q5_1)), (3, .int (nI (dn sn))), (0, .ref (a 0)), (1, .int (nI sn)), (2, .int p1)]) hx hb dX8_leastAll_153 hl (k := 2) rfl (by decide) (by decide) rfl (fun ls hl => ?_)
                            refine lv_goto (tgt := 75) hx hb dX8_leastAll_156 (by decide) ?_
                            exact ih_252 _ (1, r_263) _ _ _ (by omega) ⟨rfl, (by omega), hP, hS, (by rw [nI_pred]; exact lv_sub hl [0, 3, 4, 5, 1, 6, 7, 8, 9] rfl)⟩
                          · refine lv_iload hx hb dX8_leastAll_137 (lv_at hl 0 rfl) ?_
                            refine lv_iload hx hb dX8_leastAll_139 (lv_at hl 5 rfl) ?_
                            refine lv_icmp_ge (tgt := 149) hx hb dX8_leastAll_141 (by decide) (fun c_266 => ?_) (fun c_266 => ?_)
                            · refine lv_iload hx hb dX8_leastAll_149 (lv_at hl 5 rfl) ?_
                              refine lv_istore (lv' := [(4, .int be_252), (9, .int r_263), (8, .int (-1)), (7, .int (-1)), (6, .int (-1)), (5, .int (nI q5_1)), (3, .int (nI (dn sn))), (0, .ref (a 0)), (1, .int (nI sn)), (2, .int p1)]) hx hb dX8_leastAll_151 hl (by decide) rfl (fun ls hl => ?_)
                              refine lv_iinc (v := 0) (lv' := [(8, .int 0), (4, .int be_252), (9, .int r_263), (7, .int (-1)), (6, .int (-1)), (5, .int (nI q5_1)), (3, .int (nI (dn sn))), (0, .ref (a 0)), (1, .int (nI sn)), (2, .int p1)]) hx hb dX8_leastAll_153 hl (k := 2) rfl (by decide) (by decide) rfl (fun ls hl => ?_)
                              refine lv_goto (tgt := 75) hx hb dX8_leastAll_156 (by decide) ?_
                              exact ih_252 _ (1, be_252) _ _ _ (by omega) ⟨rfl, (by omega), hP, hS, (by rw [nI_pred]; exact lv_sub hl [0, 3, 4, 5, 1, 6, 7, 8, 9] rfl)⟩
                            · refine lv_iload hx hb dX8_leastAll_144 (lv_at hl 0 rfl) ?_
                              refine lv_goto (tgt := 151) hx hb dX8_leastAll_146 (by decide) ?_
                              refine lv_istore (lv' := [(4, .int r_263), (9, .int r_263), (8, .int (-1)), (7, .int (-1)), (6, .int (-1)), (5, .int (nI q5_1)), (3, .int (nI (dn sn))), (0, .ref (a 0)), (1, .int (nI sn)), (2, .int p1)]) hx hb dX8_leastAll_151 hl (by decide) rfl (fun ls hl => ?_)
                              refine lv_iinc (v := 0) (lv' := [(8, .int 0), (4, .int r_263), (9, .int r_263), (7, .int (-1)), (6, .int (-1)), (5, .int (nI q5_1)), (3, .int (nI (dn sn))), (0, .ref (a 0)), (1, .int (nI sn)), (2, .int p1)]) hx hb dX8_leastAll_153 hl (k := 2) rfl (by decide) (by decide) rfl (fun ls hl => ?_)
                              refine lv_goto (tgt := 75) hx hb dX8_leastAll_156 (by decide) ?_
                              exact ih_252 _ (1, r_263) _ _ _ (by omega) ⟨rfl, (by omega), hP, hS, (by rw [nI_pred]; exact lv_sub hl [0, 3, 4, 5, 1, 6, 7, 8, 9] rfl)⟩
                · rw [nI_pred] at hl
                  refine lv_iload hx hb dX8_leastAll_75 (lv_at hl 0 rfl) ?_
                  refine lv_aload_n hx hb dX8_leastAll_77 rfl (lv_at hl 6 rfl) ?_
                  refine va_get (D := D) (ci := 8) (v := .int (nI ca)) (C := RX8) (T := TX8) (N := 44) hx hb hts inX8 hown hK hP 0 rfl rfl 34 (by decide) (hts _ tw_1007) (fun _ h9 => h9) rfl dX8_leastAll_78 ?_
                  refine lv_iconst (v := 3) hx hb dX8_leastAll_81 (by decide) ?_
                  refine lv_icmp_le (tgt := 89) hx hb dX8_leastAll_82 (by decide) (fun c_267 => ?_) (fun c_267 => ?_)
                  · have c_267 := (nI_leI (a := ca) (b := 3) (by omega) (by omega)).mp c_267
                    refine lv_iconst (v := 0) hx hb dX8_leastAll_89 (by decide) ?_
                    refine lv_icmp_ge (tgt := 159) hx hb dX8_leastAll_90 (by decide) (fun _ => ?_) (fun h => absurd (nI_ge0 (by omega)) h)
                    refine lv_iinc (v := 0) (lv' := [(7, .int 0), (8, .int (nI q8_252)), (6, .int (-1)), (5, .int (nI q5_1)), (4, .int be_252), (3, .int (nI (dn sn))), (0, .ref (a 0)), (1, .int (nI sn)), (2, .int p1)]) hx hb dX8_leastAll_159 hl (k := 1) rfl (by decide) (by decide) rfl (fun ls hl => ?_)
                    refine lv_goto (tgt := 54) hx hb dX8_leastAll_162 (by decide) ?_
                    exact ih_250 _ (1, be_252) _ _ _ (by omega) ⟨rfl, (by omega), hP, hS, (by rw [nI_pred]; exact lv_sub hl [0, 2, 3, 4, 5, 6, 7, 8] rfl)⟩
                  · have c_267 : ¬ (ca ≤ 3) := fun h => c_267 ((nI_leI (a := ca) (b := 3) (by omega) (by omega)).mpr h)
                    refine lv_iload_n hx hb dX8_leastAll_85 rfl (lv_at hl 5 rfl) ?_
                    refine lv_goto (tgt := 90) hx hb dX8_leastAll_86 (by decide) ?_
                    refine lv_icmp_ge (tgt := 159) hx hb dX8_leastAll_90 (by decide) (fun c_268 => ?_) (fun c_268 => ?_)
                    · have c_268 := (nI_leI (a := (dn sn)) (b := q8_252) (by omega) (by omega)).mp c_268
                      refine lv_iinc (v := 0) (lv' := [(7, .int 0), (8, .int (nI q8_252)), (6, .int (-1)), (5, .int (nI q5_1)), (4, .int be_252), (3, .int (nI (dn sn))), (0, .ref (a 0)), (1, .int (nI sn)), (2, .int p1)]) hx hb dX8_leastAll_159 hl (k := 1) rfl (by decide) (by decide) rfl (fun ls hl => ?_)
                      refine lv_goto (tgt := 54) hx hb dX8_leastAll_162 (by decide) ?_
                      exact ih_250 _ (1, be_252) _ _ _ (by omega) ⟨rfl, (by omega), hP, hS, (by rw [nI_pred]; exact lv_sub hl [0, 2, 3, 4, 5, 6, 7, 8] rfl)⟩
                    · have c_268 : ¬ ((dn sn) ≤ q8_252) := fun h => c_268 ((nI_leI (a := (dn sn)) (b := q8_252) (by omega) (by omega)).mpr h)
                      refine lv_iload_n hx hb dX8_leastAll_93 rfl (lv_at hl 8 rfl) ?_
                      refine lv_iload hx hb dX8_leastAll_94 (lv_at hl 3 rfl) ?_
                      refine lv_iload hx hb dX8_leastAll_96 (lv_at hl 2 rfl) ?_
                      refine lv_iload hx hb dX8_leastAll_98 (lv_at hl 1 rfl) ?_
                      refine lv_iload hx hb dX8_leastAll_100 (lv_at hl 0 rfl) ?_
                      refine ro_i (D := D) (va_runS (As := [.int p1, .int (nI q5_1), .int (-1), .int (-1), .int (nI q8_252)]) (rest := []) ⟨hx, hb, hml, hown, hts⟩ ((m_canAll l D k st lo p1 (nI q5_1) (-1) (-1) (nI q8_252)) H.size) (va_cwS 5 hts (gS tw_1450 tw_1451 tw_87 tw_1452) rfl rfl rfl (by decide +kernel) ⟨Nat.le_of_ble_eq_true rfl, Nat.le_of_ble_eq_true rfl⟩) (pS hS hAlo hlo hP hK hDL hZ [] (by decide) rfl) rfl rfl hl.1 rfl (lv_room (Nat.le_of_ble_eq_true rfl)) dX8_leastAll_102 ⟨Nat.le_of_ble_eq_true rfl, Nat.le_of_ble_eq_true rfl⟩) hS hA hP (fun r_269 H locs hw_269 hP hS => ?_)
                      try dsimp only at hw_269
                      refine lv_if_eq (tgt := 124) hx hb dX8_leastAll_105 (by decide) (fun c_270 => ?_) (fun c_270 => ?_)
                      · refine lv_iconst (v := (-1)) hx hb dX8_leastAll_124 (by decide) ?_
                        refine lv_istore (lv' := [(9, .int (-1)), (8, .int (nI q8_252)), (7, .int (-1)), (6, .int (-1)), (5, .int (nI q5_1)), (4, .int be_252), (3, .int (nI (dn sn))), (0, .ref (a 0)), (1, .int (nI sn)), (2, .int p1)]) hx hb dX8_leastAll_125 hl (by decide) rfl (fun ls hl => ?_)
                        refine lv_iload hx hb dX8_leastAll_127 (lv_at hl 0 rfl) ?_
                        refine lv_if_lt (tgt := 149) hx hb dX8_leastAll_129 (by decide) (fun _ => ?_) (fun h => absurd (by decide) h)
                        refine lv_iload hx hb dX8_leastAll_149 (lv_at hl 5 rfl) ?_
                        refine lv_istore (lv' := [(4, .int be_252), (9, .int (-1)), (8, .int (nI q8_252)), (7, .int (-1)), (6, .int (-1)), (5, .int (nI q5_1)), (3, .int (nI (dn sn))), (0, .ref (a 0)), (1, .int (nI sn)), (2, .int p1)]) hx hb dX8_leastAll_151 hl (by decide) rfl (fun ls hl => ?_)
                        refine lv_iinc (v := (nI (q8_252 + 1))) (lv' := [(8, .int (nI (q8_252 + 1))), (4, .int be_252), (9, .int (-1)), (7, .int (-1)), (6, .int (-1)), (5, .int (nI q5_1)), (3, .int (nI (dn sn))), (0, .ref (a 0)), (1, .int (nI sn)), (2, .int p1)]) hx hb dX8_leastAll_153 hl (k := 2) rfl (nI_add q8_252 1) (by decide) rfl (fun ls hl => ?_)
                        refine lv_goto (tgt := 75) hx hb dX8_leastAll_156 (by decide) ?_
                        exact ih_252 _ (q8_252 + 1 + 1, be_252) _ _ _ (by omega) ⟨rfl, (by omega), hP, hS, (by rw [nI_pred]; exact lv_sub hl [0, 3, 4, 5, 1, 6, 7, 8, 9] rfl)⟩
                      · refine lv_aload_n hx hb dX8_leastAll_108 rfl (lv_at hl 6 rfl) ?_
                        refine lv_iload_n hx hb dX8_leastAll_109 rfl (lv_at hl 7 rfl) ?_
                        refine lv_iload hx hb dX8_leastAll_110 (lv_at hl 3 rfl) ?_
                        refine lv_iload hx hb dX8_leastAll_112 (lv_at hl 2 rfl) ?_
                        refine lv_iload hx hb dX8_leastAll_114 (lv_at hl 1 rfl) ?_
                        refine lv_iload hx hb dX8_leastAll_116 (lv_at hl 0 rfl) ?_
                        refine ro_i (D := D) (va_runV (As := [.int (nI sn), .int (nI q5_1), .int (-1), .int (-1), .int (nI q8_252)]) (rest := []) ⟨hx, hb, hml, hown, hts⟩ ((m_sumAll l D k st lo a tx t0 we rd ru rw ca fp wd nu na ts df db sd dn se tm gs fprices fwalks sn (nI q5_1) (-1) (-1) (nI q8_252) (by omega) (by omega) (.inr ⟨q5_1, by omega, rfl⟩) (.inl (by decide)) (.inl (by decide)) (.inr ⟨q8_252, by omega, rfl⟩)) H.size) (cwV 5 hts (gV tw_1459 tw_1461 tw_75 tw_87 tw_1462) rfl rfl rfl (by decide +kernel) ⟨Nat.le_of_ble_eq_true rfl, Nat.le_of_ble_eq_true rfl⟩) (pV hS hAlo hlo hP hK hDL hZ [0, 1, 2, 3, 4] (by decide) rfl (ci := 8) (q := (RX8, TX8, 44)) (q0 := 0) rfl rfl) rfl rfl hl.1 rfl (lv_room (Nat.le_of_ble_eq_true rfl)) dX8_leastAll_118 ⟨Nat.le_of_ble_eq_true rfl, Nat.le_of_ble_eq_true rfl⟩) hS hA hP (fun r_271 H locs hw_271 hP hS => ?_)
                        try dsimp only at hw_271
                        refine lv_goto (tgt := 125) hx hb dX8_leastAll_121 (by decide) ?_
                        refine lv_istore (lv' := [(9, .int r_271), (8, .int (nI q8_252)), (7, .int (-1)), (6, .int (-1)), (5, .int (nI q5_1)), (4, .int be_252), (3, .int (nI (dn sn))), (0, .ref (a 0)), (1, .int (nI sn)), (2, .int p1)]) hx hb dX8_leastAll_125 hl (by decide) rfl (fun ls hl => ?_)
                        refine lv_iload hx hb dX8_leastAll_127 (lv_at hl 0 rfl) ?_
                        refine lv_if_lt (tgt := 149) hx hb dX8_leastAll_129 (by decide) (fun c_272 => ?_) (fun c_272 => ?_)
                        · refine lv_iload hx hb dX8_leastAll_149 (lv_at hl 5 rfl) ?_
                          refine lv_istore (lv' := [(4, .int be_252), (9, .int r_271), (8, .int (nI q8_252)), (7, .int (-1)), (6, .int (-1)), (5, .int (nI q5_1)), (3, .int (nI (dn sn))), (0, .ref (a 0)), (1, .int (nI sn)), (2, .int p1)]) hx hb dX8_leastAll_151 hl (by decide) rfl (fun ls hl => ?_)
                          refine lv_iinc (v := (nI (q8_252 + 1))) (lv' := [(8, .int (nI (q8_252 + 1))), (4, .int be_252), (9, .int r_271), (7, .int (-1)), (6, .int (-1)), (5, .int (nI q5_1)), (3, .int (nI (dn sn))), (0, .ref (a 0)), (1, .int (nI sn)), (2, .int p1)]) hx hb dX8_leastAll_153 hl (k := 2) rfl (nI_add q8_252 1) (by decide) rfl (fun ls hl => ?_)
                          refine lv_goto (tgt := 75) hx hb dX8_leastAll_156 (by decide) ?_
                          exact ih_252 _ (q8_252 + 1 + 1, be_252) _ _ _ (by omega) ⟨rfl, (by omega), hP, hS, (by rw [nI_pred]; exact lv_sub hl [0, 3, 4, 5, 1, 6, 7, 8, 9] rfl)⟩
                        · refine lv_iload hx hb dX8_leastAll_132 (lv_at hl 5 rfl) ?_
                          refine lv_if_lt (tgt := 144) hx hb dX8_leastAll_134 (by decide) (fun c_273 => ?_) (fun c_273 => ?_)
                          · refine lv_iload hx hb dX8_leastAll_144 (lv_at hl 0 rfl) ?_
                            refine lv_goto (tgt := 151) hx hb dX8_leastAll_146 (by decide) ?_
                            refine lv_istore (lv' := [(4, .int r_271), (9, .int r_271), (8, .int (nI q8_252)), (7, .int (-1)), (6, .int (-1)), (5, .int (nI q5_1)), (3, .int (nI (dn sn))), (0, .ref (a 0)), (1, .int (nI sn)), (2, .int p1)]) hx hb dX8_leastAll_151 hl (by decide) rfl (fun ls hl => ?_)
                            refine lv_iinc (v := (nI (q8_252 + 1))) (lv' := [(8, .int (nI (q8_252 + 1))), (4, .int r_271), (9, .int r_271), (7, .int (-1)), (6, .int (-1)), (5, .int (nI q5_1)), (3, .int (nI (dn sn))), (0, .ref (a 0)), (1, .int (nI sn)), (2, .int p1)]) hx hb dX8_leastAll_153 hl (k := 2) rfl (nI_add q8_252 1) (by decide) rfl (fun ls hl => ?_)
                            refine lv_goto (tgt := 75) hx hb dX8_leastAll_156 (by decide) ?_
                            exact ih_252 _ (q8_252 + 1 + 1, r_271) _ _ _ (by omega) ⟨rfl, (by omega), hP, hS, (by rw [nI_pred]; exact lv_sub hl [0, 3, 4, 5, 1, 6, 7, 8, 9] rfl)⟩
                          · refine lv_iload hx hb dX8_leastAll_137 (lv_at hl 0 rfl) ?_
                            refine lv_iload hx hb dX8_leastAll_139 (lv_at hl 5 rfl) ?_
                            refine lv_icmp_ge (tgt := 149) hx hb dX8_leastAll_141 (by decide) (fun c_274 => ?_) (fun c_274 => ?_)
                            · refine lv_iload hx hb dX8_leastAll_149 (lv_at hl 5 rfl) ?_
                              refine lv_istore (lv' := [(4, .int be_252), (9, .int r_271), (8, .int (nI q8_252)), (7, .int (-1)), (6, .int (-1)), (5, .int (nI q5_1)), (3, .int (nI (dn sn))), (0, .ref (a 0)), (1, .int (nI sn)), (2, .int p1)]) hx hb dX8_leastAll_151 hl (by decide) rfl (fun ls hl => ?_)
                              refine lv_iinc (v := (nI (q8_252 + 1))) (lv' := [(8, .int (nI (q8_252 + 1))), (4, .int be_252), (9, .int r_271), (7, .int (-1)), (6, .int (-1)), (5, .int (nI q5_1)), (3, .int (nI (dn sn))), (0, .ref (a 0)), (1, .int (nI sn)), (2, .int p1)]) hx hb dX8_leastAll_153 hl (k := 2) rfl (nI_add q8_252 1) (by decide) rfl (fun ls hl => ?_)
                              refine lv_goto (tgt := 75) hx hb dX8_leastAll_156 (by decide) ?_
                              exact ih_252 _ (q8_252 + 1 + 1, be_252) _ _ _ (by omega) ⟨rfl, (by omega), hP, hS, (by rw [nI_pred]; exact lv_sub hl [0, 3, 4, 5, 1, 6, 7, 8, 9] rfl)⟩
                            · refine lv_iload hx hb dX8_leastAll_144 (lv_at hl 0 rfl) ?_
                              refine lv_goto (tgt := 151) hx hb dX8_leastAll_146 (by decide) ?_
                              refine lv_istore (lv' := [(4, .int r_271), (9, .int r_271), (8, .int (nI q8_252)), (7, .int (-1)), (6, .int (-1)), (5, .int (nI q5_1)), (3, .int (nI (dn sn))), (0, .ref (a 0)), (1, .int (nI sn)), (2, .int p1)]) hx hb dX8_leastAll_151 hl (by decide) rfl (fun ls hl => ?_)
                              refine lv_iinc (v := (nI (q8_252 + 1))) (lv' := [(8, .int (nI (q8_252 + 1))), (4, .int r_271), (9, .int r_271), (7, .int (-1)), (6, .int (-1)), (5, .int (nI q5_1)), (3, .int (nI (dn sn))), (0, .ref (a 0)), (1, .int (nI sn)), (2, .int p1)]) hx hb dX8_leastAll_153 hl (k := 2) rfl (nI_add q8_252 1) (by decide) rfl (fun ls hl => ?_)
                              refine lv_goto (tgt := 75) hx hb dX8_leastAll_156 (by decide) ?_
                              exact ih_252 _ (q8_252 + 1 + 1, r_271) _ _ _ (by omega) ⟨rfl, (by omega), hP, hS, (by rw [nI_pred]; exact lv_sub hl [0, 3, 4, 5, 1, 6, 7, 8, 9] rfl)⟩
              · have c_251 : ¬ (ca ≤ 2) := fun h => c_251 ((nI_leI (a := ca) (b := 2) (by omega) (by omega)).mpr h)
                refine lv_iload_n hx hb dX8_leastAll_64 rfl (lv_at hl 4 rfl) ?_
                refine lv_goto (tgt := 69) hx hb dX8_leastAll_65 (by decide) ?_
                refine lv_icmp_ge (tgt := 165) hx hb dX8_leastAll_69 (by decide) (fun c_275 => ?_) (fun c_275 => ?_)
                · refine lv_iinc (v := 0) (lv' := [(6, .int 0), (7, .int (-1)), (5, .int (nI q5_1)), (4, .int be_250), (3, .int (nI (dn sn))), (0, .ref (a 0)), (1, .int (nI sn)), (2, .int p1)]) hx hb dX8_leastAll_165 hl (k := 1) rfl (by decide) (by decide) rfl (fun ls hl => ?_)
                  refine lv_goto (tgt := 33) hx hb dX8_leastAll_168 (by decide) ?_
                  exact ih_248 _ (1, be_250) _ _ _ (by omega) ⟨rfl, (by omega), hP, hS, (by rw [nI_pred]; exact lv_sub hl [0, 2, 3, 4, 5, 6, 7] rfl)⟩
                · refine lv_iconst (v := (-1)) hx hb dX8_leastAll_72 (by decide) ?_
                  refine lv_istore (lv' := [(8, .int (-1)), (7, .int (-1)), (6, .int (-1)), (5, .int (nI q5_1)), (4, .int be_250), (3, .int (nI (dn sn))), (0, .ref (a 0)), (1, .int (nI sn)), (2, .int p1)]) hx hb dX8_leastAll_73 hl (by decide) rfl (fun ls hl => ?_)
                  refine W_loop (σ := Nat × Int32) (fun (n_ : Nat) (x_ : Nat × Int32) (H : Heap) (locs : List Loc) (ls : Array Slot) => match x_ with | (q8_276, be_276) => n_ = 26 - q8_276 ∧ (q8_276 ≤ 25) ∧ va_P D classes [((a 0), .inr (8, (fX8 a (nI tx) fp (nI t0) wd (nI we) nu na (nI rd) ts (nI ru) (nI rw) (nI ca) df db sd))), (aI k (a 1) 3 (nF dn)), (aI k (a 4) 27 (sg se tm gs)), (aI k (a 3) 72 fprices), (aI k (a 36) 4 fwalks)] H ∧ va_S (fun q : Nat => s.heap.size ≤ q) s.heap H locs ∧ lv_has ls 10 [(8, .int (nI q8_276 - 1)), (7, .int (-1)), (6, .int (-1)), (5, .int (nI q5_1)), (4, .int be_276), (3, .int (nI (dn sn))), (0, .ref (a 0)), (1, .int (nI sn)), (2, .int p1)]) (fun n_276 x_276 H locs ls hI ih_276 => ?_) _ (0, be_250) ⟨rfl, (by omega), hP, hS, (by rw [dn0]; exact lv_sub hl [0, 1, 2, 3, 4, 5, 6, 7, 8] rfl)⟩
                  obtain ⟨q8_276, be_276⟩ := x_276
                  obtain ⟨hm_276, hv_276, hP, hS, hl⟩ := hI
                  subst hm_276
                  rcases q8_276 with _ | q8_276
                  · rw [dn0] at hl
                    refine lv_iload hx hb dX8_leastAll_75 (lv_at hl 0 rfl) ?_
                    refine lv_aload_n hx hb dX8_leastAll_77 rfl (lv_at hl 6 rfl) ?_
                    refine va_get (D := D) (ci := 8) (v := .int (nI ca)) (C := RX8) (T := TX8) (N := 44) hx hb hts inX8 hown hK hP 0 rfl rfl 34 (by decide) (hts _ tw_1007) (fun _ h9 => h9) rfl dX8_leastAll_78 ?_
                    refine lv_iconst (v := 3) hx hb dX8_leastAll_81 (by decide) ?_
                    refine lv_icmp_le (tgt := 89) hx hb dX8_leastAll_82 (by decide) (fun c_277 => ?_) (fun c_277 => ?_)
                    · have c_277 := (nI_leI (a := ca) (b := 3) (by omega) (by omega)).mp c_277
                      refine lv_iconst (v := 0) hx hb dX8_leastAll_89 (by decide) ?_
                      refine lv_icmp_ge (tgt := 159) hx hb dX8_leastAll_90 (by decide) (fun h => absurd h (by decide)) (fun _ => ?_)
                      refine lv_iload_n hx hb dX8_leastAll_93 rfl (lv_at hl 8 rfl) ?_
                      refine lv_iload hx hb dX8_leastAll_94 (lv_at hl 3 rfl) ?_
                      refine lv_iload hx hb dX8_leastAll_96 (lv_at hl 2 rfl) ?_
                      refine lv_iload hx hb dX8_leastAll_98 (lv_at hl 1 rfl) ?_
                      refine lv_iload hx hb dX8_leastAll_100 (lv_at hl 0 rfl) ?_
                      refine ro_i (D := D) (va_runS (As := [.int p1, .int (nI q5_1), .int (-1), .int (-1), .int (-1)]) (rest := []) ⟨hx, hb, hml, hown, hts⟩ ((m_canAll l D k st lo p1 (nI q5_1) (-1) (-1) (-1)) H.size) (va_cwS 5 hts (gS tw_1450 tw_1451 tw_87 tw_1452) rfl rfl rfl (by decide +kernel) ⟨Nat.le_of_ble_eq_true rfl, Nat.le_of_ble_eq_true rfl⟩) (pS hS hAlo hlo hP hK hDL hZ [] (by decide) rfl) rfl rfl hl.1 rfl (lv_room (Nat.le_of_ble_eq_true rfl)) dX8_leastAll_102 ⟨Nat.le_of_ble_eq_true rfl, Nat.le_of_ble_eq_true rfl⟩) hS hA hP (fun r_278 H locs hw_278 hP hS => ?_)
                      try dsimp only at hw_278
                      refine lv_if_eq (tgt := 124) hx hb dX8_leastAll_105 (by decide) (fun c_279 => ?_) (fun c_279 => ?_)
                      · refine lv_iconst (v := (-1)) hx hb dX8_leastAll_124 (by decide) ?_
                        refine lv_istore (lv' := [(9, .int (-1)), (8, .int (-1)), (7, .int (-1)), (6, .int (-1)), (5, .int (nI q5_1)), (4, .int be_276), (3, .int (nI (dn sn))), (0, .ref (a 0)), (1, .int (nI sn)), (2, .int p1)]) hx hb dX8_leastAll_125 hl (by decide) rfl (fun ls hl => ?_)
                        refine lv_iload hx hb dX8_leastAll_127 (lv_at hl 0 rfl) ?_
                        refine lv_if_lt (tgt := 149) hx hb dX8_leastAll_129 (by decide) (fun _ => ?_) (fun h => absurd (by decide) h)
                        refine lv_iload hx hb dX8_leastAll_149 (lv_at hl 5 rfl) ?_
                        refine lv_istore (lv' := [(4, .int be_276), (9, .int (-1)), (8, .int (-1)), (7, .int (-1)), (6, .int (-1)), (5, .int (nI q5_1)), (3, .int (nI (dn sn))), (0, .ref (a 0)), (1, .int (nI sn)), (2, .int p1)]) hx hb dX8_leastAll_151 hl (by decide) rfl (fun ls hl => ?_)
                        refine lv_iinc (v := 0) (lv' := [(8, .int 0), (4, .int be_276), (9, .int (-1)), (7, .int (-1)), (6, .int (-1)), (5, .int (nI q5_1)), (3, .int (nI (dn sn))), (0, .ref (a 0)), (1, .int (nI sn)), (2, .int p1)]) hx hb dX8_leastAll_153 hl (k := 2) rfl (by decide) (by decide) rfl (fun ls hl => ?_)
                        refine lv_goto (tgt := 75) hx hb dX8_leastAll_156 (by decide) ?_
                        exact ih_276 _ (1, be_276) _ _ _ (by omega) ⟨rfl, (by omega), hP, hS, (by rw [nI_pred]; exact lv_sub hl [0, 3, 4, 5, 1, 6, 7, 8, 9] rfl)⟩
                      · refine lv_aload_n hx hb dX8_leastAll_108 rfl (lv_at hl 6 rfl) ?_
                        refine lv_iload_n hx hb dX8_leastAll_109 rfl (lv_at hl 7 rfl) ?_
                        refine lv_iload hx hb dX8_leastAll_110 (lv_at hl 3 rfl) ?_
                        refine lv_iload hx hb dX8_leastAll_112 (lv_at hl 2 rfl) ?_
                        refine lv_iload hx hb dX8_leastAll_114 (lv_at hl 1 rfl) ?_
                        refine lv_iload hx hb dX8_leastAll_116 (lv_at hl 0 rfl) ?_
                        refine ro_i (D := D) (va_runV (As := [.int (nI sn), .int (nI q5_1), .int (-1), .int (-1), .int (-1)]) (rest := []) ⟨hx, hb, hml, hown, hts⟩ ((m_sumAll l D k st lo a tx t0 we rd ru rw ca fp wd nu na ts df db sd dn se tm gs fprices fwalks sn (nI q5_1) (-1) (-1) (-1) (by omega) (by omega) (.inr ⟨q5_1, by omega, rfl⟩) (.inl (by decide)) (.inl (by decide)) (.inl (by decide))) H.size) (cwV 5 hts (gV tw_1459 tw_1461 tw_75 tw_87 tw_1462) rfl rfl rfl (by decide +kernel) ⟨Nat.le_of_ble_eq_true rfl, Nat.le_of_ble_eq_true rfl⟩) (pV hS hAlo hlo hP hK hDL hZ [0, 1, 2, 3, 4] (by decide) rfl (ci := 8) (q := (RX8, TX8, 44)) (q0 := 0) rfl rfl) rfl rfl hl.1 rfl (lv_room (Nat.le_of_ble_eq_true rfl)) dX8_leastAll_118 ⟨Nat.le_of_ble_eq_true rfl, Nat.le_of_ble_eq_true rfl⟩) hS hA hP (fun r_280 H locs hw_280 hP hS => ?_)
                        try dsimp only at hw_280
                        refine lv_goto (tgt := 125) hx hb dX8_leastAll_121 (by decide) ?_
                        refine lv_istore (lv' := [(9, .int r_280), (8, .int (-1)), (7, .int (-1)), (6, .int (-1)), (5, .int (nI q5_1)), (4, .int be_276), (3, .int (nI (dn sn))), (0, .ref (a 0)), (1, .int (nI sn)), (2, .int p1)]) hx hb dX8_leastAll_125 hl (by decide) rfl (fun ls hl => ?_)
                        refine lv_iload hx hb dX8_leastAll_127 (lv_at hl 0 rfl) ?_
                        refine lv_if_lt (tgt := 149) hx hb dX8_leastAll_129 (by decide) (fun c_281 => ?_) (fun c_281 => ?_)
                        · refine lv_iload hx hb dX8_leastAll_149 (lv_at hl 5 rfl) ?_
                          refine lv_istore (lv' := [(4, .int be_276), (9, .int r_280), (8, .int (-1)), (7, .int (-1)), (6, .int (-1)), (5, .int (nI q5_1)), (3, .int (nI (dn sn))), (0, .ref (a 0)), (1, .int (nI sn)), (2, .int p1)]) hx hb dX8_leastAll_151 hl (by decide) rfl (fun ls hl => ?_)
                          refine lv_iinc (v := 0) (lv' := [(8, .int 0), (4, .int be_276), (9, .int r_280), (7, .int (-1)), (6, .int (-1)), (5, .int (nI q5_1)), (3, .int (nI (dn sn))), (0, .ref (a 0)), (1, .int (nI sn)), (2, .int p1)]) hx hb dX8_leastAll_153 hl (k := 2) rfl (by decide) (by decide) rfl (fun ls hl => ?_)
                          refine lv_goto (tgt := 75) hx hb dX8_leastAll_156 (by decide) ?_
                          exact ih_276 _ (1, be_276) _ _ _ (by omega) ⟨rfl, (by omega), hP, hS, (by rw [nI_pred]; exact lv_sub hl [0, 3, 4, 5, 1, 6, 7, 8, 9] rfl)⟩
                        · refine lv_iload hx hb dX8_leastAll_132 (lv_at hl 5 rfl) ?_
                          refine lv_if_lt (tgt := 144) hx hb dX8_leastAll_134 (by decide) (fun c_282 => ?_) (fun c_282 => ?_)
                          · refine lv_iload hx hb dX8_leastAll_144 (lv_at hl 0 rfl) ?_
                            refine lv_goto (tgt := 151) hx hb dX8_leastAll_146 (by decide) ?_
                            refine lv_istore (lv' := [(4, .int r_280), (9, .int r_280), (8, .int (-1)), (7, .int (-1)), (6, .int (-1)), (5, .int (nI q5_1)), (3, .int (nI (dn sn))), (0, .ref (a 0)), (1, .int (nI sn)), (2, .int p1)]) hx hb dX8_leastAll_151 hl (by decide) rfl (fun ls hl => ?_)
                            refine lv_iinc (v := 0) (lv' := [(8, .int 0), (4, .int r_280), (9, .int r_280), (7, .int (-1)), (6, .int (-1)), (5, .int (nI q5_1)), (3, .int (nI (dn sn))), (0, .ref (a 0)), (1, .int (nI sn)), (2, .int p1)]) hx hb dX8_leastAll_153 hl (k := 2) rfl (by decide) (by decide) rfl (fun ls hl => ?_)
                            refine lv_goto (tgt := 75) hx hb dX8_leastAll_156 (by decide) ?_
                            exact ih_276 _ (1, r_280) _ _ _ (by omega) ⟨rfl, (by omega), hP, hS, (by rw [nI_pred]; exact lv_sub hl [0, 3, 4, 5, 1, 6, 7, 8, 9] rfl)⟩
                          · refine lv_iload hx hb dX8_leastAll_137 (lv_at hl 0 rfl) ?_
                            refine lv_iload hx hb dX8_leastAll_139 (lv_at hl 5 rfl) ?_
                            refine lv_icmp_ge (tgt := 149) hx hb dX8_leastAll_141 (by decide) (fun c_283 => ?_) (fun c_283 => ?_)
                            · refine lv_iload hx hb dX8_leastAll_149 (lv_at hl 5 rfl) ?_
                              refine lv_istore (lv' := [(4, .int be_276), (9, .int r_280), (8, .int (-1)), (7, .int (-1)), (6, .int (-1)), (5, .int (nI q5_1)), (3, .int (nI (dn sn))), (0, .ref (a 0)), (1, .int (nI sn)), (2, .int p1)]) hx hb dX8_leastAll_151 hl (by decide) rfl (fun ls hl => ?_)
                              refine lv_iinc (v := 0) (lv' := [(8, .int 0), (4, .int be_276), (9, .int r_280), (7, .int (-1)), (6, .int (-1)), (5, .int (nI q5_1)), (3, .int (nI (dn sn))), (0, .ref (a 0)), (1, .int (nI sn)), (2, .int p1)]) hx hb dX8_leastAll_153 hl (k := 2) rfl (by decide) (by decide) rfl (fun ls hl => ?_)
                              refine lv_goto (tgt := 75) hx hb dX8_leastAll_156 (by decide) ?_
                              exact ih_276 _ (1, be_276) _ _ _ (by omega) ⟨rfl, (by omega), hP, hS, (by rw [nI_pred]; exact lv_sub hl [0, 3, 4, 5, 1, 6, 7, 8, 9] rfl)⟩
                            · refine lv_iload hx hb dX8_leastAll_144 (lv_at hl 0 rfl) ?_
                              refine lv_goto (tgt := 151) hx hb dX8_leastAll_146 (by decide) ?_
                              refine lv_istore (lv' := [(4, .int r_280), (9, .int r_280), (8, .int (-1)), (7, .int (-1)), (6, .int (-1)), (5, .int (nI q5_1)), (3, .int (nI (dn sn))), (0, .ref (a 0)), (1, .int (nI sn)), (2, .int p1)]) hx hb dX8_leastAll_151 hl (by decide) rfl (fun ls hl => ?_)
                              refine lv_iinc (v := 0) (lv' := [(8, .int 0), (4, .int r_280), (9, .int r_280), (7, .int (-1)), (6, .int (-1)), (5, .int (nI q5_1)), (3, .int (nI (dn sn))), (0, .ref (a 0)), (1, .int (nI sn)), (2, .int p1)]) hx hb dX8_leastAll_153 hl (k := 2) rfl (by decide) (by decide) rfl (fun ls hl => ?_)
                              refine lv_goto (tgt := 75) hx hb dX8_leastAll_156 (by decide) ?_
                              exact ih_276 _ (1, r_280) _ _ _ (by omega) ⟨rfl, (by omega), hP, hS, (by rw [nI_pred]; exact lv_sub hl [0, 3, 4, 5, 1, 6, 7, 8, 9] rfl)⟩
                    · have c_277 : ¬ (ca ≤ 3) := fun h => c_277 ((nI_leI (a := ca) (b := 3) (by omega) (by omega)).mpr h)
                      refine lv_iload_n hx hb dX8_leastAll_85 rfl (lv_at hl 5 rfl) ?_
                      refine lv_goto (tgt := 90) hx hb dX8_leastAll_86 (by decide) ?_
                      refine lv_icmp_ge (tgt := 159) hx hb dX8_leastAll_90 (by decide) (fun c_284 => ?_) (fun c_284 => ?_)
                      · refine lv_iinc (v := 0) (lv' := [(7, .int 0), (8, .int (-1)), (6, .int (-1)), (5, .int (nI q5_1)), (4, .int be_276), (3, .int (nI (dn sn))), (0, .ref (a 0)), (1, .int (nI sn)), (2, .int p1)]) hx hb dX8_leastAll_159 hl (k := 1) rfl (by decide) (by decide) rfl (fun ls hl => ?_)
                        refine lv_goto (tgt := 54) hx hb dX8_leastAll_162 (by decide) ?_
                        exact ih_250 _ (1, be_276) _ _ _ (by omega) ⟨rfl, (by omega), hP, hS, (by rw [nI_pred]; exact lv_sub hl [0, 2, 3, 4, 5, 6, 7, 8] rfl)⟩
                      · refine lv_iload_n hx hb dX8_leastAll_93 rfl (lv_at hl 8 rfl) ?_
                        refine lv_iload hx hb dX8_leastAll_94 (lv_at hl 3 rfl) ?_
                        refine lv_iload hx hb dX8_leastAll_96 (lv_at hl 2 rfl) ?_
                        refine lv_iload hx hb dX8_leastAll_98 (lv_at hl 1 rfl) ?_
                        refine lv_iload hx hb dX8_leastAll_100 (lv_at hl 0 rfl) ?_
                        refine ro_i (D := D) (va_runS (As := [.int p1, .int (nI q5_1), .int (-1), .int (-1), .int (-1)]) (rest := []) ⟨hx, hb, hml, hown, hts⟩ ((m_canAll l D k st lo p1 (nI q5_1) (-1) (-1) (-1)) H.size) (va_cwS 5 hts (gS tw_1450 tw_1451 tw_87 tw_1452) rfl rfl rfl (by decide +kernel) ⟨Nat.le_of_ble_eq_true rfl, Nat.le_of_ble_eq_true rfl⟩) (pS hS hAlo hlo hP hK hDL hZ [] (by decide) rfl) rfl rfl hl.1 rfl (lv_room (Nat.le_of_ble_eq_true rfl)) dX8_leastAll_102 ⟨Nat.le_of_ble_eq_true rfl, Nat.le_of_ble_eq_true rfl⟩) hS hA hP (fun r_285 H locs hw_285 hP hS => ?_)
                        try dsimp only at hw_285
                        refine lv_if_eq (tgt := 124) hx hb dX8_leastAll_105 (by decide) (fun c_286 => ?_) (fun c_286 => ?_)
                        · refine lv_iconst (v := (-1)) hx hb dX8_leastAll_124 (by decide) ?_
                          refine lv_istore (lv' := [(9, .int (-1)), (8, .int (-1)), (7, .int (-1)), (6, .int (-1)), (5, .int (nI q5_1)), (4, .int be_276), (3, .int (nI (dn sn))), (0, .ref (a 0)), (1, .int (nI sn)), (2, .int p1)]) hx hb dX8_leastAll_125 hl (by decide) rfl (fun ls hl => ?_)
                          refine lv_iload hx hb dX8_leastAll_127 (lv_at hl 0 rfl) ?_
                          refine lv_if_lt (tgt := 149) hx hb dX8_leastAll_129 (by decide) (fun _ => ?_) (fun h => absurd (by decide) h)
                          refine lv_iload hx hb dX8_leastAll_149 (lv_at hl 5 rfl) ?_
                          refine lv_istore (lv' := [(4, .int be_276), (9, .int (-1)), (8, .int (-1)), (7, .int (-1)), (6, .int (-1)), (5, .int (nI q5_1)), (3, .int (nI (dn sn))), (0, .ref (a 0)), (1, .int (nI sn)), (2, .int p1)]) hx hb dX8_leastAll_151 hl (by decide) rfl (fun ls hl => ?_)
                          refine lv_iinc (v := 0) (lv' := [(8, .int 0), (4, .int be_276), (9, .int (-1)), (7, .int (-1)), (6, .int (-1)), (5, .int (nI q5_1)), (3, .int (nI (dn sn))), (0, .ref (a 0)), (1, .int (nI sn)), (2, .int p1)]) hx hb dX8_leastAll_153 hl (k := 2) rfl (by decide) (by decide) rfl (fun ls hl => ?_)
                          refine lv_goto (tgt := 75) hx hb dX8_leastAll_156 (by decide) ?_
                          exact ih_276 _ (1, be_276) _ _ _ (by omega) ⟨rfl, (by omega), hP, hS, (by rw [nI_pred]; exact lv_sub hl [0, 3, 4, 5, 1, 6, 7, 8, 9] rfl)⟩
                        · refine lv_aload_n hx hb dX8_leastAll_108 rfl (lv_at hl 6 rfl) ?_
                          refine lv_iload_n hx hb dX8_leastAll_109 rfl (lv_at hl 7 rfl) ?_
                          refine lv_iload hx hb dX8_leastAll_110 (lv_at hl 3 rfl) ?_
                          refine lv_iload hx hb dX8_leastAll_112 (lv_at hl 2 rfl) ?_
                          refine lv_iload hx hb dX8_leastAll_114 (lv_at hl 1 rfl) ?_
                          refine lv_iload hx hb dX8_leastAll_116 (lv_at hl 0 rfl) ?_
                          refine ro_i (D := D) (va_runV (As := [.int (nI sn), .int (nI q5_1), .int (-1), .int (-1), .int (-1)]) (rest := []) ⟨hx, hb, hml, hown, hts⟩ ((m_sumAll l D k st lo a tx t0 we rd ru rw ca fp wd nu na ts df db sd dn se tm gs fprices fwalks sn (nI q5_1) (-1) (-1) (-1) (by omega) (by omega) (.inr ⟨q5_1, by omega, rfl⟩) (.inl (by decide)) (.inl (by decide)) (.inl (by decide))) H.size) (cwV 5 hts (gV tw_1459 tw_1461 tw_75 tw_87 tw_1462) rfl rfl rfl (by decide +kernel) ⟨Nat.le_of_ble_eq_true rfl, Nat.le_of_ble_eq_true rfl⟩) (pV hS hAlo hlo hP hK hDL hZ [0, 1, 2, 3, 4] (by decide) rfl (ci := 8) (q := (RX8, TX8, 44)) (q0 := 0) rfl rfl) rfl rfl hl.1 rfl (lv_room (Nat.le_of_ble_eq_true rfl)) dX8_leastAll_118 ⟨Nat.le_of_ble_eq_true rfl, Nat.le_of_ble_eq_true rfl⟩) hS hA hP (fun r_287 H locs hw_287 hP hS => ?_)
                          try dsimp only at hw_287
                          refine lv_goto (tgt := 125) hx hb dX8_leastAll_121 (by decide) ?_
                          refine lv_istore (lv' := [(9, .int r_287), (8, .int (-1)), (7, .int (-1)), (6, .int (-1)), (5, .int (nI q5_1)), (4, .int be_276), (3, .int (nI (dn sn))), (0, .ref (a 0)), (1, .int (nI sn)), (2, .int p1)]) hx hb dX8_leastAll_125 hl (by decide) rfl (fun ls hl => ?_)
                          refine lv_iload hx hb dX8_leastAll_127 (lv_at hl 0 rfl) ?_
                          refine lv_if_lt (tgt := 149) hx hb dX8_leastAll_129 (by decide) (fun c_288 => ?_) (fun c_288 => ?_)
                          · refine lv_iload hx hb dX8_leastAll_149 (lv_at hl 5 rfl) ?_
                            refine lv_istore (lv' := [(4, .int be_276), (9, .int r_287), (8, .int (-1)), (7, .int (-1)), (6, .int (-1)), (5, .int (nI q5_1)), (3, .int (nI (dn sn))), (0, .ref (a 0)), (1, .int (nI sn)), (2, .int p1)]) hx hb dX8_leastAll_151 hl (by decide) rfl (fun ls hl => ?_)
                            refine lv_iinc (v := 0) (lv' := [(8, .int 0), (4, .int be_276), (9, .int r_287), (7, .int (-1)), (6, .int (-1)), (5, .int (nI q5_1)), (3, .int (nI (dn sn))), (0, .ref (a 0)), (1, .int (nI sn)), (2, .int p1)]) hx hb dX8_leastAll_153 hl (k := 2) rfl (by decide) (by decide) rfl (fun ls hl => ?_)
                            refine lv_goto (tgt := 75) hx hb dX8_leastAll_156 (by decide) ?_
                            exact ih_276 _ (1, be_276) _ _ _ (by omega) ⟨rfl, (by omega), hP, hS, (by rw [nI_pred]; exact lv_sub hl [0, 3, 4, 5, 1, 6, 7, 8, 9] rfl)⟩
                          · refine lv_iload hx hb dX8_leastAll_132 (lv_at hl 5 rfl) ?_
                            refine lv_if_lt (tgt := 144) hx hb dX8_leastAll_134 (by decide) (fun c_289 => ?_) (fun c_289 => ?_)
                            · refine lv_iload hx hb dX8_leastAll_144 (lv_at hl 0 rfl) ?_
                              refine lv_goto (tgt := 151) hx hb dX8_leastAll_146 (by decide) ?_
                              refine lv_istore (lv' := [(4, .int r_287), (9, .int r_287), (8, .int (-1)), (7, .int (-1)), (6, .int (-1)), (5, .int (nI q5_1)), (3, .int (nI (dn sn))), (0, .ref (a 0)), (1, .int (nI sn)), (2, .int p1)]) hx hb dX8_leastAll_151 hl (by decide) rfl (fun ls hl => ?_)
                              refine lv_iinc (v := 0) (lv' := [(8, .int 0), (4, .int r_287), (9, .int r_287), (7, .int (-1)), (6, .int (-1)), (5, .int (nI q5_1)), (3, .int (nI (dn sn))), (0, .ref (a 0)), (1, .int (nI sn)), (2, .int p1)]) hx hb dX8_leastAll_153 hl (k := 2) rfl (by decide) (by decide) rfl (fun ls hl => ?_)
                              refine lv_goto (tgt := 75) hx hb dX8_leastAll_156 (by decide) ?_
                              exact ih_276 _ (1, r_287) _ _ _ (by omega) ⟨rfl, (by omega), hP, hS, (by rw [nI_pred]; exact lv_sub hl [0, 3, 4, 5, 1, 6, 7, 8, 9] rfl)⟩
                            · refine lv_iload hx hb dX8_leastAll_137 (lv_at hl 0 rfl) ?_
                              refine lv_iload hx hb dX8_leastAll_139 (lv_at hl 5 rfl) ?_
                              refine lv_icmp_ge (tgt := 149) hx hb dX8_leastAll_141 (by decide) (fun c_290 => ?_) (fun c_290 => ?_)
                              · refine lv_iload hx hb dX8_leastAll_149 (lv_at hl 5 rfl) ?_
                                refine lv_istore (lv' := [(4, .int be_276), (9, .int r_287), (8, .int (-1)), (7, .int (-1)), (6, .int (-1)), (5, .int (nI q5_1)), (3, .int (nI (dn sn))), (0, .ref (a 0)), (1, .int (nI sn)), (2, .int p1)]) hx hb dX8_leastAll_151 hl (by decide) rfl (fun ls hl => ?_)
                                refine lv_iinc (v := 0) (lv' := [(8, .int 0), (4, .int be_276), (9, .int r_287), (7, .int (-1)), (6, .int (-1)), (5, .int (nI q5_1)), (3, .int (nI (dn sn))), (0, .ref (a 0)), (1, .int (nI sn)), (2, .int p1)]) hx hb dX8_leastAll_153 hl (k := 2) rfl (by decide) (by decide) rfl (fun ls hl => ?_)
                                refine lv_goto (tgt := 75) hx hb dX8_leastAll_156 (by decide) ?_
                                exact ih_276 _ (1, be_276) _ _ _ (by omega) ⟨rfl, (by omega), hP, hS, (by rw [nI_pred]; exact lv_sub hl [0, 3, 4, 5, 1, 6, 7, 8, 9] rfl)⟩
                              · refine lv_iload hx hb dX8_leastAll_144 (lv_at hl 0 rfl) ?_
                                refine lv_goto (tgt := 151) hx hb dX8_leastAll_146 (by decide) ?_
                                refine lv_istore (lv' := [(4, .int r_287), (9, .int r_287), (8, .int (-1)), (7, .int (-1)), (6, .int (-1)), (5, .int (nI q5_1)), (3, .int (nI (dn sn))), (0, .ref (a 0)), (1, .int (nI sn)), (2, .int p1)]) hx hb dX8_leastAll_151 hl (by decide) rfl (fun ls hl => ?_)
                                refine lv_iinc (v := 0) (lv' := [(8, .int 0), (4, .int r_287), (9, .int r_287), (7, .int (-1)), (6, .int (-1)), (5, .int (nI q5_1)), (3, .int (nI (dn sn))), (0, .ref (a 0)), (1, .int (nI sn)), (2, .int p1)]) hx hb dX8_leastAll_153 hl (k := 2) rfl (by decide) (by decide) rfl (fun ls hl => ?_)
                                refine lv_goto (tgt := 75) hx hb dX8_leastAll_156 (by decide) ?_
                                exact ih_276 _ (1, r_287) _ _ _ (by omega) ⟨rfl, (by omega), hP, hS, (by rw [nI_pred]; exact lv_sub hl [0, 3, 4, 5, 1, 6, 7, 8, 9] rfl)⟩
                  · rw [nI_pred] at hl
                    refine lv_iload hx hb dX8_leastAll_75 (lv_at hl 0 rfl) ?_
                    refine lv_aload_n hx hb dX8_leastAll_77 rfl (lv_at hl 6 rfl) ?_
                    refine va_get (D := D) (ci := 8) (v := .int (nI ca)) (C := RX8) (T := TX8) (N := 44) hx hb hts inX8 hown hK hP 0 rfl rfl 34 (by decide) (hts _ tw_1007) (fun _ h9 => h9) rfl dX8_leastAll_78 ?_
                    refine lv_iconst (v := 3) hx hb dX8_leastAll_81 (by decide) ?_
                    refine lv_icmp_le (tgt := 89) hx hb dX8_leastAll_82 (by decide) (fun c_291 => ?_) (fun c_291 => ?_)
                    · have c_291 := (nI_leI (a := ca) (b := 3) (by omega) (by omega)).mp c_291
                      refine lv_iconst (v := 0) hx hb dX8_leastAll_89 (by decide) ?_
                      refine lv_icmp_ge (tgt := 159) hx hb dX8_leastAll_90 (by decide) (fun _ => ?_) (fun h => absurd (nI_ge0 (by omega)) h)
                      refine lv_iinc (v := 0) (lv' := [(7, .int 0), (8, .int (nI q8_276)), (6, .int (-1)), (5, .int (nI q5_1)), (4, .int be_276), (3, .int (nI (dn sn))), (0, .ref (a 0)), (1, .int (nI sn)), (2, .int p1)]) hx hb dX8_leastAll_159 hl (k := 1) rfl (by decide) (by decide) rfl (fun ls hl => ?_)
                      refine lv_goto (tgt := 54) hx hb dX8_leastAll_162 (by decide) ?_
                      exact ih_250 _ (1, be_276) _ _ _ (by omega) ⟨rfl, (by omega), hP, hS, (by rw [nI_pred]; exact lv_sub hl [0, 2, 3, 4, 5, 6, 7, 8] rfl)⟩
                    · have c_291 : ¬ (ca ≤ 3) := fun h => c_291 ((nI_leI (a := ca) (b := 3) (by omega) (by omega)).mpr h)
                      refine lv_iload_n hx hb dX8_leastAll_85 rfl (lv_at hl 5 rfl) ?_
                      refine lv_goto (tgt := 90) hx hb dX8_leastAll_86 (by decide) ?_
                      refine lv_icmp_ge (tgt := 159) hx hb dX8_leastAll_90 (by decide) (fun c_292 => ?_) (fun c_292 => ?_)
                      · have c_292 := (nI_leI (a := (dn sn)) (b := q8_276) (by omega) (by omega)).mp c_292
                        refine lv_iinc (v := 0) (lv' := [(7, .int 0), (8, .int (nI q8_276)), (6, .int (-1)), (5, .int (nI q5_1)), (4, .int be_276), (3, .int (nI (dn sn))), (0, .ref (a 0)), (1, .int (nI sn)), (2, .int p1)]) hx hb dX8_leastAll_159 hl (k := 1) rfl (by decide) (by decide) rfl (fun ls hl => ?_)
                        refine lv_goto (tgt := 54) hx hb dX8_leastAll_162 (by decide) ?_
                        exact ih_250 _ (1, be_276) _ _ _ (by omega) ⟨rfl, (by omega), hP, hS, (by rw [nI_pred]; exact lv_sub hl [0, 2, 3, 4, 5, 6, 7, 8] rfl)⟩
                      · have c_292 : ¬ ((dn sn) ≤ q8_276) := fun h => c_292 ((nI_leI (a := (dn sn)) (b := q8_276) (by omega) (by omega)).mpr h)
                        refine lv_iload_n hx hb dX8_leastAll_93 rfl (lv_at hl 8 rfl) ?_
                        refine lv_iload hx hb dX8_leastAll_94 (lv_at hl 3 rfl) ?_
                        refine lv_iload hx hb dX8_leastAll_96 (lv_at hl 2 rfl) ?_
                        refine lv_iload hx hb dX8_leastAll_98 (lv_at hl 1 rfl) ?_
                        refine lv_iload hx hb dX8_leastAll_100 (lv_at hl 0 rfl) ?_
                        refine ro_i (D := D) (va_runS (As := [.int p1, .int (nI q5_1), .int (-1), .int (-1), .int (nI q8_276)]) (rest := []) ⟨hx, hb, hml, hown, hts⟩ ((m_canAll l D k st lo p1 (nI q5_1) (-1) (-1) (nI q8_276)) H.size) (va_cwS 5 hts (gS tw_1450 tw_1451 tw_87 tw_1452) rfl rfl rfl (by decide +kernel) ⟨Nat.le_of_ble_eq_true rfl, Nat.le_of_ble_eq_true rfl⟩) (pS hS hAlo hlo hP hK hDL hZ [] (by decide) rfl) rfl rfl hl.1 rfl (lv_room (Nat.le_of_ble_eq_true rfl)) dX8_leastAll_102 ⟨Nat.le_of_ble_eq_true rfl, Nat.le_of_ble_eq_true rfl⟩) hS hA hP (fun r_293 H locs hw_293 hP hS => ?_)
                        try dsimp only at hw_293
                        refine lv_if_eq (tgt := 124) hx hb dX8_leastAll_105 (by decide) (fun c_294 => ?_) (fun c_294 => ?_)
                        · refine lv_iconst (v := (-1)) hx hb dX8_leastAll_124 (by decide) ?_
                          refine lv_istore (lv' := [(9, .int (-1)), (8, .int (nI q8_276)), (7, .int (-1)), (6, .int (-1)), (5, .int (nI q5_1)), (4, .int be_276), (3, .int (nI (dn sn))), (0, .ref (a 0)), (1, .int (nI sn)), (2, .int p1)]) hx hb dX8_leastAll_125 hl (by decide) rfl (fun ls hl => ?_)
                          refine lv_iload hx hb dX8_leastAll_127 (lv_at hl 0 rfl) ?_
                          refine lv_if_lt (tgt := 149) hx hb dX8_leastAll_129 (by decide) (fun _ => ?_) (fun h => absurd (by decide) h)
                          refine lv_iload hx hb dX8_leastAll_149 (lv_at hl 5 rfl) ?_
                          refine lv_istore (lv' := [(4, .int be_276), (9, .int (-1)), (8, .int (nI q8_276)), (7, .int (-1)), (6, .int (-1)), (5, .int (nI q5_1)), (3, .int (nI (dn sn))), (0, .ref (a 0)), (1, .int (nI sn)), (2, .int p1)]) hx hb dX8_leastAll_151 hl (by decide) rfl (fun ls hl => ?_)
                          refine lv_iinc (v := (nI (q8_276 + 1))) (lv' := [(8, .int (nI (q8_276 + 1))), (4, .int be_276), (9, .int (-1)), (7, .int (-1)), (6, .int (-1)), (5, .int (nI q5_1)), (3, .int (nI (dn sn))), (0, .ref (a 0)), (1, .int (nI sn)), (2, .int p1)]) hx hb dX8_leastAll_153 hl (k := 2) rfl (nI_add q8_276 1) (by decide) rfl (fun ls hl => ?_)
                          refine lv_goto (tgt := 75) hx hb dX8_leastAll_156 (by decide) ?_
                          exact ih_276 _ (q8_276 + 1 + 1, be_276) _ _ _ (by omega) ⟨rfl, (by omega), hP, hS, (by rw [nI_pred]; exact lv_sub hl [0, 3, 4, 5, 1, 6, 7, 8, 9] rfl)⟩
                        · refine lv_aload_n hx hb dX8_leastAll_108 rfl (lv_at hl 6 rfl) ?_
                          refine lv_iload_n hx hb dX8_leastAll_109 rfl (lv_at hl 7 rfl) ?_
                          refine lv_iload hx hb dX8_leastAll_110 (lv_at hl 3 rfl) ?_
                          refine lv_iload hx hb dX8_leastAll_112 (lv_at hl 2 rfl) ?_
                          refine lv_iload hx hb dX8_leastAll_114 (lv_at hl 1 rfl) ?_
                          refine lv_iload hx hb dX8_leastAll_116 (lv_at hl 0 rfl) ?_
                          refine ro_i (D := D) (va_runV (As := [.int (nI sn), .int (nI q5_1), .int (-1), .int (-1), .int (nI q8_276)]) (rest := []) ⟨hx, hb, hml, hown, hts⟩ ((m_sumAll l D k st lo a tx t0 we rd ru rw ca fp wd nu na ts df db sd dn se tm gs fprices fwalks sn (nI q5_1) (-1) (-1) (nI q8_276) (by omega) (by omega) (.inr ⟨q5_1, by omega, rfl⟩) (.inl (by decide)) (.inl (by decide)) (.inr ⟨q8_276, by omega, rfl⟩)) H.size) (cwV 5 hts (gV tw_1459 tw_1461 tw_75 tw_87 tw_1462) rfl rfl rfl (by decide +kernel) ⟨Nat.le_of_ble_eq_true rfl, Nat.le_of_ble_eq_true rfl⟩) (pV hS hAlo hlo hP hK hDL hZ [0, 1, 2, 3, 4] (by decide) rfl (ci := 8) (q := (RX8, TX8, 44)) (q0 := 0) rfl rfl) rfl rfl hl.1 rfl (lv_room (Nat.le_of_ble_eq_true rfl)) dX8_leastAll_118 ⟨Nat.le_of_ble_eq_true rfl, Nat.le_of_ble_eq_true rfl⟩) hS hA hP (fun r_295 H locs hw_295 hP hS => ?_)
                          try dsimp only at hw_295
                          refine lv_goto (tgt := 125) hx hb dX8_leastAll_121 (by decide) ?_
                          refine lv_istore (lv' := [(9, .int r_295), (8, .int (nI q8_276)), (7, .int (-1)), (6, .int (-1)), (5, .int (nI q5_1)), (4, .int be_276), (3, .int (nI (dn sn))), (0, .ref (a 0)), (1, .int (nI sn)), (2, .int p1)]) hx hb dX8_leastAll_125 hl (by decide) rfl (fun ls hl => ?_)
                          refine lv_iload hx hb dX8_leastAll_127 (lv_at hl 0 rfl) ?_
                          refine lv_if_lt (tgt := 149) hx hb dX8_leastAll_129 (by decide) (fun c_296 => ?_) (fun c_296 => ?_)
                          · refine lv_iload hx hb dX8_leastAll_149 (lv_at hl 5 rfl) ?_
                            refine lv_istore (lv' := [(4, .int be_276), (9, .int r_295), (8, .int (nI q8_276)), (7, .int (-1)), (6, .int (-1)), (5, .int (nI q5_1)), (3, .int (nI (dn sn))), (0, .ref (a 0)), (1, .int (nI sn)), (2, .int p1)]) hx hb dX8_leastAll_151 hl (by decide) rfl (fun ls hl => ?_)
                            refine lv_iinc (v := (nI (q8_276 + 1))) (lv' := [(8, .int (nI (q8_276 + 1))), (4, .int be_276), (9, .int r_295), (7, .int (-1)), (6, .int (-1)), (5, .int (nI q5_1)), (3, .int (nI (dn sn))), (0, .ref (a 0)), (1, .int (nI sn)), (2, .int p1)]) hx hb dX8_leastAll_153 hl (k := 2) rfl (nI_add q8_276 1) (by decide) rfl (fun ls hl => ?_)
                            refine lv_goto (tgt := 75) hx hb dX8_leastAll_156 (by decide) ?_
                            exact ih_276 _ (q8_276 + 1 + 1, be_276) _ _ _ (by omega) ⟨rfl, (by omega), hP, hS, (by rw [nI_pred]; exact lv_sub hl [0, 3, 4, 5, 1, 6, 7, 8, 9] rfl)⟩
                          · refine lv_iload hx hb dX8_leastAll_132 (lv_at hl 5 rfl) ?_
                            refine lv_if_lt (tgt := 144) hx hb dX8_leastAll_134 (by decide) (fun c_297 => ?_) (fun c_297 => ?_)
                            · refine lv_iload hx hb dX8_leastAll_144 (lv_at hl 0 rfl) ?_
                              refine lv_goto (tgt := 151) hx hb dX8_leastAll_146 (by decide) ?_
                              refine lv_istore (lv' := [(4, .int r_295), (9, .int r_295), (8, .int (nI q8_276)), (7, .int (-1)), (6, .int (-1)), (5, .int (nI q5_1)), (3, .int (nI (dn sn))), (0, .ref (a 0)), (1, .int (nI sn)), (2, .int p1)]) hx hb dX8_leastAll_151 hl (by decide) rfl (fun ls hl => ?_)
                              refine lv_iinc (v := (nI (q8_276 + 1))) (lv' := [(8, .int (nI (q8_276 + 1))), (4, .int r_295), (9, .int r_295), (7, .int (-1)), (6, .int (-1)), (5, .int (nI q5_1)), (3, .int (nI (dn sn))), (0, .ref (a 0)), (1, .int (nI sn)), (2, .int p1)]) hx hb dX8_leastAll_153 hl (k := 2) rfl (nI_add q8_276 1) (by decide) rfl (fun ls hl => ?_)
                              refine lv_goto (tgt := 75) hx hb dX8_leastAll_156 (by decide) ?_
                              exact ih_276 _ (q8_276 + 1 + 1, r_295) _ _ _ (by omega) ⟨rfl, (by omega), hP, hS, (by rw [nI_pred]; exact lv_sub hl [0, 3, 4, 5, 1, 6, 7, 8, 9] rfl)⟩
                            · refine lv_iload hx hb dX8_leastAll_137 (lv_at hl 0 rfl) ?_
                              refine lv_iload hx hb dX8_leastAll_139 (lv_at hl 5 rfl) ?_
                              refine lv_icmp_ge (tgt := 149) hx hb dX8_leastAll_141 (by decide) (fun c_298 => ?_) (fun c_298 => ?_)
                              · refine lv_iload hx hb dX8_leastAll_149 (lv_at hl 5 rfl) ?_
                                refine lv_istore (lv' := [(4, .int be_276), (9, .int r_295), (8, .int (nI q8_276)), (7, .int (-1)), (6, .int (-1)), (5, .int (nI q5_1)), (3, .int (nI (dn sn))), (0, .ref (a 0)), (1, .int (nI sn)), (2, .int p1)]) hx hb dX8_leastAll_151 hl (by decide) rfl (fun ls hl => ?_)
                                refine lv_iinc (v := (nI (q8_276 + 1))) (lv' := [(8, .int (nI (q8_276 + 1))), (4, .int be_276), (9, .int r_295), (7, .int (-1)), (6, .int (-1)), (5, .int (nI q5_1)), (3, .int (nI (dn sn))), (0, .ref (a 0)), (1, .int (nI sn)), (2, .int p1)]) hx hb dX8_leastAll_153 hl (k := 2) rfl (nI_add q8_276 1) (by decide) rfl (fun ls hl => ?_)
                                refine lv_goto (tgt := 75) hx hb dX8_leastAll_156 (by decide) ?_
                                exact ih_276 _ (q8_276 + 1 + 1, be_276) _ _ _ (by omega) ⟨rfl, (by omega), hP, hS, (by rw [nI_pred]; exact lv_sub hl [0, 3, 4, 5, 1, 6, 7, 8, 9] rfl)⟩
                              · refine lv_iload hx hb dX8_leastAll_144 (lv_at hl 0 rfl) ?_
                                refine lv_goto (tgt := 151) hx hb dX8_leastAll_146 (by decide) ?_
                                refine lv_istore (lv' := [(4, .int r_295), (9, .int r_295), (8, .int (nI q8_276)), (7, .int (-1)), (6, .int (-1)), (5, .int (nI q5_1)), (3, .int (nI (dn sn))), (0, .ref (a 0)), (1, .int (nI sn)), (2, .int p1)]) hx hb dX8_leastAll_151 hl (by decide) rfl (fun ls hl => ?_)
                                refine lv_iinc (v := (nI (q8_276 + 1))) (lv' := [(8, .int (nI (q8_276 + 1))), (4, .int r_295), (9, .int r_295), (7, .int (-1)), (6, .int (-1)), (5, .int (nI q5_1)), (3, .int (nI (dn sn))), (0, .ref (a 0)), (1, .int (nI sn)), (2, .int p1)]) hx hb dX8_leastAll_153 hl (k := 2) rfl (nI_add q8_276 1) (by decide) rfl (fun ls hl => ?_)
                                refine lv_goto (tgt := 75) hx hb dX8_leastAll_156 (by decide) ?_
                                exact ih_276 _ (q8_276 + 1 + 1, r_295) _ _ _ (by omega) ⟨rfl, (by omega), hP, hS, (by rw [nI_pred]; exact lv_sub hl [0, 3, 4, 5, 1, 6, 7, 8, 9] rfl)⟩
            · rw [nI_pred] at hl
              refine lv_iload hx hb dX8_leastAll_54 (lv_at hl 0 rfl) ?_
              refine lv_aload_n hx hb dX8_leastAll_56 rfl (lv_at hl 5 rfl) ?_
              refine va_get (D := D) (ci := 8) (v := .int (nI ca)) (C := RX8) (T := TX8) (N := 44) hx hb hts inX8 hown hK hP 0 rfl rfl 34 (by decide) (hts _ tw_1007) (fun _ h9 => h9) rfl dX8_leastAll_57 ?_
              refine lv_iconst (v := 2) hx hb dX8_leastAll_60 (by decide) ?_
              refine lv_icmp_le (tgt := 68) hx hb dX8_leastAll_61 (by decide) (fun c_299 => ?_) (fun c_299 => ?_)
              · have c_299 := (nI_leI (a := ca) (b := 2) (by omega) (by omega)).mp c_299
                refine lv_iconst (v := 0) hx hb dX8_leastAll_68 (by decide) ?_
                refine lv_icmp_ge (tgt := 165) hx hb dX8_leastAll_69 (by decide) (fun _ => ?_) (fun h => absurd (nI_ge0 (by omega)) h)
                refine lv_iinc (v := 0) (lv' := [(6, .int 0), (7, .int (nI q7_250)), (5, .int (nI q5_1)), (4, .int be_250), (3, .int (nI (dn sn))), (0, .ref (a 0)), (1, .int (nI sn)), (2, .int p1)]) hx hb dX8_leastAll_165 hl (k := 1) rfl (by decide) (by decide) rfl (fun ls hl => ?_)
                refine lv_goto (tgt := 33) hx hb dX8_leastAll_168 (by decide) ?_
                exact ih_248 _ (1, be_250) _ _ _ (by omega) ⟨rfl, (by omega), hP, hS, (by rw [nI_pred]; exact lv_sub hl [0, 2, 3, 4, 5, 6, 7] rfl)⟩
              · have c_299 : ¬ (ca ≤ 2) := fun h => c_299 ((nI_leI (a := ca) (b := 2) (by omega) (by omega)).mpr h)
                refine lv_iload_n hx hb dX8_leastAll_64 rfl (lv_at hl 4 rfl) ?_
                refine lv_goto (tgt := 69) hx hb dX8_leastAll_65 (by decide) ?_
                refine lv_icmp_ge (tgt := 165) hx hb dX8_leastAll_69 (by decide) (fun c_300 => ?_) (fun c_300 => ?_)
                · have c_300 := (nI_leI (a := (dn sn)) (b := q7_250) (by omega) (by omega)).mp c_300
                  refine lv_iinc (v := 0) (lv' := [(6, .int 0), (7, .int (nI q7_250)), (5, .int (nI q5_1)), (4, .int be_250), (3, .int (nI (dn sn))), (0, .ref (a 0)), (1, .int (nI sn)), (2, .int p1)]) hx hb dX8_leastAll_165 hl (k := 1) rfl (by decide) (by decide) rfl (fun ls hl => ?_)
                  refine lv_goto (tgt := 33) hx hb dX8_leastAll_168 (by decide) ?_
                  exact ih_248 _ (1, be_250) _ _ _ (by omega) ⟨rfl, (by omega), hP, hS, (by rw [nI_pred]; exact lv_sub hl [0, 2, 3, 4, 5, 6, 7] rfl)⟩
                · have c_300 : ¬ ((dn sn) ≤ q7_250) := fun h => c_300 ((nI_leI (a := (dn sn)) (b := q7_250) (by omega) (by omega)).mpr h)
                  refine lv_iconst (v := (-1)) hx hb dX8_leastAll_72 (by decide) ?_
                  refine lv_istore (lv' := [(8, .int (-1)), (7, .int (nI q7_250)), (6, .int (-1)), (5, .int (nI q5_1)), (4, .int be_250), (3, .int (nI (dn sn))), (0, .ref (a 0)), (1, .int (nI sn)), (2, .int p1)]) hx hb dX8_leastAll_73 hl (by decide) rfl (fun ls hl => ?_)
                  refine W_loop (σ := Nat × Int32) (fun (n_ : Nat) (x_ : Nat × Int32) (H : Heap) (locs : List Loc) (ls : Array Slot) => match x_ with | (q8_301, be_301) => n_ = 26 - q8_301 ∧ (q8_301 ≤ 25) ∧ va_P D classes [((a 0), .inr (8, (fX8 a (nI tx) fp (nI t0) wd (nI we) nu na (nI rd) ts (nI ru) (nI rw) (nI ca) df db sd))), (aI k (a 1) 3 (nF dn)), (aI k (a 4) 27 (sg se tm gs)), (aI k (a 3) 72 fprices), (aI k (a 36) 4 fwalks)] H ∧ va_S (fun q : Nat => s.heap.size ≤ q) s.heap H locs ∧ lv_has ls 10 [(8, .int (nI q8_301 - 1)), (7, .int (nI q7_250)), (6, .int (-1)), (5, .int (nI q5_1)), (4, .int be_301), (3, .int (nI (dn sn))), (0, .ref (a 0)), (1, .int (nI sn)), (2, .int p1)]) (fun n_301 x_301 H locs ls hI ih_301 => ?_) _ (0, be_250) ⟨rfl, (by omega), hP, hS, (by rw [dn0]; exact lv_sub hl [0, 1, 2, 3, 4, 5, 6, 7, 8] rfl)⟩
                  obtain ⟨q8_301, be_301⟩ := x_301
                  obtain ⟨hm_301, hv_301, hP, hS, hl⟩ := hI
                  subst hm_301
                  rcases q8_301 with _ | q8_301
                  · rw [dn0] at hl
                    refine lv_iload hx hb dX8_leastAll_75 (lv_at hl 0 rfl) ?_
                    refine lv_aload_n hx hb dX8_leastAll_77 rfl (lv_at hl 6 rfl) ?_
                    refine va_get (D := D) (ci := 8) (v := .int (nI ca)) (C := RX8) (T := TX8) (N := 44) hx hb hts inX8 hown hK hP 0 rfl rfl 34 (by decide) (hts _ tw_1007) (fun _ h9 => h9) rfl dX8_leastAll_78 ?_
                    refine lv_iconst (v := 3) hx hb dX8_leastAll_81 (by decide) ?_
                    refine lv_icmp_le (tgt := 89) hx hb dX8_leastAll_82 (by decide) (fun c_302 => ?_) (fun c_302 => ?_)
                    · have c_302 := (nI_leI (a := ca) (b := 3) (by omega) (by omega)).mp c_302
                      refine lv_iconst (v := 0) hx hb dX8_leastAll_89 (by decide) ?_
                      refine lv_icmp_ge (tgt := 159) hx hb dX8_leastAll_90 (by decide) (fun h => absurd h (by decide)) (fun _ => ?_)
                      refine lv_iload_n hx hb dX8_leastAll_93 rfl (lv_at hl 8 rfl) ?_
                      refine lv_iload hx hb dX8_leastAll_94 (lv_at hl 3 rfl) ?_
                      refine lv_iload hx hb dX8_leastAll_96 (lv_at hl 2 rfl) ?_
                      refine lv_iload hx hb dX8_leastAll_98 (lv_at hl 1 rfl) ?_
                      refine lv_iload hx hb dX8_leastAll_100 (lv_at hl 0 rfl) ?_
                      refine ro_i (D := D) (va_runS (As := [.int p1, .int (nI q5_1), .int (-1), .int (nI q7_250), .int (-1)]) (rest := []) ⟨hx, hb, hml, hown, hts⟩ ((m_canAll l D k st lo p1 (nI q5_1) (-1) (nI q7_250) (-1)) H.size) (va_cwS 5 hts (gS tw_1450 tw_1451 tw_87 tw_1452) rfl rfl rfl (by decide +kernel) ⟨Nat.le_of_ble_eq_true rfl, Nat.le_of_ble_eq_true rfl⟩) (pS hS hAlo hlo hP hK hDL hZ [] (by decide) rfl) rfl rfl hl.1 rfl (lv_room (Nat.le_of_ble_eq_true rfl)) dX8_leastAll_102 ⟨Nat.le_of_ble_eq_true rfl, Nat.le_of_ble_eq_true rfl⟩) hS hA hP (fun r_303 H locs hw_303 hP hS => ?_)
                      try dsimp only at hw_303
                      refine lv_if_eq (tgt := 124) hx hb dX8_leastAll_105 (by decide) (fun c_304 => ?_) (fun c_304 => ?_)
                      · refine lv_iconst (v := (-1)) hx hb dX8_leastAll_124 (by decide) ?_
                        refine lv_istore (lv' := [(9, .int (-1)), (8, .int (-1)), (7, .int (nI q7_250)), (6, .int (-1)), (5, .int (nI q5_1)), (4, .int be_301), (3, .int (nI (dn sn))), (0, .ref (a 0)), (1, .int (nI sn)), (2, .int p1)]) hx hb dX8_leastAll_125 hl (by decide) rfl (fun ls hl => ?_)
                        refine lv_iload hx hb dX8_leastAll_127 (lv_at hl 0 rfl) ?_
                        refine lv_if_lt (tgt := 149) hx hb dX8_leastAll_129 (by decide) (fun _ => ?_) (fun h => absurd (by decide) h)
                        refine lv_iload hx hb dX8_leastAll_149 (lv_at hl 5 rfl) ?_
                        refine lv_istore (lv' := [(4, .int be_301), (9, .int (-1)), (8, .int (-1)), (7, .int (nI q7_250)), (6, .int (-1)), (5, .int (nI q5_1)), (3, .int (nI (dn sn))), (0, .ref (a 0)), (1, .int (nI sn)), (2, .int p1)]) hx hb dX8_leastAll_151 hl (by decide) rfl (fun ls hl => ?_)
                        refine lv_iinc (v := 0) (lv' := [(8, .int 0), (4, .int be_301), (9, .int (-1)), (7, .int (nI q7_250)), (6, .int (-1)), (5, .int (nI q5_1)), (3, .int (nI (dn sn))), (0, .ref (a 0)), (1, .int (nI sn)), (2, .int p1)]) hx hb dX8_leastAll_153 hl (k := 2) rfl (by decide) (by decide) rfl (fun ls hl => ?_)
                        refine lv_goto (tgt := 75) hx hb dX8_leastAll_156 (by decide) ?_
                        exact ih_301 _ (1, be_301) _ _ _ (by omega) ⟨rfl, (by omega), hP, hS, (by rw [nI_pred]; exact lv_sub hl [0, 3, 4, 5, 1, 6, 7, 8, 9] rfl)⟩
                      · refine lv_aload_n hx hb dX8_leastAll_108 rfl (lv_at hl 6 rfl) ?_
                        refine lv_iload_n hx hb dX8_leastAll_109 rfl (lv_at hl 7 rfl) ?_
                        refine lv_iload hx hb dX8_leastAll_110 (lv_at hl 3 rfl) ?_
                        refine lv_iload hx hb dX8_leastAll_112 (lv_at hl 2 rfl) ?_
                        refine lv_iload hx hb dX8_leastAll_114 (lv_at hl 1 rfl) ?_
                        refine lv_iload hx hb dX8_leastAll_116 (lv_at hl 0 rfl) ?_
                        refine ro_i (D := D) (va_runV (As := [.int (nI sn), .int (nI q5_1), .int (-1), .int (nI q7_250), .int (-1)]) (rest := []) ⟨hx, hb, hml, hown, hts⟩ ((m_sumAll l D k st lo a tx t0 we rd ru rw ca fp wd nu na ts df db sd dn se tm gs fprices fwalks sn (nI q5_1) (-1) (nI q7_250) (-1) (by omega) (by omega) (.inr ⟨q5_1, by omega, rfl⟩) (.inl (by decide)) (.inr ⟨q7_250, by omega, rfl⟩) (.inl (by decide))) H.size) (cwV 5 hts (gV tw_1459 tw_1461 tw_75 tw_87 tw_1462) rfl rfl rfl (by decide +kernel) ⟨Nat.le_of_ble_eq_true rfl, Nat.le_of_ble_eq_true rfl⟩) (pV hS hAlo hlo hP hK hDL hZ [0, 1, 2, 3, 4] (by decide) rfl (ci := 8) (q := (RX8, TX8, 44)) (q0 := 0) rfl rfl) rfl rfl hl.1 rfl (lv_room (Nat.le_of_ble_eq_true rfl)) dX8_leastAll_118 ⟨Nat.le_of_ble_eq_true rfl, Nat.le_of_ble_eq_true rfl⟩) hS hA hP (fun r_305 H locs hw_305 hP hS => ?_)
                        try dsimp only at hw_305
                        refine lv_goto (tgt := 125) hx hb dX8_leastAll_121 (by decide) ?_
                        refine lv_istore (lv' := [(9, .int r_305), (8, .int (-1)), (7, .int (nI q7_250)), (6, .int (-1)), (5, .int (nI q5_1)), (4, .int be_301), (3, .int (nI (dn sn))), (0, .ref (a 0)), (1, .int (nI sn)), (2, .int p1)]) hx hb dX8_leastAll_125 hl (by decide) rfl (fun ls hl => ?_)
                        refine lv_iload hx hb dX8_leastAll_127 (lv_at hl 0 rfl) ?_
                        refine lv_if_lt (tgt := 149) hx hb dX8_leastAll_129 (by decide) (fun c_306 => ?_) (fun c_306 => ?_)
                        · refine lv_iload hx hb dX8_leastAll_149 (lv_at hl 5 rfl) ?_
                          refine lv_istore (lv' := [(4, .int be_301), (9, .int r_305), (8, .int (-1)), (7, .int (nI q7_250)), (6, .int (-1)), (5, .int (nI q5_1)), (3, .int (nI (dn sn))), (0, .ref (a 0)), (1, .int (nI sn)), (2, .int p1)]) hx hb dX8_leastAll_151 hl (by decide) rfl (fun ls hl => ?_)
                          refine lv_iinc (v := 0) (lv' := [(8, .int 0), (4, .int be_301), (9, .int r_305), (7, .int (nI q7_250)), (6, .int (-1)), (5, .int (nI q5_1)), (3, .int (nI (dn sn))), (0, .ref (a 0)), (1, .int (nI sn)), (2, .int p1)]) hx hb dX8_leastAll_153 hl (k := 2) rfl (by decide) (by decide) rfl (fun ls hl => ?_)
                          refine lv_goto (tgt := 75) hx hb dX8_leastAll_156 (by decide) ?_
                          exact ih_301 _ (1, be_301) _ _ _ (by omega) ⟨rfl, (by omega), hP, hS, (by rw [nI_pred]; exact lv_sub hl [0, 3, 4, 5, 1, 6, 7, 8, 9] rfl)⟩
                        · refine lv_iload hx hb dX8_leastAll_132 (lv_at hl 5 rfl) ?_
                          refine lv_if_lt (tgt := 144) hx hb dX8_leastAll_134 (by decide) (fun c_307 => ?_) (fun c_307 => ?_)
                          · refine lv_iload hx hb dX8_leastAll_144 (lv_at hl 0 rfl) ?_
                            refine lv_goto (tgt := 151) hx hb dX8_leastAll_146 (by decide) ?_
                            refine lv_istore (lv' := [(4, .int r_305), (9, .int r_305), (8, .int (-1)), (7, .int (nI q7_250)), (6, .int (-1)), (5, .int (nI q5_1)), (3, .int (nI (dn sn))), (0, .ref (a 0)), (1, .int (nI sn)), (2, .int p1)]) hx hb dX8_leastAll_151 hl (by decide) rfl (fun ls hl => ?_)
                            refine lv_iinc (v := 0) (lv' := [(8, .int 0), (4, .int r_305), (9, .int r_305), (7, .int (nI q7_250)), (6, .int (-1)), (5, .int (nI q5_1)), (3, .int (nI (dn sn))), (0, .ref (a 0)), (1, .int (nI sn)), (2, .int p1)]) hx hb dX8_leastAll_153 hl (k := 2) rfl (by decide) (by decide) rfl (fun ls hl => ?_)
                            refine lv_goto (tgt := 75) hx hb dX8_leastAll_156 (by decide) ?_
                            exact ih_301 _ (1, r_305) _ _ _ (by omega) ⟨rfl, (by omega), hP, hS, (by rw [nI_pred]; exact lv_sub hl [0, 3, 4, 5, 1, 6, 7, 8, 9] rfl)⟩
                          · refine lv_iload hx hb dX8_leastAll_137 (lv_at hl 0 rfl) ?_
                            refine lv_iload hx hb dX8_leastAll_139 (lv_at hl 5 rfl) ?_
                            refine lv_icmp_ge (tgt := 149) hx hb dX8_leastAll_141 (by decide) (fun c_308 => ?_) (fun c_308 => ?_)
                            · refine lv_iload hx hb dX8_leastAll_149 (lv_at hl 5 rfl) ?_
                              refine lv_istore (lv' := [(4, .int be_301), (9, .int r_305), (8, .int (-1)), (7, .int (nI q7_250)), (6, .int (-1)), (5, .int (nI q5_1)), (3, .int (nI (dn sn))), (0, .ref (a 0)), (1, .int (nI sn)), (2, .int p1)]) hx hb dX8_leastAll_151 hl (by decide) rfl (fun ls hl => ?_)
                              refine lv_iinc (v := 0) (lv' := [(8, .int 0), (4, .int be_301), (9, .int r_305), (7, .int (nI q7_250)), (6, .int (-1)), (5, .int (nI q5_1)), (3, .int (nI (dn sn))), (0, .ref (a 0)), (1, .int (nI sn)), (2, .int p1)]) hx hb dX8_leastAll_153 hl (k := 2) rfl (by decide) (by decide) rfl (fun ls hl => ?_)
                              refine lv_goto (tgt := 75) hx hb dX8_leastAll_156 (by decide) ?_
                              exact ih_301 _ (1, be_301) _ _ _ (by omega) ⟨rfl, (by omega), hP, hS, (by rw [nI_pred]; exact lv_sub hl [0, 3, 4, 5, 1, 6, 7, 8, 9] rfl)⟩
                            · refine lv_iload hx hb dX8_leastAll_144 (lv_at hl 0 rfl) ?_
                              refine lv_goto (tgt := 151) hx hb dX8_leastAll_146 (by decide) ?_
                              refine lv_istore (lv' := [(4, .int r_305), (9, .int r_305), (8, .int (-1)), (7, .int (nI q7_250)), (6, .int (-1)), (5, .int (nI q5_1)), (3, .int (nI (dn sn))), (0, .ref (a 0)), (1, .int (nI sn)), (2, .int p1)]) hx hb dX8_leastAll_151 hl (by decide) rfl (fun ls hl => ?_)
                              refine lv_iinc (v := 0) (lv' := [(8, .int 0), (4, .int r_305), (9, .int r_305), (7, .int (nI q7_250)), (6, .int (-1)), (5, .int (nI q5_1)), (3, .int (nI (dn sn))), (0, .ref (a 0)), (1, .int (nI sn)), (2, .int p1)]) hx hb dX8_leastAll_153 hl (k := 2) rfl (by decide) (by decide) rfl (fun ls hl => ?_)
                              refine lv_goto (tgt := 75) hx hb dX8_leastAll_156 (by decide) ?_
                              exact ih_301 _ (1, r_305) _ _ _ (by omega) ⟨rfl, (by omega), hP, hS, (by rw [nI_pred]; exact lv_sub hl [0, 3, 4, 5, 1, 6, 7, 8, 9] rfl)⟩
                    · have c_302 : ¬ (ca ≤ 3) := fun h => c_302 ((nI_leI (a := ca) (b := 3) (by omega) (by omega)).mpr h)
                      refine lv_iload_n hx hb dX8_leastAll_85 rfl (lv_at hl 5 rfl) ?_
                      refine lv_goto (tgt := 90) hx hb dX8_leastAll_86 (by decide) ?_
                      refine lv_icmp_ge (tgt := 159) hx hb dX8_leastAll_90 (by decide) (fun c_309 => ?_) (fun c_309 => ?_)
                      · refine lv_iinc (v := (nI (q7_250 + 1))) (lv' := [(7, .int (nI (q7_250 + 1))), (8, .int (-1)), (6, .int (-1)), (5, .int (nI q5_1)), (4, .int be_301), (3, .int (nI (dn sn))), (0, .ref (a 0)), (1, .int (nI sn)), (2, .int p1)]) hx hb dX8_leastAll_159 hl (k := 1) rfl (nI_add q7_250 1) (by decide) rfl (fun ls hl => ?_)
                        refine lv_goto (tgt := 54) hx hb dX8_leastAll_162 (by decide) ?_
                        exact ih_250 _ (q7_250 + 1 + 1, be_301) _ _ _ (by omega) ⟨rfl, (by omega), hP, hS, (by rw [nI_pred]; exact lv_sub hl [0, 2, 3, 4, 5, 6, 7, 8] rfl)⟩
                      · refine lv_iload_n hx hb dX8_leastAll_93 rfl (lv_at hl 8 rfl) ?_
                        refine lv_iload hx hb dX8_leastAll_94 (lv_at hl 3 rfl) ?_
                        refine lv_iload hx hb dX8_leastAll_96 (lv_at hl 2 rfl) ?_
                        refine lv_iload hx hb dX8_leastAll_98 (lv_at hl 1 rfl) ?_
                        refine lv_iload hx hb dX8_leastAll_100 (lv_at hl 0 rfl) ?_
                        refine ro_i (D := D) (va_runS (As := [.int p1, .int (nI q5_1), .int (-1), .int (nI q7_250), .int (-1)]) (rest := []) ⟨hx, hb, hml, hown, hts⟩ ((m_canAll l D k st lo p1 (nI q5_1) (-1) (nI q7_250) (-1)) H.size) (va_cwS 5 hts (gS tw_1450 tw_1451 tw_87 tw_1452) rfl rfl rfl (by decide +kernel) ⟨Nat.le_of_ble_eq_true rfl, Nat.le_of_ble_eq_true rfl⟩) (pS hS hAlo hlo hP hK hDL hZ [] (by decide) rfl) rfl rfl hl.1 rfl (lv_room (Nat.le_of_ble_eq_true rfl)) dX8_leastAll_102 ⟨Nat.le_of_ble_eq_true rfl, Nat.le_of_ble_eq_true rfl⟩) hS hA hP (fun r_310 H locs hw_310 hP hS => ?_)
                        try dsimp only at hw_310
                        refine lv_if_eq (tgt := 124) hx hb dX8_leastAll_105 (by decide) (fun c_311 => ?_) (fun c_311 => ?_)
                        · refine lv_iconst (v := (-1)) hx hb dX8_leastAll_124 (by decide) ?_
                          refine lv_istore (lv' := [(9, .int (-1)), (8, .int (-1)), (7, .int (nI q7_250)), (6, .int (-1)), (5, .int (nI q5_1)), (4, .int be_301), (3, .int (nI (dn sn))), (0, .ref (a 0)), (1, .int (nI sn)), (2, .int p1)]) hx hb dX8_leastAll_125 hl (by decide) rfl (fun ls hl => ?_)
                          refine lv_iload hx hb dX8_leastAll_127 (lv_at hl 0 rfl) ?_
                          refine lv_if_lt (tgt := 149) hx hb dX8_leastAll_129 (by decide) (fun _ => ?_) (fun h => absurd (by decide) h)
                          refine lv_iload hx hb dX8_leastAll_149 (lv_at hl 5 rfl) ?_
                          refine lv_istore (lv' := [(4, .int be_301), (9, .int (-1)), (8, .int (-1)), (7, .int (nI q7_250)), (6, .int (-1)), (5, .int (nI q5_1)), (3, .int (nI (dn sn))), (0, .ref (a 0)), (1, .int (nI sn)), (2, .int p1)]) hx hb dX8_leastAll_151 hl (by decide) rfl (fun ls hl => ?_)
                          refine lv_iinc (v := 0) (lv' := [(8, .int 0), (4, .int be_301), (9, .int (-1)), (7, .int (nI q7_250)), (6, .int (-1)), (5, .int (nI q5_1)), (3, .int (nI (dn sn))), (0, .ref (a 0)), (1, .int (nI sn)), (2, .int p1)]) hx hb dX8_leastAll_153 hl (k := 2) rfl (by decide) (by decide) rfl (fun ls hl => ?_)
                          refine lv_goto (tgt := 75) hx hb dX8_leastAll_156 (by decide) ?_
                          exact ih_301 _ (1, be_301) _ _ _ (by omega) ⟨rfl, (by omega), hP, hS, (by rw [nI_pred]; exact lv_sub hl [0, 3, 4, 5, 1, 6, 7, 8, 9] rfl)⟩
                        · refine lv_aload_n hx hb dX8_leastAll_108 rfl (lv_at hl 6 rfl) ?_
                          refine lv_iload_n hx hb dX8_leastAll_109 rfl (lv_at hl 7 rfl) ?_
                          refine lv_iload hx hb dX8_leastAll_110 (lv_at hl 3 rfl) ?_
                          refine lv_iload hx hb dX8_leastAll_112 (lv_at hl 2 rfl) ?_
                          refine lv_iload hx hb dX8_leastAll_114 (lv_at hl 1 rfl) ?_
                          refine lv_iload hx hb dX8_leastAll_116 (lv_at hl 0 rfl) ?_
                          refine ro_i (D := D) (va_runV (As := [.int (nI sn), .int (nI q5_1), .int (-1), .int (nI q7_250), .int (-1)]) (rest := []) ⟨hx, hb, hml, hown, hts⟩ ((m_sumAll l D k st lo a tx t0 we rd ru rw ca fp wd nu na ts df db sd dn se tm gs fprices fwalks sn (nI q5_1) (-1) (nI q7_250) (-1) (by omega) (by omega) (.inr ⟨q5_1, by omega, rfl⟩) (.inl (by decide)) (.inr ⟨q7_250, by omega, rfl⟩) (.inl (by decide))) H.size) (cwV 5 hts (gV tw_1459 tw_1461 tw_75 tw_87 tw_1462) rfl rfl rfl (by decide +kernel) ⟨Nat.le_of_ble_eq_true rfl, Nat.le_of_ble_eq_true rfl⟩) (pV hS hAlo hlo hP hK hDL hZ [0, 1, 2, 3, 4] (by decide) rfl (ci := 8) (q := (RX8, TX8, 44)) (q0 := 0) rfl rfl) rfl rfl hl.1 rfl (lv_room (Nat.le_of_ble_eq_true rfl)) dX8_leastAll_118 ⟨Nat.le_of_ble_eq_true rfl, Nat.le_of_ble_eq_true rfl⟩) hS hA hP (fun r_312 H locs hw_312 hP hS => ?_)
                          try dsimp only at hw_312
                          refine lv_goto (tgt := 125) hx hb dX8_leastAll_121 (by decide) ?_
                          refine lv_istore (lv' := [(9, .int r_312), (8, .int (-1)), (7, .int (nI q7_250)), (6, .int (-1)), (5, .int (nI q5_1)), (4, .int be_301), (3, .int (nI (dn sn))), (0, .ref (a 0)), (1, .int (nI sn)), (2, .int p1)]) hx hb dX8_leastAll_125 hl (by decide) rfl (fun ls hl => ?_)
                          refine lv_iload hx hb dX8_leastAll_127 (lv_at hl 0 rfl) ?_
                          refine lv_if_lt (tgt := 149) hx hb dX8_leastAll_129 (by decide) (fun c_313 => ?_) (fun c_313 => ?_)
                          · refine lv_iload hx hb dX8_leastAll_149 (lv_at hl 5 rfl) ?_
                            refine lv_istore (lv' := [(4, .int be_301), (9, .int r_312), (8, .int (-1)), (7, .int (nI q7_250)), (6, .int (-1)), (5, .int (nI q5_1)), (3, .int (nI (dn sn))), (0, .ref (a 0)), (1, .int (nI sn)), (2, .int p1)]) hx hb dX8_leastAll_151 hl (by decide) rfl (fun ls hl => ?_)
                            refine lv_iinc (v := 0) (lv' := [(8, .int 0), (4, .int be_301), (9, .int r_312), (7, .int (nI q7_250)), (6, .int (-1)), (5, .int (nI q5_1)), (3, .int (nI (dn sn))), (0, .ref (a 0)), (1, .int (nI sn)), (2, .int p1)]) hx hb dX8_leastAll_153 hl (k := 2) rfl (by decide) (by decide) rfl (fun ls hl => ?_)
                            refine lv_goto (tgt := 75) hx hb dX8_leastAll_156 (by decide) ?_
                            exact ih_301 _ (1, be_301) _ _ _ (by omega) ⟨rfl, (by omega), hP, hS, (by rw [nI_pred]; exact lv_sub hl [0, 3, 4, 5, 1, 6, 7, 8, 9] rfl)⟩
                          · refine lv_iload hx hb dX8_leastAll_132 (lv_at hl 5 rfl) ?_
                            refine lv_if_lt (tgt := 144) hx hb dX8_leastAll_134 (by decide) (fun c_314 => ?_) (fun c_314 => ?_)
                            · refine lv_iload hx hb dX8_leastAll_144 (lv_at hl 0 rfl) ?_
                              refine lv_goto (tgt := 151) hx hb dX8_leastAll_146 (by decide) ?_
                              refine lv_istore (lv' := [(4, .int r_312), (9, .int r_312), (8, .int (-1)), (7, .int (nI q7_250)), (6, .int (-1)), (5, .int (nI q5_1)), (3, .int (nI (dn sn))), (0, .ref (a 0)), (1, .int (nI sn)), (2, .int p1)]) hx hb dX8_leastAll_151 hl (by decide) rfl (fun ls hl => ?_)
                              refine lv_iinc (v := 0) (lv' := [(8, .int 0), (4, .int r_312), (9, .int r_312), (7, .int (nI q7_250)), (6, .int (-1)), (5, .int (nI q5_1)), (3, .int (nI (dn sn))), (0, .ref (a 0)), (1, .int (nI sn)), (2, .int p1)]) hx hb dX8_leastAll_153 hl (k := 2) rfl (by decide) (by decide) rfl (fun ls hl => ?_)
                              refine lv_goto (tgt := 75) hx hb dX8_leastAll_156 (by decide) ?_
                              exact ih_301 _ (1, r_312) _ _ _ (by omega) ⟨rfl, (by omega), hP, hS, (by rw [nI_pred]; exact lv_sub hl [0, 3, 4, 5, 1, 6, 7, 8, 9] rfl)⟩
                            · refine lv_iload hx hb dX8_leastAll_137 (lv_at hl 0 rfl) ?_
                              refine lv_iload hx hb dX8_leastAll_139 (lv_at hl 5 rfl) ?_
                              refine lv_icmp_ge (tgt := 149) hx hb dX8_leastAll_141 (by decide) (fun c_315 => ?_) (fun c_315 => ?_)
                              · refine lv_iload hx hb dX8_leastAll_149 (lv_at hl 5 rfl) ?_
                                refine lv_istore (lv' := [(4, .int be_301), (9, .int r_312), (8, .int (-1)), (7, .int (nI q7_250)), (6, .int (-1)), (5, .int (nI q5_1)), (3, .int (nI (dn sn))), (0, .ref (a 0)), (1, .int (nI sn)), (2, .int p1)]) hx hb dX8_leastAll_151 hl (by decide) rfl (fun ls hl => ?_)
                                refine lv_iinc (v := 0) (lv' := [(8, .int 0), (4, .int be_301), (9, .int r_312), (7, .int (nI q7_250)), (6, .int (-1)), (5, .int (nI q5_1)), (3, .int (nI (dn sn))), (0, .ref (a 0)), (1, .int (nI sn)), (2, .int p1)]) hx hb dX8_leastAll_153 hl (k := 2) rfl (by decide) (by decide) rfl (fun ls hl => ?_)
                                refine lv_goto (tgt := 75) hx hb dX8_leastAll_156 (by decide) ?_
                                exact ih_301 _ (1, be_301) _ _ _ (by omega) ⟨rfl, (by omega), hP, hS, (by rw [nI_pred]; exact lv_sub hl [0, 3, 4, 5, 1, 6, 7, 8, 9] rfl)⟩
                              · refine lv_iload hx hb dX8_leastAll_144 (lv_at hl 0 rfl) ?_
                                refine lv_goto (tgt := 151) hx hb dX8_leastAll_146 (by decide) ?_
                                refine lv_istore (lv' := [(4, .int r_312), (9, .int r_312), (8, .int (-1)), (7, .int (nI q7_250)), (6, .int (-1)), (5, .int (nI q5_1)), (3, .int (nI (dn sn))), (0, .ref (a 0)), (1, .int (nI sn)), (2, .int p1)]) hx hb dX8_leastAll_151 hl (by decide) rfl (fun ls hl => ?_)
                                refine lv_iinc (v := 0) (lv' := [(8, .int 0), (4, .int r_312), (9, .int r_312), (7, .int (nI q7_250)), (6, .int (-1)), (5, .int (nI q5_1)), (3, .int (nI (dn sn))), (0, .ref (a 0)), (1, .int (nI sn)), (2, .int p1)]) hx hb dX8_leastAll_153 hl (k := 2) rfl (by decide) (by decide) rfl (fun ls hl => ?_)
                                refine lv_goto (tgt := 75) hx hb dX8_leastAll_156 (by decide) ?_
                                exact ih_301 _ (1, r_312) _ _ _ (by omega) ⟨rfl, (by omega), hP, hS, (by rw [nI_pred]; exact lv_sub hl [0, 3, 4, 5, 1, 6, 7, 8, 9] rfl)⟩
                  · rw [nI_pred] at hl
                    refine lv_iload hx hb dX8_leastAll_75 (lv_at hl 0 rfl) ?_
                    refine lv_aload_n hx hb dX8_leastAll_77 rfl (lv_at hl 6 rfl) ?_
                    refine va_get (D := D) (ci := 8) (v := .int (nI ca)) (C := RX8) (T := TX8) (N := 44) hx hb hts inX8 hown hK hP 0 rfl rfl 34 (by decide) (hts _ tw_1007) (fun _ h9 => h9) rfl dX8_leastAll_78 ?_
                    refine lv_iconst (v := 3) hx hb dX8_leastAll_81 (by decide) ?_
                    refine lv_icmp_le (tgt := 89) hx hb dX8_leastAll_82 (by decide) (fun c_316 => ?_) (fun c_316 => ?_)
                    · have c_316 := (nI_leI (a := ca) (b := 3) (by omega) (by omega)).mp c_316
                      refine lv_iconst (v := 0) hx hb dX8_leastAll_89 (by decide) ?_
                      refine lv_icmp_ge (tgt := 159) hx hb dX8_leastAll_90 (by decide) (fun _ => ?_) (fun h => absurd (nI_ge0 (by omega)) h)
                      refine lv_iinc (v := (nI (q7_250 + 1))) (lv' := [(7, .int (nI (q7_250 + 1))), (8, .int (nI q8_301)), (6, .int (-1)), (5, .int (nI q5_1)), (4, .int be_301), (3, .int (nI (dn sn))), (0, .ref (a 0)), (1, .int (nI sn)), (2, .int p1)]) hx hb dX8_leastAll_159 hl (k := 1) rfl (nI_add q7_250 1) (by decide) rfl (fun ls hl => ?_)
                      refine lv_goto (tgt := 54) hx hb dX8_leastAll_162 (by decide) ?_
                      exact ih_250 _ (q7_250 + 1 + 1, be_301) _ _ _ (by omega) ⟨rfl, (by omega), hP, hS, (by rw [nI_pred]; exact lv_sub hl [0, 2, 3, 4, 5, 6, 7, 8] rfl)⟩
                    · have c_316 : ¬ (ca ≤ 3) := fun h => c_316 ((nI_leI (a := ca) (b := 3) (by omega) (by omega)).mpr h)
                      refine lv_iload_n hx hb dX8_leastAll_85 rfl (lv_at hl 5 rfl) ?_
                      refine lv_goto (tgt := 90) hx hb dX8_leastAll_86 (by decide) ?_
                      refine lv_icmp_ge (tgt := 159) hx hb dX8_leastAll_90 (by decide) (fun c_317 => ?_) (fun c_317 => ?_)
                      · have c_317 := (nI_leI (a := (dn sn)) (b := q8_301) (by omega) (by omega)).mp c_317
                        refine lv_iinc (v := (nI (q7_250 + 1))) (lv' := [(7, .int (nI (q7_250 + 1))), (8, .int (nI q8_301)), (6, .int (-1)), (5, .int (nI q5_1)), (4, .int be_301), (3, .int (nI (dn sn))), (0, .ref (a 0)), (1, .int (nI sn)), (2, .int p1)]) hx hb dX8_leastAll_159 hl (k := 1) rfl (nI_add q7_250 1) (by decide) rfl (fun ls hl => ?_)
                        refine lv_goto (tgt := 54) hx hb dX8_leastAll_162 (by decide) ?_
                        exact ih_250 _ (q7_250 + 1 + 1, be_301) _ _ _ (by omega) ⟨rfl, (by omega), hP, hS, (by rw [nI_pred]; exact lv_sub hl [0, 2, 3, 4, 5, 6, 7, 8] rfl)⟩
                      · have c_317 : ¬ ((dn sn) ≤ q8_301) := fun h => c_317 ((nI_leI (a := (dn sn)) (b := q8_301) (by omega) (by omega)).mpr h)
                        refine lv_iload_n hx hb dX8_leastAll_93 rfl (lv_at hl 8 rfl) ?_
                        refine lv_iload hx hb dX8_leastAll_94 (lv_at hl 3 rfl) ?_
                        refine lv_iload hx hb dX8_leastAll_96 (lv_at hl 2 rfl) ?_
                        refine lv_iload hx hb dX8_leastAll_98 (lv_at hl 1 rfl) ?_
                        refine lv_iload hx hb dX8_leastAll_100 (lv_at hl 0 rfl) ?_
                        refine ro_i (D := D) (va_runS (As := [.int p1, .int (nI q5_1), .int (-1), .int (nI q7_250), .int (nI q8_301)]) (rest := []) ⟨hx, hb, hml, hown, hts⟩ ((m_canAll l D k st lo p1 (nI q5_1) (-1) (nI q7_250) (nI q8_301)) H.size) (va_cwS 5 hts (gS tw_1450 tw_1451 tw_87 tw_1452) rfl rfl rfl (by decide +kernel) ⟨Nat.le_of_ble_eq_true rfl, Nat.le_of_ble_eq_true rfl⟩) (pS hS hAlo hlo hP hK hDL hZ [] (by decide) rfl) rfl rfl hl.1 rfl (lv_room (Nat.le_of_ble_eq_true rfl)) dX8_leastAll_102 ⟨Nat.le_of_ble_eq_true rfl, Nat.le_of_ble_eq_true rfl⟩) hS hA hP (fun r_318 H locs hw_318 hP hS => ?_)
                        try dsimp only at hw_318
                        refine lv_if_eq (tgt := 124) hx hb dX8_leastAll_105 (by decide) (fun c_319 => ?_) (fun c_319 => ?_)
                        · refine lv_iconst (v := (-1)) hx hb dX8_leastAll_124 (by decide) ?_
                          refine lv_istore (lv' := [(9, .int (-1)), (8, .int (nI q8_301)), (7, .int (nI q7_250)), (6, .int (-1)), (5, .int (nI q5_1)), (4, .int be_301), (3, .int (nI (dn sn))), (0, .ref (a 0)), (1, .int (nI sn)), (2, .int p1)]) hx hb dX8_leastAll_125 hl (by decide) rfl (fun ls hl => ?_)
                          refine lv_iload hx hb dX8_leastAll_127 (lv_at hl 0 rfl) ?_
                          refine lv_if_lt (tgt := 149) hx hb dX8_leastAll_129 (by decide) (fun _ => ?_) (fun h => absurd (by decide) h)
                          refine lv_iload hx hb dX8_leastAll_149 (lv_at hl 5 rfl) ?_
                          refine lv_istore (lv' := [(4, .int be_301), (9, .int (-1)), (8, .int (nI q8_301)), (7, .int (nI q7_250)), (6, .int (-1)), (5, .int (nI q5_1)), (3, .int (nI (dn sn))), (0, .ref (a 0)), (1, .int (nI sn)), (2, .int p1)]) hx hb dX8_leastAll_151 hl (by decide) rfl (fun ls hl => ?_)
                          refine lv_iinc (v := (nI (q8_301 + 1))) (lv' := [(8, .int (nI (q8_301 + 1))), (4, .int be_301), (9, .int (-1)), (7, .int (nI q7_250)), (6, .int (-1)), (5, .int (nI q5_1)), (3, .int (nI (dn sn))), (0, .ref (a 0)), (1, .int (nI sn)), (2, .int p1)]) hx hb dX8_leastAll_153 hl (k := 2) rfl (nI_add q8_301 1) (by decide) rfl (fun ls hl => ?_)
                          refine lv_goto (tgt := 75) hx hb dX8_leastAll_156 (by decide) ?_
                          exact ih_301 _ (q8_301 + 1 + 1, be_301) _ _ _ (by omega) ⟨rfl, (by omega), hP, hS, (by rw [nI_pred]; exact lv_sub hl [0, 3, 4, 5, 1, 6, 7, 8, 9] rfl)⟩
                        · refine lv_aload_n hx hb dX8_leastAll_108 rfl (lv_at hl 6 rfl) ?_
                          refine lv_iload_n hx hb dX8_leastAll_109 rfl (lv_at hl 7 rfl) ?_
                          refine lv_iload hx hb dX8_leastAll_110 (lv_at hl 3 rfl) ?_
                          refine lv_iload hx hb dX8_leastAll_112 (lv_at hl 2 rfl) ?_
                          refine lv_iload hx hb dX8_leastAll_114 (lv_at hl 1 rfl) ?_
                          refine lv_iload hx hb dX8_leastAll_116 (lv_at hl 0 rfl) ?_
                          refine ro_i (D := D) (va_runV (As := [.int (nI sn), .int (nI q5_1), .int (-1), .int (nI q7_250), .int (nI q8_301)]) (rest := []) ⟨hx, hb, hml, hown, hts⟩ ((m_sumAll l D k st lo a tx t0 we rd ru rw ca fp wd nu na ts df db sd dn se tm gs fprices fwalks sn (nI q5_1) (-1) (nI q7_250) (nI q8_301) (by omega) (by omega) (.inr ⟨q5_1, by omega, rfl⟩) (.inl (by decide)) (.inr ⟨q7_250, by omega, rfl⟩) (.inr ⟨q8_301, by omega, rfl⟩)) H.size) (cwV 5 hts (gV tw_1459 tw_1461 tw_75 tw_87 tw_1462) rfl rfl rfl (by decide +kernel) ⟨Nat.le_of_ble_eq_true rfl, Nat.le_of_ble_eq_true rfl⟩) (pV hS hAlo hlo hP hK hDL hZ [0, 1, 2, 3, 4] (by decide) rfl (ci := 8) (q := (RX8, TX8, 44)) (q0 := 0) rfl rfl) rfl rfl hl.1 rfl (lv_room (Nat.le_of_ble_eq_true rfl)) dX8_leastAll_118 ⟨Nat.le_of_ble_eq_true rfl, Nat.le_of_ble_eq_true rfl⟩) hS hA hP (fun r_320 H locs hw_320 hP hS => ?_)
                          try dsimp only at hw_320
                          refine lv_goto (tgt := 125) hx hb dX8_leastAll_121 (by decide) ?_
                          refine lv_istore (lv' := [(9, .int r_320), (8, .int (nI q8_301)), (7, .int (nI q7_250)), (6, .int (-1)), (5, .int (nI q5_1)), (4, .int be_301), (3, .int (nI (dn sn))), (0, .ref (a 0)), (1, .int (nI sn)), (2, .int p1)]) hx hb dX8_leastAll_125 hl (by decide) rfl (fun ls hl => ?_)
                          refine lv_iload hx hb dX8_leastAll_127 (lv_at hl 0 rfl) ?_
                          refine lv_if_lt (tgt := 149) hx hb dX8_leastAll_129 (by decide) (fun c_321 => ?_) (fun c_321 => ?_)
                          · refine lv_iload hx hb dX8_leastAll_149 (lv_at hl 5 rfl) ?_
                            refine lv_istore (lv' := [(4, .int be_301), (9, .int r_320), (8, .int (nI q8_301)), (7, .int (nI q7_250)), (6, .int (-1)), (5, .int (nI q5_1)), (3, .int (nI (dn sn))), (0, .ref (a 0)), (1, .int (nI sn)), (2, .int p1)]) hx hb dX8_leastAll_151 hl (by decide) rfl (fun ls hl => ?_)
                            refine lv_iinc (v := (nI (q8_301 + 1))) (lv' := [(8, .int (nI (q8_301 + 1))), (4, .int be_301), (9, .int r_320), (7, .int (nI q7_250)), (6, .int (-1)), (5, .int (nI q5_1)), (3, .int (nI (dn sn))), (0, .ref (a 0)), (1, .int (nI sn)), (2, .int p1)]) hx hb dX8_leastAll_153 hl (k := 2) rfl (nI_add q8_301 1) (by decide) rfl (fun ls hl => ?_)
                            refine lv_goto (tgt := 75) hx hb dX8_leastAll_156 (by decide) ?_
                            exact ih_301 _ (q8_301 + 1 + 1, be_301) _ _ _ (by omega) ⟨rfl, (by omega), hP, hS, (by rw [nI_pred]; exact lv_sub hl [0, 3, 4, 5, 1, 6, 7, 8, 9] rfl)⟩
                          · refine lv_iload hx hb dX8_leastAll_132 (lv_at hl 5 rfl) ?_
                            refine lv_if_lt (tgt := 144) hx hb dX8_leastAll_134 (by decide) (fun c_322 => ?_) (fun c_322 => ?_)
                            · refine lv_iload hx hb dX8_leastAll_144 (lv_at hl 0 rfl) ?_
                              refine lv_goto (tgt := 151) hx hb dX8_leastAll_146 (by decide) ?_
                              refine lv_istore (lv' := [(4, .int r_320), (9, .int r_320), (8, .int (nI q8_301)), (7, .int (nI q7_250)), (6, .int (-1)), (5, .int (nI q5_1)), (3, .int (nI (dn sn))), (0, .ref (a 0)), (1, .int (nI sn)), (2, .int p1)]) hx hb dX8_leastAll_151 hl (by decide) rfl (fun ls hl => ?_)
                              refine lv_iinc (v := (nI (q8_301 + 1))) (lv' := [(8, .int (nI (q8_301 + 1))), (4, .int r_320), (9, .int r_320), (7, .int (nI q7_250)), (6, .int (-1)), (5, .int (nI q5_1)), (3, .int (nI (dn sn))), (0, .ref (a 0)), (1, .int (nI sn)), (2, .int p1)]) hx hb dX8_leastAll_153 hl (k := 2) rfl (nI_add q8_301 1) (by decide) rfl (fun ls hl => ?_)
                              refine lv_goto (tgt := 75) hx hb dX8_leastAll_156 (by decide) ?_
                              exact ih_301 _ (q8_301 + 1 + 1, r_320) _ _ _ (by omega) ⟨rfl, (by omega), hP, hS, (by rw [nI_pred]; exact lv_sub hl [0, 3, 4, 5, 1, 6, 7, 8, 9] rfl)⟩
                            · refine lv_iload hx hb dX8_leastAll_137 (lv_at hl 0 rfl) ?_
                              refine lv_iload hx hb dX8_leastAll_139 (lv_at hl 5 rfl) ?_
                              refine lv_icmp_ge (tgt := 149) hx hb dX8_leastAll_141 (by decide) (fun c_323 => ?_) (fun c_323 => ?_)
                              · refine lv_iload hx hb dX8_leastAll_149 (lv_at hl 5 rfl) ?_
                                refine lv_istore (lv' := [(4, .int be_301), (9, .int r_320), (8, .int (nI q8_301)), (7, .int (nI q7_250)), (6, .int (-1)), (5, .int (nI q5_1)), (3, .int (nI (dn sn))), (0, .ref (a 0)), (1, .int (nI sn)), (2, .int p1)]) hx hb dX8_leastAll_151 hl (by decide) rfl (fun ls hl => ?_)
                                refine lv_iinc (v := (nI (q8_301 + 1))) (lv' := [(8, .int (nI (q8_301 + 1))), (4, .int be_301), (9, .int r_320), (7, .int (nI q7_250)), (6, .int (-1)), (5, .int (nI q5_1)), (3, .int (nI (dn sn))), (0, .ref (a 0)), (1, .int (nI sn)), (2, .int p1)]) hx hb dX8_leastAll_153 hl (k := 2) rfl (nI_add q8_301 1) (by decide) rfl (fun ls hl => ?_)
                                refine lv_goto (tgt := 75) hx hb dX8_leastAll_156 (by decide) ?_
                                exact ih_301 _ (q8_301 + 1 + 1, be_301) _ _ _ (by omega) ⟨rfl, (by omega), hP, hS, (by rw [nI_pred]; exact lv_sub hl [0, 3, 4, 5, 1, 6, 7, 8, 9] rfl)⟩
                              · refine lv_iload hx hb dX8_leastAll_144 (lv_at hl 0 rfl) ?_
                                refine lv_goto (tgt := 151) hx hb dX8_leastAll_146 (by decide) ?_
                                refine lv_istore (lv' := [(4, .int r_320), (9, .int r_320), (8, .int (nI q8_301)), (7, .int (nI q7_250)), (6, .int (-1)), (5, .int (nI q5_1)), (3, .int (nI (dn sn))), (0, .ref (a 0)), (1, .int (nI sn)), (2, .int p1)]) hx hb dX8_leastAll_151 hl (by decide) rfl (fun ls hl => ?_)
                                refine lv_iinc (v := (nI (q8_301 + 1))) (lv' := [(8, .int (nI (q8_301 + 1))), (4, .int r_320), (9, .int r_320), (7, .int (nI q7_250)), (6, .int (-1)), (5, .int (nI q5_1)), (3, .int (nI (dn sn))), (0, .ref (a 0)), (1, .int (nI sn)), (2, .int p1)]) hx hb dX8_leastAll_153 hl (k := 2) rfl (nI_add q8_301 1) (by decide) rfl (fun ls hl => ?_)
                                refine lv_goto (tgt := 75) hx hb dX8_leastAll_156 (by decide) ?_
                                exact ih_301 _ (q8_301 + 1 + 1, r_320) _ _ _ (by omega) ⟨rfl, (by omega), hP, hS, (by rw [nI_pred]; exact lv_sub hl [0, 3, 4, 5, 1, 6, 7, 8, 9] rfl)⟩
          · have c_249 : ¬ (ca ≤ 1) := fun h => c_249 ((nI_leI (a := ca) (b := 1) (by omega) (by omega)).mpr h)
            refine lv_iload_n hx hb dX8_leastAll_43 rfl (lv_at hl 3 rfl) ?_
            refine lv_goto (tgt := 48) hx hb dX8_leastAll_44 (by decide) ?_
            refine lv_icmp_ge (tgt := 171) hx hb dX8_leastAll_48 (by decide) (fun c_324 => ?_) (fun c_324 => ?_)
            · refine lv_iinc (v := (nI (q5_1 + 1))) (lv' := [(5, .int (nI (q5_1 + 1))), (6, .int (-1)), (4, .int be_248), (3, .int (nI (dn sn))), (0, .ref (a 0)), (1, .int (nI sn)), (2, .int p1)]) hx hb dX8_leastAll_171 hl (k := 1) rfl (nI_add q5_1 1) (by decide) rfl (fun ls hl => ?_)
              refine lv_goto (tgt := 13) hx hb dX8_leastAll_174 (by decide) ?_
              exact ih_1 _ (q5_1 + 1 + 1, be_248) _ _ _ (by omega) ⟨rfl, (by omega), hP, hS, (by rw [nI_pred]; exact lv_sub hl [0, 2, 3, 4, 5, 6] rfl)⟩
            · refine lv_iconst (v := (-1)) hx hb dX8_leastAll_51 (by decide) ?_
              refine lv_istore (lv' := [(7, .int (-1)), (6, .int (-1)), (5, .int (nI q5_1)), (4, .int be_248), (3, .int (nI (dn sn))), (0, .ref (a 0)), (1, .int (nI sn)), (2, .int p1)]) hx hb dX8_leastAll_52 hl (by decide) rfl (fun ls hl => ?_)
              refine W_loop (σ := Nat × Int32) (fun (n_ : Nat) (x_ : Nat × Int32) (H : Heap) (locs : List Loc) (ls : Array Slot) => match x_ with | (q7_325, be_325) => n_ = 26 - q7_325 ∧ (q7_325 ≤ 25) ∧ va_P D classes [((a 0), .inr (8, (fX8 a (nI tx) fp (nI t0) wd (nI we) nu na (nI rd) ts (nI ru) (nI rw) (nI ca) df db sd))), (aI k (a 1) 3 (nF dn)), (aI k (a 4) 27 (sg se tm gs)), (aI k (a 3) 72 fprices), (aI k (a 36) 4 fwalks)] H ∧ va_S (fun q : Nat => s.heap.size ≤ q) s.heap H locs ∧ lv_has ls 10 [(7, .int (nI q7_325 - 1)), (6, .int (-1)), (5, .int (nI q5_1)), (4, .int be_325), (3, .int (nI (dn sn))), (0, .ref (a 0)), (1, .int (nI sn)), (2, .int p1)]) (fun n_325 x_325 H locs ls hI ih_325 => ?_) _ (0, be_248) ⟨rfl, (by omega), hP, hS, (by rw [dn0]; exact lv_sub hl [0, 1, 2, 3, 4, 5, 6, 7] rfl)⟩
              obtain ⟨q7_325, be_325⟩ := x_325
              obtain ⟨hm_325, hv_325, hP, hS, hl⟩ := hI
              subst hm_325
              rcases q7_325 with _ | q7_325
              · rw [dn0] at hl
                refine lv_iload hx hb dX8_leastAll_54 (lv_at hl 0 rfl) ?_
                refine lv_aload_n hx hb dX8_leastAll_56 rfl (lv_at hl 5 rfl) ?_
                refine va_get (D := D) (ci := 8) (v := .int (nI ca)) (C := RX8) (T := TX8) (N := 44) hx hb hts inX8 hown hK hP 0 rfl rfl 34 (by decide) (hts _ tw_1007) (fun _ h9 => h9) rfl dX8_leastAll_57 ?_
                refine lv_iconst (v := 2) hx hb dX8_leastAll_60 (by decide) ?_
                refine lv_icmp_le (tgt := 68) hx hb dX8_leastAll_61 (by decide) (fun c_326 => ?_) (fun c_326 => ?_)
                · have c_326 := (nI_leI (a := ca) (b := 2) (by omega) (by omega)).mp c_326
                  refine lv_iconst (v := 0) hx hb dX8_leastAll_68 (by decide) ?_
                  refine lv_icmp_ge (tgt := 165) hx hb dX8_leastAll_69 (by decide) (fun h => absurd h (by decide)) (fun _ => ?_)
                  refine lv_iconst (v := (-1)) hx hb dX8_leastAll_72 (by decide) ?_
                  refine lv_istore (lv' := [(8, .int (-1)), (7, .int (-1)), (6, .int (-1)), (5, .int (nI q5_1)), (4, .int be_325), (3, .int (nI (dn sn))), (0, .ref (a 0)), (1, .int (nI sn)), (2, .int p1)]) hx hb dX8_leastAll_73 hl (by decide) rfl (fun ls hl => ?_)
                  refine W_loop (σ := Nat × Int32) (fun (n_ : Nat) (x_ : Nat × Int32) (H : Heap) (locs : List Loc) (ls : Array Slot) => match x_ with | (q8_327, be_327) => n_ = 26 - q8_327 ∧ (q8_327 ≤ 25) ∧ va_P D classes [((a 0), .inr (8, (fX8 a (nI tx) fp (nI t0) wd (nI we) nu na (nI rd) ts (nI ru) (nI rw) (nI ca) df db sd))), (aI k (a 1) 3 (nF dn)), (aI k (a 4) 27 (sg se tm gs)), (aI k (a 3) 72 fprices), (aI k (a 36) 4 fwalks)] H ∧ va_S (fun q : Nat => s.heap.size ≤ q) s.heap H locs ∧ lv_has ls 10 [(8, .int (nI q8_327 - 1)), (7, .int (-1)), (6, .int (-1)), (5, .int (nI q5_1)), (4, .int be_327), (3, .int (nI (dn sn))), (0, .ref (a 0)), (1, .int (nI sn)), (2, .int p1)]) (fun n_327 x_327 H locs ls hI ih_327 => ?_) _ (0, be_325) ⟨rfl, (by omega), hP, hS, (by rw [dn0]; exact lv_sub hl [0, 1, 2, 3, 4, 5, 6, 7, 8] rfl)⟩
                  obtain ⟨q8_327, be_327⟩ := x_327
                  obtain ⟨hm_327, hv_327, hP, hS, hl⟩ := hI
                  subst hm_327
                  rcases q8_327 with _ | q8_327
                  · rw [dn0] at hl
                    refine lv_iload hx hb dX8_leastAll_75 (lv_at hl 0 rfl) ?_
                    refine lv_aload_n hx hb dX8_leastAll_77 rfl (lv_at hl 6 rfl) ?_
                    refine va_get (D := D) (ci := 8) (v := .int (nI ca)) (C := RX8) (T := TX8) (N := 44) hx hb hts inX8 hown hK hP 0 rfl rfl 34 (by decide) (hts _ tw_1007) (fun _ h9 => h9) rfl dX8_leastAll_78 ?_
                    refine lv_iconst (v := 3) hx hb dX8_leastAll_81 (by decide) ?_
                    refine lv_icmp_le (tgt := 89) hx hb dX8_leastAll_82 (by decide) (fun c_328 => ?_) (fun c_328 => ?_)
                    · have c_328 := (nI_leI (a := ca) (b := 3) (by omega) (by omega)).mp c_328
                      refine lv_iconst (v := 0) hx hb dX8_leastAll_89 (by decide) ?_
                      refine lv_icmp_ge (tgt := 159) hx hb dX8_leastAll_90 (by decide) (fun h => absurd h (by decide)) (fun _ => ?_)
                      refine lv_iload_n hx hb dX8_leastAll_93 rfl (lv_at hl 8 rfl) ?_
                      refine lv_iload hx hb dX8_leastAll_94 (lv_at hl 3 rfl) ?_
                      refine lv_iload hx hb dX8_leastAll_96 (lv_at hl 2 rfl) ?_
                      refine lv_iload hx hb dX8_leastAll_98 (lv_at hl 1 rfl) ?_
                      refine lv_iload hx hb dX8_leastAll_100 (lv_at hl 0 rfl) ?_
                      refine ro_i (D := D) (va_runS (As := [.int p1, .int (nI q5_1), .int (-1), .int (-1), .int (-1)]) (rest := []) ⟨hx, hb, hml, hown, hts⟩ ((m_canAll l D k st lo p1 (nI q5_1) (-1) (-1) (-1)) H.size) (va_cwS 5 hts (gS tw_1450 tw_1451 tw_87 tw_1452) rfl rfl rfl (by decide +kernel) ⟨Nat.le_of_ble_eq_true rfl, Nat.le_of_ble_eq_true rfl⟩) (pS hS hAlo hlo hP hK hDL hZ [] (by decide) rfl) rfl rfl hl.1 rfl (lv_room (Nat.le_of_ble_eq_true rfl)) dX8_leastAll_102 ⟨Nat.le_of_ble_eq_true rfl, Nat.le_of_ble_eq_true rfl⟩) hS hA hP (fun r_329 H locs hw_329 hP hS => ?_)
                      try dsimp only at hw_329
                      refine lv_if_eq (tgt := 124) hx hb dX8_leastAll_105 (by decide) (fun c_330 => ?_) (fun c_330 => ?_)
                      · refine lv_iconst (v := (-1)) hx hb dX8_leastAll_124 (by decide) ?_
                        refine lv_istore (lv' := [(9, .int (-1)), (8, .int (-1)), (7, .int (-1)), (6, .int (-1)), (5, .int (nI q5_1)), (4, .int be_327), (3, .int (nI (dn sn))), (0, .ref (a 0)), (1, .int (nI sn)), (2, .int p1)]) hx hb dX8_leastAll_125 hl (by decide) rfl (fun ls hl => ?_)
                        refine lv_iload hx hb dX8_leastAll_127 (lv_at hl 0 rfl) ?_
                        refine lv_if_lt (tgt := 149) hx hb dX8_leastAll_129 (by decide) (fun _ => ?_) (fun h => absurd (by decide) h)
                        refine lv_iload hx hb dX8_leastAll_149 (lv_at hl 5 rfl) ?_
                        refine lv_istore (lv' := [(4, .int be_327), (9, .int (-1)), (8, .int (-1)), (7, .int (-1)), (6, .int (-1)), (5, .int (nI q5_1)), (3, .int (nI (dn sn))), (0, .ref (a 0)), (1, .int (nI sn)), (2, .int p1)]) hx hb dX8_leastAll_151 hl (by decide) rfl (fun ls hl => ?_)
                        refine lv_iinc (v := 0) (lv' := [(8, .int 0), (4, .int be_327), (9, .int (-1)), (7, .int (-1)), (6, .int (-1)), (5, .int (nI q5_1)), (3, .int (nI (dn sn))), (0, .ref (a 0)), (1, .int (nI sn)), (2, .int p1)]) hx hb dX8_leastAll_153 hl (k := 2) rfl (by decide) (by decide) rfl (fun ls hl => ?_)
                        refine lv_goto (tgt := 75) hx hb dX8_leastAll_156 (by decide) ?_
                        exact ih_327 _ (1, be_327) _ _ _ (by omega) ⟨rfl, (by omega), hP, hS, (by rw [nI_pred]; exact lv_sub hl [0, 3, 4, 5, 1, 6, 7, 8, 9] rfl)⟩
                      · refine lv_aload_n hx hb dX8_leastAll_108 rfl (lv_at hl 6 rfl) ?_
                        refine lv_iload_n hx hb dX8_leastAll_109 rfl (lv_at hl 7 rfl) ?_
                        refine lv_iload hx hb dX8_leastAll_110 (lv_at hl 3 rfl) ?_
                        refine lv_iload hx hb dX8_leastAll_112 (lv_at hl 2 rfl) ?_
                        refine lv_iload hx hb dX8_leastAll_114 (lv_at hl 1 rfl) ?_
                        refine lv_iload hx hb dX8_leastAll_116 (lv_at hl 0 rfl) ?_
                        refine ro_i (D := D) (va_runV (As := [.int (nI sn), .int (nI q5_1), .int (-1), .int (-1), .int (-1)]) (rest := []) ⟨hx, hb, hml, hown, hts⟩ ((m_sumAll l D k st lo a tx t0 we rd ru rw ca fp wd nu na ts df db sd dn se tm gs fprices fwalks sn (nI q5_1) (-1) (-1) (-1) (by omega) (by omega) (.inr ⟨q5_1, by omega, rfl⟩) (.inl (by decide)) (.inl (by decide)) (.inl (by decide))) H.size) (cwV 5 hts (gV tw_1459 tw_1461 tw_75 tw_87 tw_1462) rfl rfl rfl (by decide +kernel) ⟨Nat.le_of_ble_eq_true rfl, Nat.le_of_ble_eq_true rfl⟩) (pV hS hAlo hlo hP hK hDL hZ [0, 1, 2, 3, 4] (by decide) rfl (ci := 8) (q := (RX8, TX8, 44)) (q0 := 0) rfl rfl) rfl rfl hl.1 rfl (lv_room (Nat.le_of_ble_eq_true rfl)) dX8_leastAll_118 ⟨Nat.le_of_ble_eq_true rfl, Nat.le_of_ble_eq_true rfl⟩) hS hA hP (fun r_331 H locs hw_331 hP hS => ?_)
                        try dsimp only at hw_331
                        refine lv_goto (tgt := 125) hx hb dX8_leastAll_121 (by decide) ?_
                        refine lv_istore (lv' := [(9, .int r_331), (8, .int (-1)), (7, .int (-1)), (6, .int (-1)), (5, .int (nI q5_1)), (4, .int be_327), (3, .int (nI (dn sn))), (0, .ref (a 0)), (1, .int (nI sn)), (2, .int p1)]) hx hb dX8_leastAll_125 hl (by decide) rfl (fun ls hl => ?_)
                        refine lv_iload hx hb dX8_leastAll_127 (lv_at hl 0 rfl) ?_
                        refine lv_if_lt (tgt := 149) hx hb dX8_leastAll_129 (by decide) (fun c_332 => ?_) (fun c_332 => ?_)
                        · refine lv_iload hx hb dX8_leastAll_149 (lv_at hl 5 rfl) ?_
                          refine lv_istore (lv' := [(4, .int be_327), (9, .int r_331), (8, .int (-1)), (7, .int (-1)), (6, .int (-1)), (5, .int (nI q5_1)), (3, .int (nI (dn sn))), (0, .ref (a 0)), (1, .int (nI sn)), (2, .int p1)]) hx hb dX8_leastAll_151 hl (by decide) rfl (fun ls hl => ?_)
                          refine lv_iinc (v := 0) (lv' := [(8, .int 0), (4, .int be_327), (9, .int r_331), (7, .int (-1)), (6, .int (-1)), (5, .int (nI q5_1)), (3, .int (nI (dn sn))), (0, .ref (a 0)), (1, .int (nI sn)), (2, .int p1)]) hx hb dX8_leastAll_153 hl (k := 2) rfl (by decide) (by decide) rfl (fun ls hl => ?_)
                          refine lv_goto (tgt := 75) hx hb dX8_leastAll_156 (by decide) ?_
                          exact ih_327 _ (1, be_327) _ _ _ (by omega) ⟨rfl, (by omega), hP, hS, (by rw [nI_pred]; exact lv_sub hl [0, 3, 4, 5, 1, 6, 7, 8, 9] rfl)⟩
                        · refine lv_iload hx hb dX8_leastAll_132 (lv_at hl 5 rfl) ?_
                          refine lv_if_lt (tgt := 144) hx hb dX8_leastAll_134 (by decide) (fun c_333 => ?_) (fun c_333 => ?_)
                          · refine lv_iload hx hb dX8_leastAll_144 (lv_at hl 0 rfl) ?_
                            refine lv_goto (tgt := 151) hx hb dX8_leastAll_146 (by decide) ?_
                            refine lv_istore (lv' := [(4, .int r_331), (9, .int r_331), (8, .int (-1)), (7, .int (-1)), (6, .int (-1)), (5, .int (nI q5_1)), (3, .int (nI (dn sn))), (0, .ref (a 0)), (1, .int (nI sn)), (2, .int p1)]) hx hb dX8_leastAll_151 hl (by decide) rfl (fun ls hl => ?_)
                            refine lv_iinc (v := 0) (lv' := [(8, .int 0), (4, .int r_331), (9, .int r_331), (7, .int (-1)), (6, .int (-1)), (5, .int (nI q5_1)), (3, .int (nI (dn sn))), (0, .ref (a 0)), (1, .int (nI sn)), (2, .int p1)]) hx hb dX8_leastAll_153 hl (k := 2) rfl (by decide) (by decide) rfl (fun ls hl => ?_)
                            refine lv_goto (tgt := 75) hx hb dX8_leastAll_156 (by decide) ?_
                            exact ih_327 _ (1, r_331) _ _ _ (by omega) ⟨rfl, (by omega), hP, hS, (by rw [nI_pred]; exact lv_sub hl [0, 3, 4, 5, 1, 6, 7, 8, 9] rfl)⟩
                          · refine lv_iload hx hb dX8_leastAll_137 (lv_at hl 0 rfl) ?_
                            refine lv_iload hx hb dX8_leastAll_139 (lv_at hl 5 rfl) ?_
                            refine lv_icmp_ge (tgt := 149) hx hb dX8_leastAll_141 (by decide) (fun c_334 => ?_) (fun c_334 => ?_)
                            · refine lv_iload hx hb dX8_leastAll_149 (lv_at hl 5 rfl) ?_
                              refine lv_istore (lv' := [(4, .int be_327), (9, .int r_331), (8, .int (-1)), (7, .int (-1)), (6, .int (-1)), (5, .int (nI q5_1)), (3, .int (nI (dn sn))), (0, .ref (a 0)), (1, .int (nI sn)), (2, .int p1)]) hx hb dX8_leastAll_151 hl (by decide) rfl (fun ls hl => ?_)
                              refine lv_iinc (v := 0) (lv' := [(8, .int 0), (4, .int be_327), (9, .int r_331), (7, .int (-1)), (6, .int (-1)), (5, .int (nI q5_1)), (3, .int (nI (dn sn))), (0, .ref (a 0)), (1, .int (nI sn)), (2, .int p1)]) hx hb dX8_leastAll_153 hl (k := 2) rfl (by decide) (by decide) rfl (fun ls hl => ?_)
                              refine lv_goto (tgt := 75) hx hb dX8_leastAll_156 (by decide) ?_
                              exact ih_327 _ (1, be_327) _ _ _ (by omega) ⟨rfl, (by omega), hP, hS, (by rw [nI_pred]; exact lv_sub hl [0, 3, 4, 5, 1, 6, 7, 8, 9] rfl)⟩
                            · refine lv_iload hx hb dX8_leastAll_144 (lv_at hl 0 rfl) ?_
                              refine lv_goto (tgt := 151) hx hb dX8_leastAll_146 (by decide) ?_
                              refine lv_istore (lv' := [(4, .int r_331), (9, .int r_331), (8, .int (-1)), (7, .int (-1)), (6, .int (-1)), (5, .int (nI q5_1)), (3, .int (nI (dn sn))), (0, .ref (a 0)), (1, .int (nI sn)), (2, .int p1)]) hx hb dX8_leastAll_151 hl (by decide) rfl (fun ls hl => ?_)
                              refine lv_iinc (v := 0) (lv' := [(8, .int 0), (4, .int r_331), (9, .int r_331), (7, .int (-1)), (6, .int (-1)), (5, .int (nI q5_1)), (3, .int (nI (dn sn))), (0, .ref (a 0)), (1, .int (nI sn)), (2, .int p1)]) hx hb dX8_leastAll_153 hl (k := 2) rfl (by decide) (by decide) rfl (fun ls hl => ?_)
                              refine lv_goto (tgt := 75) hx hb dX8_leastAll_156 (by decide) ?_
                              exact ih_327 _ (1, r_331) _ _ _ (by omega) ⟨rfl, (by omega), hP, hS, (by rw [nI_pred]; exact lv_sub hl [0, 3, 4, 5, 1, 6, 7, 8, 9] rfl)⟩
                    · have c_328 : ¬ (ca ≤ 3) := fun h => c_328 ((nI_leI (a := ca) (b := 3) (by omega) (by omega)).mpr h)
                      refine lv_iload_n hx hb dX8_leastAll_85 rfl (lv_at hl 5 rfl) ?_
                      refine lv_goto (tgt := 90) hx hb dX8_leastAll_86 (by decide) ?_
                      refine lv_icmp_ge (tgt := 159) hx hb dX8_leastAll_90 (by decide) (fun c_335 => ?_) (fun c_335 => ?_)
                      · refine lv_iinc (v := 0) (lv' := [(7, .int 0), (8, .int (-1)), (6, .int (-1)), (5, .int (nI q5_1)), (4, .int be_327), (3, .int (nI (dn sn))), (0, .ref (a 0)), (1, .int (nI sn)), (2, .int p1)]) hx hb dX8_leastAll_159 hl (k := 1) rfl (by decide) (by decide) rfl (fun ls hl => ?_)
                        refine lv_goto (tgt := 54) hx hb dX8_leastAll_162 (by decide) ?_
                        exact ih_325 _ (1, be_327) _ _ _ (by omega) ⟨rfl, (by omega), hP, hS, (by rw [nI_pred]; exact lv_sub hl [0, 2, 3, 4, 5, 6, 7, 8] rfl)⟩
                      · refine lv_iload_n hx hb dX8_leastAll_93 rfl (lv_at hl 8 rfl) ?_
                        refine lv_iload hx hb dX8_leastAll_94 (lv_at hl 3 rfl) ?_
                        refine lv_iload hx hb dX8_leastAll_96 (lv_at hl 2 rfl) ?_
                        refine lv_iload hx hb dX8_leastAll_98 (lv_at hl 1 rfl) ?_
                        refine lv_iload hx hb dX8_leastAll_100 (lv_at hl 0 rfl) ?_
                        refine ro_i (D := D) (va_runS (As := [.int p1, .int (nI q5_1), .int (-1), .int (-1), .int (-1)]) (rest := []) ⟨hx, hb, hml, hown, hts⟩ ((m_canAll l D k st lo p1 (nI q5_1) (-1) (-1) (-1)) H.size) (va_cwS 5 hts (gS tw_1450 tw_1451 tw_87 tw_1452) rfl rfl rfl (by decide +kernel) ⟨Nat.le_of_ble_eq_true rfl, Nat.le_of_ble_eq_true rfl⟩) (pS hS hAlo hlo hP hK hDL hZ [] (by decide) rfl) rfl rfl hl.1 rfl (lv_room (Nat.le_of_ble_eq_true rfl)) dX8_leastAll_102 ⟨Nat.le_of_ble_eq_true rfl, Nat.le_of_ble_eq_true rfl⟩) hS hA hP (fun r_336 H locs hw_336 hP hS => ?_)
                        try dsimp only at hw_336
                        refine lv_if_eq (tgt := 124) hx hb dX8_leastAll_105 (by decide) (fun c_337 => ?_) (fun c_337 => ?_)
                        · refine lv_iconst (v := (-1)) hx hb dX8_leastAll_124 (by decide) ?_
                          refine lv_istore (lv' := [(9, .int (-1)), (8, .int (-1)), (7, .int (-1)), (6, .int (-1)), (5, .int (nI q5_1)), (4, .int be_327), (3, .int (nI (dn sn))), (0, .ref (a 0)), (1, .int (nI sn)), (2, .int p1)]) hx hb dX8_leastAll_125 hl (by decide) rfl (fun ls hl => ?_)
                          refine lv_iload hx hb dX8_leastAll_127 (lv_at hl 0 rfl) ?_
                          refine lv_if_lt (tgt := 149) hx hb dX8_leastAll_129 (by decide) (fun _ => ?_) (fun h => absurd (by decide) h)
                          refine lv_iload hx hb dX8_leastAll_149 (lv_at hl 5 rfl) ?_
                          refine lv_istore (lv' := [(4, .int be_327), (9, .int (-1)), (8, .int (-1)), (7, .int (-1)), (6, .int (-1)), (5, .int (nI q5_1)), (3, .int (nI (dn sn))), (0, .ref (a 0)), (1, .int (nI sn)), (2, .int p1)]) hx hb dX8_leastAll_151 hl (by decide) rfl (fun ls hl => ?_)
                          refine lv_iinc (v := 0) (lv' := [(8, .int 0), (4, .int be_327), (9, .int (-1)), (7, .int (-1)), (6, .int (-1)), (5, .int (nI q5_1)), (3, .int (nI (dn sn))), (0, .ref (a 0)), (1, .int (nI sn)), (2, .int p1)]) hx hb dX8_leastAll_153 hl (k := 2) rfl (by decide) (by decide) rfl (fun ls hl => ?_)
                          refine lv_goto (tgt := 75) hx hb dX8_leastAll_156 (by decide) ?_
                          exact ih_327 _ (1, be_327) _ _ _ (by omega) ⟨rfl, (by omega), hP, hS, (by rw [nI_pred]; exact lv_sub hl [0, 3, 4, 5, 1, 6, 7, 8, 9] rfl)⟩
                        · refine lv_aload_n hx hb dX8_leastAll_108 rfl (lv_at hl 6 rfl) ?_
                          refine lv_iload_n hx hb dX8_leastAll_109 rfl (lv_at hl 7 rfl) ?_
                          refine lv_iload hx hb dX8_leastAll_110 (lv_at hl 3 rfl) ?_
                          refine lv_iload hx hb dX8_leastAll_112 (lv_at hl 2 rfl) ?_
                          refine lv_iload hx hb dX8_leastAll_114 (lv_at hl 1 rfl) ?_
                          refine lv_iload hx hb dX8_leastAll_116 (lv_at hl 0 rfl) ?_
                          refine ro_i (D := D) (va_runV (As := [.int (nI sn), .int (nI q5_1), .int (-1), .int (-1), .int (-1)]) (rest := []) ⟨hx, hb, hml, hown, hts⟩ ((m_sumAll l D k st lo a tx t0 we rd ru rw ca fp wd nu na ts df db sd dn se tm gs fprices fwalks sn (nI q5_1) (-1) (-1) (-1) (by omega) (by omega) (.inr ⟨q5_1, by omega, rfl⟩) (.inl (by decide)) (.inl (by decide)) (.inl (by decide))) H.size) (cwV 5 hts (gV tw_1459 tw_1461 tw_75 tw_87 tw_1462) rfl rfl rfl (by decide +kernel) ⟨Nat.le_of_ble_eq_true rfl, Nat.le_of_ble_eq_true rfl⟩) (pV hS hAlo hlo hP hK hDL hZ [0, 1, 2, 3, 4] (by decide) rfl (ci := 8) (q := (RX8, TX8, 44)) (q0 := 0) rfl rfl) rfl rfl hl.1 rfl (lv_room (Nat.le_of_ble_eq_true rfl)) dX8_leastAll_118 ⟨Nat.le_of_ble_eq_true rfl, Nat.le_of_ble_eq_true rfl⟩) hS hA hP (fun r_338 H locs hw_338 hP hS => ?_)
                          try dsimp only at hw_338
                          refine lv_goto (tgt := 125) hx hb dX8_leastAll_121 (by decide) ?_
                          refine lv_istore (lv' := [(9, .int r_338), (8, .int (-1)), (7, .int (-1)), (6, .int (-1)), (5, .int (nI q5_1)), (4, .int be_327), (3, .int (nI (dn sn))), (0, .ref (a 0)), (1, .int (nI sn)), (2, .int p1)]) hx hb dX8_leastAll_125 hl (by decide) rfl (fun ls hl => ?_)
                          refine lv_iload hx hb dX8_leastAll_127 (lv_at hl 0 rfl) ?_
                          refine lv_if_lt (tgt := 149) hx hb dX8_leastAll_129 (by decide) (fun c_339 => ?_) (fun c_339 => ?_)
                          · refine lv_iload hx hb dX8_leastAll_149 (lv_at hl 5 rfl) ?_
                            refine lv_istore (lv' := [(4, .int be_327), (9, .int r_338), (8, .int (-1)), (7, .int (-1)), (6, .int (-1)), (5, .int (nI q5_1)), (3, .int (nI (dn sn))), (0, .ref (a 0)), (1, .int (nI sn)), (2, .int p1)]) hx hb dX8_leastAll_151 hl (by decide) rfl (fun ls hl => ?_)
                            refine lv_iinc (v := 0) (lv' := [(8, .int 0), (4, .int be_327), (9, .int r_338), (7, .int (-1)), (6, .int (-1)), (5, .int (nI q5_1)), (3, .int (nI (dn sn))), (0, .ref (a 0)), (1, .int (nI sn)), (2, .int p1)]) hx hb dX8_leastAll_153 hl (k := 2) rfl (by decide) (by decide) rfl (fun ls hl => ?_)
                            refine lv_goto (tgt := 75) hx hb dX8_leastAll_156 (by decide) ?_
                            exact ih_327 _ (1, be_327) _ _ _ (by omega) ⟨rfl, (by omega), hP, hS, (by rw [nI_pred]; exact lv_sub hl [0, 3, 4, 5, 1, 6, 7, 8, 9] rfl)⟩
                          · refine lv_iload hx hb dX8_leastAll_132 (lv_at hl 5 rfl) ?_
                            refine lv_if_lt (tgt := 144) hx hb dX8_leastAll_134 (by decide) (fun c_340 => ?_) (fun c_340 => ?_)
                            · refine lv_iload hx hb dX8_leastAll_144 (lv_at hl 0 rfl) ?_
                              refine lv_goto (tgt := 151) hx hb dX8_leastAll_146 (by decide) ?_
                              refine lv_istore (lv' := [(4, .int r_338), (9, .int r_338), (8, .int (-1)), (7, .int (-1)), (6, .int (-1)), (5, .int (nI q5_1)), (3, .int (nI (dn sn))), (0, .ref (a 0)), (1, .int (nI sn)), (2, .int p1)]) hx hb dX8_leastAll_151 hl (by decide) rfl (fun ls hl => ?_)
                              refine lv_iinc (v := 0) (lv' := [(8, .int 0), (4, .int r_338), (9, .int r_338), (7, .int (-1)), (6, .int (-1)), (5, .int (nI q5_1)), (3, .int (nI (dn sn))), (0, .ref (a 0)), (1, .int (nI sn)), (2, .int p1)]) hx hb dX8_leastAll_153 hl (k := 2) rfl (by decide) (by decide) rfl (fun ls hl => ?_)
                              refine lv_goto (tgt := 75) hx hb dX8_leastAll_156 (by decide) ?_
                              exact ih_327 _ (1, r_338) _ _ _ (by omega) ⟨rfl, (by omega), hP, hS, (by rw [nI_pred]; exact lv_sub hl [0, 3, 4, 5, 1, 6, 7, 8, 9] rfl)⟩
                            · refine lv_iload hx hb dX8_leastAll_137 (lv_at hl 0 rfl) ?_
                              refine lv_iload hx hb dX8_leastAll_139 (lv_at hl 5 rfl) ?_
                              refine lv_icmp_ge (tgt := 149) hx hb dX8_leastAll_141 (by decide) (fun c_341 => ?_) (fun c_341 => ?_)
                              · refine lv_iload hx hb dX8_leastAll_149 (lv_at hl 5 rfl) ?_
                                refine lv_istore (lv' := [(4, .int be_327), (9, .int r_338), (8, .int (-1)), (7, .int (-1)), (6, .int (-1)), (5, .int (nI q5_1)), (3, .int (nI (dn sn))), (0, .ref (a 0)), (1, .int (nI sn)), (2, .int p1)]) hx hb dX8_leastAll_151 hl (by decide) rfl (fun ls hl => ?_)
                                refine lv_iinc (v := 0) (lv' := [(8, .int 0), (4, .int be_327), (9, .int r_338), (7, .int (-1)), (6, .int (-1)), (5, .int (nI q5_1)), (3, .int (nI (dn sn))), (0, .ref (a 0)), (1, .int (nI sn)), (2, .int p1)]) hx hb dX8_leastAll_153 hl (k := 2) rfl (by decide) (by decide) rfl (fun ls hl => ?_)
                                refine lv_goto (tgt := 75) hx hb dX8_leastAll_156 (by decide) ?_
                                exact ih_327 _ (1, be_327) _ _ _ (by omega) ⟨rfl, (by omega), hP, hS, (by rw [nI_pred]; exact lv_sub hl [0, 3, 4, 5, 1, 6, 7, 8, 9] rfl)⟩
                              · refine lv_iload hx hb dX8_leastAll_144 (lv_at hl 0 rfl) ?_
                                refine lv_goto (tgt := 151) hx hb dX8_leastAll_146 (by decide) ?_
                                refine lv_istore (lv' := [(4, .int r_338), (9, .int r_338), (8, .int (-1)), (7, .int (-1)), (6, .int (-1)), (5, .int (nI q5_1)), (3, .int (nI (dn sn))), (0, .ref (a 0)), (1, .int (nI sn)), (2, .int p1)]) hx hb dX8_leastAll_151 hl (by decide) rfl (fun ls hl => ?_)
                                refine lv_iinc (v := 0) (lv' := [(8, .int 0), (4, .int r_338), (9, .int r_338), (7, .int (-1)), (6, .int (-1)), (5, .int (nI q5_1)), (3, .int (nI (dn sn))), (0, .ref (a 0)), (1, .int (nI sn)), (2, .int p1)]) hx hb dX8_leastAll_153 hl (k := 2) rfl (by decide) (by decide) rfl (fun ls hl => ?_)
                                refine lv_goto (tgt := 75) hx hb dX8_leastAll_156 (by decide) ?_
                                exact ih_327 _ (1, r_338) _ _ _ (by omega) ⟨rfl, (by omega), hP, hS, (by rw [nI_pred]; exact lv_sub hl [0, 3, 4, 5, 1, 6, 7, 8, 9] rfl)⟩
                  · rw [nI_pred] at hl
                    refine lv_iload hx hb dX8_leastAll_75 (lv_at hl 0 rfl) ?_
                    refine lv_aload_n hx hb dX8_leastAll_77 rfl (lv_at hl 6 rfl) ?_
                    refine va_get (D := D) (ci := 8) (v := .int (nI ca)) (C := RX8) (T := TX8) (N := 44) hx hb hts inX8 hown hK hP 0 rfl rfl 34 (by decide) (hts _ tw_1007) (fun _ h9 => h9) rfl dX8_leastAll_78 ?_
                    refine lv_iconst (v := 3) hx hb dX8_leastAll_81 (by decide) ?_
                    refine lv_icmp_le (tgt := 89) hx hb dX8_leastAll_82 (by decide) (fun c_342 => ?_) (fun c_342 => ?_)
                    · have c_342 := (nI_leI (a := ca) (b := 3) (by omega) (by omega)).mp c_342
                      refine lv_iconst (v := 0) hx hb dX8_leastAll_89 (by decide) ?_
                      refine lv_icmp_ge (tgt := 159) hx hb dX8_leastAll_90 (by decide) (fun _ => ?_) (fun h => absurd (nI_ge0 (by omega)) h)
                      refine lv_iinc (v := 0) (lv' := [(7, .int 0), (8, .int (nI q8_327)), (6, .int (-1)), (5, .int (nI q5_1)), (4, .int be_327), (3, .int (nI (dn sn))), (0, .ref (a 0)), (1, .int (nI sn)), (2, .int p1)]) hx hb dX8_leastAll_159 hl (k := 1) rfl (by decide) (by decide) rfl (fun ls hl => ?_)
                      refine lv_goto (tgt := 54) hx hb dX8_leastAll_162 (by decide) ?_
                      exact ih_325 _ (1, be_327) _ _ _ (by omega) ⟨rfl, (by omega), hP, hS, (by rw [nI_pred]; exact lv_sub hl [0, 2, 3, 4, 5, 6, 7, 8] rfl)⟩
                    · have c_342 : ¬ (ca ≤ 3) := fun h => c_342 ((nI_leI (a := ca) (b := 3) (by omega) (by omega)).mpr h)
                      refine lv_iload_n hx hb dX8_leastAll_85 rfl (lv_at hl 5 rfl) ?_
                      refine lv_goto (tgt := 90) hx hb dX8_leastAll_86 (by decide) ?_
                      refine lv_icmp_ge (tgt := 159) hx hb dX8_leastAll_90 (by decide) (fun c_343 => ?_) (fun c_343 => ?_)
                      · have c_343 := (nI_leI (a := (dn sn)) (b := q8_327) (by omega) (by omega)).mp c_343
                        refine lv_iinc (v := 0) (lv' := [(7, .int 0), (8, .int (nI q8_327)), (6, .int (-1)), (5, .int (nI q5_1)), (4, .int be_327), (3, .int (nI (dn sn))), (0, .ref (a 0)), (1, .int (nI sn)), (2, .int p1)]) hx hb dX8_leastAll_159 hl (k := 1) rfl (by decide) (by decide) rfl (fun ls hl => ?_)
                        refine lv_goto (tgt := 54) hx hb dX8_leastAll_162 (by decide) ?_
                        exact ih_325 _ (1, be_327) _ _ _ (by omega) ⟨rfl, (by omega), hP, hS, (by rw [nI_pred]; exact lv_sub hl [0, 2, 3, 4, 5, 6, 7, 8] rfl)⟩
                      · have c_343 : ¬ ((dn sn) ≤ q8_327) := fun h => c_343 ((nI_leI (a := (dn sn)) (b := q8_327) (by omega) (by omega)).mpr h)
                        refine lv_iload_n hx hb dX8_leastAll_93 rfl (lv_at hl 8 rfl) ?_
                        refine lv_iload hx hb dX8_leastAll_94 (lv_at hl 3 rfl) ?_
                        refine lv_iload hx hb dX8_leastAll_96 (lv_at hl 2 rfl) ?_
                        refine lv_iload hx hb dX8_leastAll_98 (lv_at hl 1 rfl) ?_
                        refine lv_iload hx hb dX8_leastAll_100 (lv_at hl 0 rfl) ?_
                        refine ro_i (D := D) (va_runS (As := [.int p1, .int (nI q5_1), .int (-1), .int (-1), .int (nI q8_327)]) (rest := []) ⟨hx, hb, hml, hown, hts⟩ ((m_canAll l D k st lo p1 (nI q5_1) (-1) (-1) (nI q8_327)) H.size) (va_cwS 5 hts (gS tw_1450 tw_1451 tw_87 tw_1452) rfl rfl rfl (by decide +kernel) ⟨Nat.le_of_ble_eq_true rfl, Nat.le_of_ble_eq_true rfl⟩) (pS hS hAlo hlo hP hK hDL hZ [] (by decide) rfl) rfl rfl hl.1 rfl (lv_room (Nat.le_of_ble_eq_true rfl)) dX8_leastAll_102 ⟨Nat.le_of_ble_eq_true rfl, Nat.le_of_ble_eq_true rfl⟩) hS hA hP (fun r_344 H locs hw_344 hP hS => ?_)
                        try dsimp only at hw_344
                        refine lv_if_eq (tgt := 124) hx hb dX8_leastAll_105 (by decide) (fun c_345 => ?_) (fun c_345 => ?_)
                        · refine lv_iconst (v := (-1)) hx hb dX8_leastAll_124 (by decide) ?_
                          refine lv_istore (lv' := [(9, .int (-1)), (8, .int (nI q8_327)), (7, .int (-1)), (6, .int (-1)), (5, .int (nI q5_1)), (4, .int be_327), (3, .int (nI (dn sn))), (0, .ref (a 0)), (1, .int (nI sn)), (2, .int p1)]) hx hb dX8_leastAll_125 hl (by decide) rfl (fun ls hl => ?_)
                          refine lv_iload hx hb dX8_leastAll_127 (lv_at hl 0 rfl) ?_
                          refine lv_if_lt (tgt := 149) hx hb dX8_leastAll_129 (by decide) (fun _ => ?_) (fun h => absurd (by decide) h)
                          refine lv_iload hx hb dX8_leastAll_149 (lv_at hl 5 rfl) ?_
                          refine lv_istore (lv' := [(4, .int be_327), (9, .int (-1)), (8, .int (nI q8_327)), (7, .int (-1)), (6, .int (-1)), (5, .int (nI q5_1)), (3, .int (nI (dn sn))), (0, .ref (a 0)), (1, .int (nI sn)), (2, .int p1)]) hx hb dX8_leastAll_151 hl (by decide) rfl (fun ls hl => ?_)
                          refine lv_iinc (v := (nI (q8_327 + 1))) (lv' := [(8, .int (nI (q8_327 + 1))), (4, .int be_327), (9, .int (-1)), (7, .int (-1)), (6, .int (-1)), (5, .int (nI q5_1)), (3, .int (nI (dn sn))), (0, .ref (a 0)), (1, .int (nI sn)), (2, .int p1)]) hx hb dX8_leastAll_153 hl (k := 2) rfl (nI_add q8_327 1) (by decide) rfl (fun ls hl => ?_)
                          refine lv_goto (tgt := 75) hx hb dX8_leastAll_156 (by decide) ?_
                          exact ih_327 _ (q8_327 + 1 + 1, be_327) _ _ _ (by omega) ⟨rfl, (by omega), hP, hS, (by rw [nI_pred]; exact lv_sub hl [0, 3, 4, 5, 1, 6, 7, 8, 9] rfl)⟩
                        · refine lv_aload_n hx hb dX8_leastAll_108 rfl (lv_at hl 6 rfl) ?_
                          refine lv_iload_n hx hb dX8_leastAll_109 rfl (lv_at hl 7 rfl) ?_
                          refine lv_iload hx hb dX8_leastAll_110 (lv_at hl 3 rfl) ?_
                          refine lv_iload hx hb dX8_leastAll_112 (lv_at hl 2 rfl) ?_
                          refine lv_iload hx hb dX8_leastAll_114 (lv_at hl 1 rfl) ?_
                          refine lv_iload hx hb dX8_leastAll_116 (lv_at hl 0 rfl) ?_
                          refine ro_i (D := D) (va_runV (As := [.int (nI sn), .int (nI q5_1), .int (-1), .int (-1), .int (nI q8_327)]) (rest := []) ⟨hx, hb, hml, hown, hts⟩ ((m_sumAll l D k st lo a tx t0 we rd ru rw ca fp wd nu na ts df db sd dn se tm gs fprices fwalks sn (nI q5_1) (-1) (-1) (nI q8_327) (by omega) (by omega) (.inr ⟨q5_1, by omega, rfl⟩) (.inl (by decide)) (.inl (by decide)) (.inr ⟨q8_327, by omega, rfl⟩)) H.size) (cwV 5 hts (gV tw_1459 tw_1461 tw_75 tw_87 tw_1462) rfl rfl rfl (by decide +kernel) ⟨Nat.le_of_ble_eq_true rfl, Nat.le_of_ble_eq_true rfl⟩) (pV hS hAlo hlo hP hK hDL hZ [0, 1, 2, 3, 4] (by decide) rfl (ci := 8) (q := (RX8, TX8, 44)) (q0 := 0) rfl rfl) rfl rfl hl.1 rfl (lv_room (Nat.le_of_ble_eq_true rfl)) dX8_leastAll_118 ⟨Nat.le_of_ble_eq_true rfl, Nat.le_of_ble_eq_true rfl⟩) hS hA hP (fun r_346 H locs hw_346 hP hS => ?_)
                          try dsimp only at hw_346
                          refine lv_goto (tgt := 125) hx hb dX8_leastAll_121 (by decide) ?_
                          refine lv_istore (lv' := [(9, .int r_346), (8, .int (nI q8_327)), (7, .int (-1)), (6, .int (-1)), (5, .int (nI q5_1)), (4, .int be_327), (3, .int (nI (dn sn))), (0, .ref (a 0)), (1, .int (nI sn)), (2, .int p1)]) hx hb dX8_leastAll_125 hl (by decide) rfl (fun ls hl => ?_)
                          refine lv_iload hx hb dX8_leastAll_127 (lv_at hl 0 rfl) ?_
                          refine lv_if_lt (tgt := 149) hx hb dX8_leastAll_129 (by decide) (fun c_347 => ?_) (fun c_347 => ?_)
                          · refine lv_iload hx hb dX8_leastAll_149 (lv_at hl 5 rfl) ?_
                            refine lv_istore (lv' := [(4, .int be_327), (9, .int r_346), (8, .int (nI q8_327)), (7, .int (-1)), (6, .int (-1)), (5, .int (nI q5_1)), (3, .int (nI (dn sn))), (0, .ref (a 0)), (1, .int (nI sn)), (2, .int p1)]) hx hb dX8_leastAll_151 hl (by decide) rfl (fun ls hl => ?_)
                            refine lv_iinc (v := (nI (q8_327 + 1))) (lv' := [(8, .int (nI (q8_327 + 1))), (4, .int be_327), (9, .int r_346), (7, .int (-1)), (6, .int (-1)), (5, .int (nI q5_1)), (3, .int (nI (dn sn))), (0, .ref (a 0)), (1, .int (nI sn)), (2, .int p1)]) hx hb dX8_leastAll_153 hl (k := 2) rfl (nI_add q8_327 1) (by decide) rfl (fun ls hl => ?_)
                            refine lv_goto (tgt := 75) hx hb dX8_leastAll_156 (by decide) ?_
                            exact ih_327 _ (q8_327 + 1 + 1, be_327) _ _ _ (by omega) ⟨rfl, (by omega), hP, hS, (by rw [nI_pred]; exact lv_sub hl [0, 3, 4, 5, 1, 6, 7, 8, 9] rfl)⟩
                          · refine lv_iload hx hb dX8_leastAll_132 (lv_at hl 5 rfl) ?_
                            refine lv_if_lt (tgt := 144) hx hb dX8_leastAll_134 (by decide) (fun c_348 => ?_) (fun c_348 => ?_)
                            · refine lv_iload hx hb dX8_leastAll_144 (lv_at hl 0 rfl) ?_
                              refine lv_goto (tgt := 151) hx hb dX8_leastAll_146 (by decide) ?_
                              refine lv_istore (lv' := [(4, .int r_346), (9, .int r_346), (8, .int (nI q8_327)), (7, .int (-1)), (6, .int (-1)), (5, .int (nI q5_1)), (3, .int (nI (dn sn))), (0, .ref (a 0)), (1, .int (nI sn)), (2, .int p1)]) hx hb dX8_leastAll_151 hl (by decide) rfl (fun ls hl => ?_)
                              refine lv_iinc (v := (nI (q8_327 + 1))) (lv' := [(8, .int (nI (q8_327 + 1))), (4, .int r_346), (9, .int r_346), (7, .int (-1)), (6, .int (-1)), (5, .int (nI q5_1)), (3, .int (nI (dn sn))), (0, .ref (a 0)), (1, .int (nI sn)), (2, .int p1)]) hx hb dX8_leastAll_153 hl (k := 2) rfl (nI_add q8_327 1) (by decide) rfl (fun ls hl => ?_)
                              refine lv_goto (tgt := 75) hx hb dX8_leastAll_156 (by decide) ?_
                              exact ih_327 _ (q8_327 + 1 + 1, r_346) _ _ _ (by omega) ⟨rfl, (by omega), hP, hS, (by rw [nI_pred]; exact lv_sub hl [0, 3, 4, 5, 1, 6, 7, 8, 9] rfl)⟩
                            · refine lv_iload hx hb dX8_leastAll_137 (lv_at hl 0 rfl) ?_
                              refine lv_iload hx hb dX8_leastAll_139 (lv_at hl 5 rfl) ?_
                              refine lv_icmp_ge (tgt := 149) hx hb dX8_leastAll_141 (by decide) (fun c_349 => ?_) (fun c_349 => ?_)
                              · refine lv_iload hx hb dX8_leastAll_149 (lv_at hl 5 rfl) ?_
                                refine lv_istore (lv' := [(4, .int be_327), (9, .int r_346), (8, .int (nI q8_327)), (7, .int (-1)), (6, .int (-1)), (5, .int (nI q5_1)), (3, .int (nI (dn sn))), (0, .ref (a 0)), (1, .int (nI sn)), (2, .int p1)]) hx hb dX8_leastAll_151 hl (by decide) rfl (fun ls hl => ?_)
                                refine lv_iinc (v := (nI (q8_327 + 1))) (lv' := [(8, .int (nI (q8_327 + 1))), (4, .int be_327), (9, .int r_346), (7, .int (-1)), (6, .int (-1)), (5, .int (nI q5_1)), (3, .int (nI (dn sn))), (0, .ref (a 0)), (1, .int (nI sn)), (2, .int p1)]) hx hb dX8_leastAll_153 hl (k := 2) rfl (nI_add q8_327 1) (by decide) rfl (fun ls hl => ?_)
                                refine lv_goto (tgt := 75) hx hb dX8_leastAll_156 (by decide) ?_
                                exact ih_327 _ (q8_327 + 1 + 1, be_327) _ _ _ (by omega) ⟨rfl, (by omega), hP, hS, (by rw [nI_pred]; exact lv_sub hl [0, 3, 4, 5, 1, 6, 7, 8, 9] rfl)⟩
                              · refine lv_iload hx hb dX8_leastAll_144 (lv_at hl 0 rfl) ?_
                                refine lv_goto (tgt := 151) hx hb dX8_leastAll_146 (by decide) ?_
                                refine lv_istore (lv' := [(4, .int r_346), (9, .int r_346), (8, .int (nI q8_327)), (7, .int (-1)), (6, .int (-1)), (5, .int (nI q5_1)), (3, .int (nI (dn sn))), (0, .ref (a 0)), (1, .int (nI sn)), (2, .int p1)]) hx hb dX8_leastAll_151 hl (by decide) rfl (fun ls hl => ?_)
                                refine lv_iinc (v := (nI (q8_327 + 1))) (lv' := [(8, .int (nI (q8_327 + 1))), (4, .int r_346), (9, .int r_346), (7, .int (-1)), (6, .int (-1)), (5, .int (nI q5_1)), (3, .int (nI (dn sn))), (0, .ref (a 0)), (1, .int (nI sn)), (2, .int p1)]) hx hb dX8_leastAll_153 hl (k := 2) rfl (nI_add q8_327 1) (by decide) rfl (fun ls hl => ?_)
                                refine lv_goto (tgt := 75) hx hb dX8_leastAll_156 (by decide) ?_
                                exact ih_327 _ (q8_327 + 1 + 1, r_346) _ _ _ (by omega) ⟨rfl, (by omega), hP, hS, (by rw [nI_pred]; exact lv_sub hl [0, 3, 4, 5, 1, 6, 7, 8, 9] rfl)⟩
                · have c_326 : ¬ (ca ≤ 2) := fun h => c_326 ((nI_leI (a := ca) (b := 2) (by omega) (by omega)).mpr h)
                  refine lv_iload_n hx hb dX8_leastAll_64 rfl (lv_at hl 4 rfl) ?_
                  refine lv_goto (tgt := 69) hx hb dX8_leastAll_65 (by decide) ?_
                  refine lv_icmp_ge (tgt := 165) hx hb dX8_leastAll_69 (by decide) (fun c_350 => ?_) (fun c_350 => ?_)
                  · refine lv_iinc (v := 0) (lv' := [(6, .int 0), (7, .int (-1)), (5, .int (nI q5_1)), (4, .int be_325), (3, .int (nI (dn sn))), (0, .ref (a 0)), (1, .int (nI sn)), (2, .int p1)]) hx hb dX8_leastAll_165 hl (k := 1) rfl (by decide) (by decide) rfl (fun ls hl => ?_)
                    refine lv_goto (tgt := 33) hx hb dX8_leastAll_168 (by decide) ?_
                    exact ih_248 _ (1, be_325) _ _ _ (by omega) ⟨rfl, (by omega), hP, hS, (by rw [nI_pred]; exact lv_sub hl [0, 2, 3, 4, 5, 6, 7] rfl)⟩
                  · refine lv_iconst (v := (-1)) hx hb dX8_leastAll_72 (by decide) ?_
                    refine lv_istore (lv' := [(8, .int (-1)), (7, .int (-1)), (6, .int (-1)), (5, .int (nI q5_1)), (4, .int be_325), (3, .int (nI (dn sn))), (0, .ref (a 0)), (1, .int (nI sn)), (2, .int p1)]) hx hb dX8_leastAll_73 hl (by decide) rfl (fun ls hl => ?_)
                    refine W_loop (σ := Nat × Int32) (fun (n_ : Nat) (x_ : Nat × Int32) (H : Heap) (locs : List Loc) (ls : Array Slot) => match x_ with | (q8_351, be_351) => n_ = 26 - q8_351 ∧ (q8_351 ≤ 25) ∧ va_P D classes [((a 0), .inr (8, (fX8 a (nI tx) fp (nI t0) wd (nI we) nu na (nI rd) ts (nI ru) (nI rw) (nI ca) df db sd))), (aI k (a 1) 3 (nF dn)), (aI k (a 4) 27 (sg se tm gs)), (aI k (a 3) 72 fprices), (aI k (a 36) 4 fwalks)] H ∧ va_S (fun q : Nat => s.heap.size ≤ q) s.heap H locs ∧ lv_has ls 10 [(8, .int (nI q8_351 - 1)), (7, .int (-1)), (6, .int (-1)), (5, .int (nI q5_1)), (4, .int be_351), (3, .int (nI (dn sn))), (0, .ref (a 0)), (1, .int (nI sn)), (2, .int p1)]) (fun n_351 x_351 H locs ls hI ih_351 => ?_) _ (0, be_325) ⟨rfl, (by omega), hP, hS, (by rw [dn0]; exact lv_sub hl [0, 1, 2, 3, 4, 5, 6, 7, 8] rfl)⟩
                    obtain ⟨q8_351, be_351⟩ := x_351
                    obtain ⟨hm_351, hv_351, hP, hS, hl⟩ := hI
                    subst hm_351
                    rcases q8_351 with _ | q8_351
                    · rw [dn0] at hl
                      refine lv_iload hx hb dX8_leastAll_75 (lv_at hl 0 rfl) ?_
                      refine lv_aload_n hx hb dX8_leastAll_77 rfl (lv_at hl 6 rfl) ?_
                      refine va_get (D := D) (ci := 8) (v := .int (nI ca)) (C := RX8) (T := TX8) (N := 44) hx hb hts inX8 hown hK hP 0 rfl rfl 34 (by decide) (hts _ tw_1007) (fun _ h9 => h9) rfl dX8_leastAll_78 ?_
                      refine lv_iconst (v := 3) hx hb dX8_leastAll_81 (by decide) ?_
                      refine lv_icmp_le (tgt := 89) hx hb dX8_leastAll_82 (by decide) (fun c_352 => ?_) (fun c_352 => ?_)
                      · have c_352 := (nI_leI (a := ca) (b := 3) (by omega) (by omega)).mp c_352
                        refine lv_iconst (v := 0) hx hb dX8_leastAll_89 (by decide) ?_
                        refine lv_icmp_ge (tgt := 159) hx hb dX8_leastAll_90 (by decide) (fun h => absurd h (by decide)) (fun _ => ?_)
                        refine lv_iload_n hx hb dX8_leastAll_93 rfl (lv_at hl 8 rfl) ?_
                        refine lv_iload hx hb dX8_leastAll_94 (lv_at hl 3 rfl) ?_
                        refine lv_iload hx hb dX8_leastAll_96 (lv_at hl 2 rfl) ?_
                        refine lv_iload hx hb dX8_leastAll_98 (lv_at hl 1 rfl) ?_
                        refine lv_iload hx hb dX8_leastAll_100 (lv_at hl 0 rfl) ?_
                        refine ro_i (D := D) (va_runS (As := [.int p1, .int (nI q5_1), .int (-1), .int (-1), .int (-1)]) (rest := []) ⟨hx, hb, hml, hown, hts⟩ ((m_canAll l D k st lo p1 (nI q5_1) (-1) (-1) (-1)) H.size) (va_cwS 5 hts (gS tw_1450 tw_1451 tw_87 tw_1452) rfl rfl rfl (by decide +kernel) ⟨Nat.le_of_ble_eq_true rfl, Nat.le_of_ble_eq_true rfl⟩) (pS hS hAlo hlo hP hK hDL hZ [] (by decide) rfl) rfl rfl hl.1 rfl (lv_room (Nat.le_of_ble_eq_true rfl)) dX8_leastAll_102 ⟨Nat.le_of_ble_eq_true rfl, Nat.le_of_ble_eq_true rfl⟩) hS hA hP (fun r_353 H locs hw_353 hP hS => ?_)
                        try dsimp only at hw_353
                        refine lv_if_eq (tgt := 124) hx hb dX8_leastAll_105 (by decide) (fun c_354 => ?_) (fun c_354 => ?_)
                        · refine lv_iconst (v := (-1)) hx hb dX8_leastAll_124 (by decide) ?_
                          refine lv_istore (lv' := [(9, .int (-1)), (8, .int (-1)), (7, .int (-1)), (6, .int (-1)), (5, .int (nI q5_1)), (4, .int be_351), (3, .int (nI (dn sn))), (0, .ref (a 0)), (1, .int (nI sn)), (2, .int p1)]) hx hb dX8_leastAll_125 hl (by decide) rfl (fun ls hl => ?_)
                          refine lv_iload hx hb dX8_leastAll_127 (lv_at hl 0 rfl) ?_
                          refine lv_if_lt (tgt := 149) hx hb dX8_leastAll_129 (by decide) (fun _ => ?_) (fun h => absurd (by decide) h)
                          refine lv_iload hx hb dX8_leastAll_149 (lv_at hl 5 rfl) ?_
                          refine lv_istore (lv' := [(4, .int be_351), (9, .int (-1)), (8, .int (-1)), (7, .int (-1)), (6, .int (-1)), (5, .int (nI q5_1)), (3, .int (nI (dn sn))), (0, .ref (a 0)), (1, .int (nI sn)), (2, .int p1)]) hx hb dX8_leastAll_151 hl (by decide) rfl (fun ls hl => ?_)
                          refine lv_iinc (v := 0) (lv' := [(8, .int 0), (4, .int be_351), (9, .int (-1)), (7, .int (-1)), (6, .int (-1)), (5, .int (nI q5_1)), (3, .int (nI (dn sn))), (0, .ref (a 0)), (1, .int (nI sn)), (2, .int p1)]) hx hb dX8_leastAll_153 hl (k := 2) rfl (by decide) (by decide) rfl (fun ls hl => ?_)
                          refine lv_goto (tgt := 75) hx hb dX8_leastAll_156 (by decide) ?_
                          exact ih_351 _ (1, be_351) _ _ _ (by omega) ⟨rfl, (by omega), hP, hS, (by rw [nI_pred]; exact lv_sub hl [0, 3, 4, 5, 1, 6, 7, 8, 9] rfl)⟩
                        · refine lv_aload_n hx hb dX8_leastAll_108 rfl (lv_at hl 6 rfl) ?_
                          refine lv_iload_n hx hb dX8_leastAll_109 rfl (lv_at hl 7 rfl) ?_
                          refine lv_iload hx hb dX8_leastAll_110 (lv_at hl 3 rfl) ?_
                          refine lv_iload hx hb dX8_leastAll_112 (lv_at hl 2 rfl) ?_
                          refine lv_iload hx hb dX8_leastAll_114 (lv_at hl 1 rfl) ?_
                          refine lv_iload hx hb dX8_leastAll_116 (lv_at hl 0 rfl) ?_
                          refine ro_i (D := D) (va_runV (As := [.int (nI sn), .int (nI q5_1), .int (-1), .int (-1), .int (-1)]) (rest := []) ⟨hx, hb, hml, hown, hts⟩ ((m_sumAll l D k st lo a tx t0 we rd ru rw ca fp wd nu na ts df db sd dn se tm gs fprices fwalks sn (nI q5_1) (-1) (-1) (-1) (by omega) (by omega) (.inr ⟨q5_1, by omega, rfl⟩) (.inl (by decide)) (.inl (by decide)) (.inl (by decide))) H.size) (cwV 5 hts (gV tw_1459 tw_1461 tw_75 tw_87 tw_1462) rfl rfl rfl (by decide +kernel) ⟨Nat.le_of_ble_eq_true rfl, Nat.le_of_ble_eq_true rfl⟩) (pV hS hAlo hlo hP hK hDL hZ [0, 1, 2, 3, 4] (by decide) rfl (ci := 8) (q := (RX8, TX8, 44)) (q0 := 0) rfl rfl) rfl rfl hl.1 rfl (lv_room (Nat.le_of_ble_eq_true rfl)) dX8_leastAll_118 ⟨Nat.le_of_ble_eq_true rfl, Nat.le_of_ble_eq_true rfl⟩) hS hA hP (fun r_355 H locs hw_355 hP hS => ?_)
                          try dsimp only at hw_355
                          refine lv_goto (tgt := 125) hx hb dX8_leastAll_121 (by decide) ?_
                          refine lv_istore (lv' := [(9, .int r_355), (8, .int (-1)), (7, .int (-1)), (6, .int (-1)), (5, .int (nI q5_1)), (4, .int be_351), (3, .int (nI (dn sn))), (0, .ref (a 0)), (1, .int (nI sn)), (2, .int p1)]) hx hb dX8_leastAll_125 hl (by decide) rfl (fun ls hl => ?_)
                          refine lv_iload hx hb dX8_leastAll_127 (lv_at hl 0 rfl) ?_
                          refine lv_if_lt (tgt := 149) hx hb dX8_leastAll_129 (by decide) (fun c_356 => ?_) (fun c_356 => ?_)
                          · refine lv_iload hx hb dX8_leastAll_149 (lv_at hl 5 rfl) ?_
                            refine lv_istore (lv' := [(4, .int be_351), (9, .int r_355), (8, .int (-1)), (7, .int (-1)), (6, .int (-1)), (5, .int (nI q5_1)), (3, .int (nI (dn sn))), (0, .ref (a 0)), (1, .int (nI sn)), (2, .int p1)]) hx hb dX8_leastAll_151 hl (by decide) rfl (fun ls hl => ?_)
                            refine lv_iinc (v := 0) (lv' := [(8, .int 0), (4, .int be_351), (9, .int r_355), (7, .int (-1)), (6, .int (-1)), (5, .int (nI q5_1)), (3, .int (nI (dn sn))), (0, .ref (a 0)), (1, .int (nI sn)), (2, .int p1)]) hx hb dX8_leastAll_153 hl (k := 2) rfl (by decide) (by decide) rfl (fun ls hl => ?_)
                            refine lv_goto (tgt := 75) hx hb dX8_leastAll_156 (by decide) ?_
                            exact ih_351 _ (1, be_351) _ _ _ (by omega) ⟨rfl, (by omega), hP, hS, (by rw [nI_pred]; exact lv_sub hl [0, 3, 4, 5, 1, 6, 7, 8, 9] rfl)⟩
                          · refine lv_iload hx hb dX8_leastAll_132 (lv_at hl 5 rfl) ?_
                            refine lv_if_lt (tgt := 144) hx hb dX8_leastAll_134 (by decide) (fun c_357 => ?_) (fun c_357 => ?_)
                            · refine lv_iload hx hb dX8_leastAll_144 (lv_at hl 0 rfl) ?_
                              refine lv_goto (tgt := 151) hx hb dX8_leastAll_146 (by decide) ?_
                              refine lv_istore (lv' := [(4, .int r_355), (9, .int r_355), (8, .int (-1)), (7, .int (-1)), (6, .int (-1)), (5, .int (nI q5_1)), (3, .int (nI (dn sn))), (0, .ref (a 0)), (1, .int (nI sn)), (2, .int p1)]) hx hb dX8_leastAll_151 hl (by decide) rfl (fun ls hl => ?_)
                              refine lv_iinc (v := 0) (lv' := [(8, .int 0), (4, .int r_355), (9, .int r_355), (7, .int (-1)), (6, .int (-1)), (5, .int (nI q5_1)), (3, .int (nI (dn sn))), (0, .ref (a 0)), (1, .int (nI sn)), (2, .int p1)]) hx hb dX8_leastAll_153 hl (k := 2) rfl (by decide) (by decide) rfl (fun ls hl => ?_)
                              refine lv_goto (tgt := 75) hx hb dX8_leastAll_156 (by decide) ?_
                              exact ih_351 _ (1, r_355) _ _ _ (by omega) ⟨rfl, (by omega), hP, hS, (by rw [nI_pred]; exact lv_sub hl [0, 3, 4, 5, 1, 6, 7, 8, 9] rfl)⟩
                            · refine lv_iload hx hb dX8_leastAll_137 (lv_at hl 0 rfl) ?_
                              refine lv_iload hx hb dX8_leastAll_139 (lv_at hl 5 rfl) ?_
                              refine lv_icmp_ge (tgt := 149) hx hb dX8_leastAll_141 (by decide) (fun c_358 => ?_) (fun c_358 => ?_)
                              · refine lv_iload hx hb dX8_leastAll_149 (lv_at hl 5 rfl) ?_
                                refine lv_istore (lv' := [(4, .int be_351), (9, .int r_355), (8, .int (-1)), (7, .int (-1)), (6, .int (-1)), (5, .int (nI q5_1)), (3, .int (nI (dn sn))), (0, .ref (a 0)), (1, .int (nI sn)), (2, .int p1)]) hx hb dX8_leastAll_151 hl (by decide) rfl (fun ls hl => ?_)
                                refine lv_iinc (v := 0) (lv' := [(8, .int 0), (4, .int be_351), (9, .int r_355), (7, .int (-1)), (6, .int (-1)), (5, .int (nI q5_1)), (3, .int (nI (dn sn))), (0, .ref (a 0)), (1, .int (nI sn)), (2, .int p1)]) hx hb dX8_leastAll_153 hl (k := 2) rfl (by decide) (by decide) rfl (fun ls hl => ?_)
                                refine lv_goto (tgt := 75) hx hb dX8_leastAll_156 (by decide) ?_
                                exact ih_351 _ (1, be_351) _ _ _ (by omega) ⟨rfl, (by omega), hP, hS, (by rw [nI_pred]; exact lv_sub hl [0, 3, 4, 5, 1, 6, 7, 8, 9] rfl)⟩
                              · refine lv_iload hx hb dX8_leastAll_144 (lv_at hl 0 rfl) ?_
                                refine lv_goto (tgt := 151) hx hb dX8_leastAll_146 (by decide) ?_
                                refine lv_istore (lv' := [(4, .int r_355), (9, .int r_355), (8, .int (-1)), (7, .int (-1)), (6, .int (-1)), (5, .int (nI q5_1)), (3, .int (nI (dn sn))), (0, .ref (a 0)), (1, .int (nI sn)), (2, .int p1)]) hx hb dX8_leastAll_151 hl (by decide) rfl (fun ls hl => ?_)
                                refine lv_iinc (v := 0) (lv' := [(8, .int 0), (4, .int r_355), (9, .int r_355), (7, .int (-1)), (6, .int (-1)), (5, .int (nI q5_1)), (3, .int (nI (dn sn))), (0, .ref (a 0)), (1, .int (nI sn)), (2, .int p1)]) hx hb dX8_leastAll_153 hl (k := 2) rfl (by decide) (by decide) rfl (fun ls hl => ?_)
                                refine lv_goto (tgt := 75) hx hb dX8_leastAll_156 (by decide) ?_
                                exact ih_351 _ (1, r_355) _ _ _ (by omega) ⟨rfl, (by omega), hP, hS, (by rw [nI_pred]; exact lv_sub hl [0, 3, 4, 5, 1, 6, 7, 8, 9] rfl)⟩
                      · have c_352 : ¬ (ca ≤ 3) := fun h => c_352 ((nI_leI (a := ca) (b := 3) (by omega) (by omega)).mpr h)
                        refine lv_iload_n hx hb dX8_leastAll_85 rfl (lv_at hl 5 rfl) ?_
                        refine lv_goto (tgt := 90) hx hb dX8_leastAll_86 (by decide) ?_
                        refine lv_icmp_ge (tgt := 159) hx hb dX8_leastAll_90 (by decide) (fun c_359 => ?_) (fun c_359 => ?_)
                        · refine lv_iinc (v := 0) (lv' := [(7, .int 0), (8, .int (-1)), (6, .int (-1)), (5, .int (nI q5_1)), (4, .int be_351), (3, .int (nI (dn sn))), (0, .ref (a 0)), (1, .int (nI sn)), (2, .int p1)]) hx hb dX8_leastAll_159 hl (k := 1) rfl (by decide) (by decide) rfl (fun ls hl => ?_)
                          refine lv_goto (tgt := 54) hx hb dX8_leastAll_162 (by decide) ?_
                          exact ih_325 _ (1, be_351) _ _ _ (by omega) ⟨rfl, (by omega), hP, hS, (by rw [nI_pred]; exact lv_sub hl [0, 2, 3, 4, 5, 6, 7, 8] rfl)⟩
                        · refine lv_iload_n hx hb dX8_leastAll_93 rfl (lv_at hl 8 rfl) ?_
                          refine lv_iload hx hb dX8_leastAll_94 (lv_at hl 3 rfl) ?_
                          refine lv_iload hx hb dX8_leastAll_96 (lv_at hl 2 rfl) ?_
                          refine lv_iload hx hb dX8_leastAll_98 (lv_at hl 1 rfl) ?_
                          refine lv_iload hx hb dX8_leastAll_100 (lv_at hl 0 rfl) ?_
                          refine ro_i (D := D) (va_runS (As := [.int p1, .int (nI q5_1), .int (-1), .int (-1), .int (-1)]) (rest := []) ⟨hx, hb, hml, hown, hts⟩ ((m_canAll l D k st lo p1 (nI q5_1) (-1) (-1) (-1)) H.size) (va_cwS 5 hts (gS tw_1450 tw_1451 tw_87 tw_1452) rfl rfl rfl (by decide +kernel) ⟨Nat.le_of_ble_eq_true rfl, Nat.le_of_ble_eq_true rfl⟩) (pS hS hAlo hlo hP hK hDL hZ [] (by decide) rfl) rfl rfl hl.1 rfl (lv_room (Nat.le_of_ble_eq_true rfl)) dX8_leastAll_102 ⟨Nat.le_of_ble_eq_true rfl, Nat.le_of_ble_eq_true rfl⟩) hS hA hP (fun r_360 H locs hw_360 hP hS => ?_)
                          try dsimp only at hw_360
                          refine lv_if_eq (tgt := 124) hx hb dX8_leastAll_105 (by decide) (fun c_361 => ?_) (fun c_361 => ?_)
                          · refine lv_iconst (v := (-1)) hx hb dX8_leastAll_124 (by decide) ?_
                            refine lv_istore (lv' := [(9, .int (-1)), (8, .int (-1)), (7, .int (-1)), (6, .int (-1)), (5, .int (nI q5_1)), (4, .int be_351), (3, .int (nI (dn sn))), (0, .ref (a 0)), (1, .int (nI sn)), (2, .int p1)]) hx hb dX8_leastAll_125 hl (by decide) rfl (fun ls hl => ?_)
                            refine lv_iload hx hb dX8_leastAll_127 (lv_at hl 0 rfl) ?_
                            refine lv_if_lt (tgt := 149) hx hb dX8_leastAll_129 (by decide) (fun _ => ?_) (fun h => absurd (by decide) h)
                            refine lv_iload hx hb dX8_leastAll_149 (lv_at hl 5 rfl) ?_
                            refine lv_istore (lv' := [(4, .int be_351), (9, .int (-1)), (8, .int (-1)), (7, .int (-1)), (6, .int (-1)), (5, .int (nI q5_1)), (3, .int (nI (dn sn))), (0, .ref (a 0)), (1, .int (nI sn)), (2, .int p1)]) hx hb dX8_leastAll_151 hl (by decide) rfl (fun ls hl => ?_)
                            refine lv_iinc (v := 0) (lv' := [(8, .int 0), (4, .int be_351), (9, .int (-1)), (7, .int (-1)), (6, .int (-1)), (5, .int (nI q5_1)), (3, .int (nI (dn sn))), (0, .ref (a 0)), (1, .int (nI sn)), (2, .int p1)]) hx hb dX8_leastAll_153 hl (k := 2) rfl (by decide) (by decide) rfl (fun ls hl => ?_)
                            refine lv_goto (tgt := 75) hx hb dX8_leastAll_156 (by decide) ?_
                            exact ih_351 _ (1, be_351) _ _ _ (by omega) ⟨rfl, (by omega), hP, hS, (by rw [nI_pred]; exact lv_sub hl [0, 3, 4, 5, 1, 6, 7, 8, 9] rfl)⟩
                          · refine lv_aload_n hx hb dX8_leastAll_108 rfl (lv_at hl 6 rfl) ?_
                            refine lv_iload_n hx hb dX8_leastAll_109 rfl (lv_at hl 7 rfl) ?_
                            refine lv_iload hx hb dX8_leastAll_110 (lv_at hl 3 rfl) ?_
                            refine lv_iload hx hb dX8_leastAll_112 (lv_at hl 2 rfl) ?_
                            refine lv_iload hx hb dX8_leastAll_114 (lv_at hl 1 rfl) ?_
                            refine lv_iload hx hb dX8_leastAll_116 (lv_at hl 0 rfl) ?_
                            refine ro_i (D := D) (va_runV (As := [.int (nI sn), .int (nI q5_1), .int (-1), .int (-1), .int (-1)]) (rest := []) ⟨hx, hb, hml, hown, hts⟩ ((m_sumAll l D k st lo a tx t0 we rd ru rw ca fp wd nu na ts df db sd dn se tm gs fprices fwalks sn (nI q5_1) (-1) (-1) (-1) (by omega) (by omega) (.inr ⟨q5_1, by omega, rfl⟩) (.inl (by decide)) (.inl (by decide)) (.inl (by decide))) H.size) (cwV 5 hts (gV tw_1459 tw_1461 tw_75 tw_87 tw_1462) rfl rfl rfl (by decide +kernel) ⟨Nat.le_of_ble_eq_true rfl, Nat.le_of_ble_eq_true rfl⟩) (pV hS hAlo hlo hP hK hDL hZ [0, 1, 2, 3, 4] (by decide) rfl (ci := 8) (q := (RX8, TX8, 44)) (q0 := 0) rfl rfl) rfl rfl hl.1 rfl (lv_room (Nat.le_of_ble_eq_true rfl)) dX8_leastAll_118 ⟨Nat.le_of_ble_eq_true rfl, Nat.le_of_ble_eq_true rfl⟩) hS hA hP (fun r_362 H locs hw_362 hP hS => ?_)
                            try dsimp only at hw_362
                            refine lv_goto (tgt := 125) hx hb dX8_leastAll_121 (by decide) ?_
                            refine lv_istore (lv' := [(9, .int r_362), (8, .int (-1)), (7, .int (-1)), (6, .int (-1)), (5, .int (nI q5_1)), (4, .int be_351), (3, .int (nI (dn sn))), (0, .ref (a 0)), (1, .int (nI sn)), (2, .int p1)]) hx hb dX8_leastAll_125 hl (by decide) rfl (fun ls hl => ?_)
                            refine lv_iload hx hb dX8_leastAll_127 (lv_at hl 0 rfl) ?_
                            refine lv_if_lt (tgt := 149) hx hb dX8_leastAll_129 (by decide) (fun c_363 => ?_) (fun c_363 => ?_)
                            · refine lv_iload hx hb dX8_leastAll_149 (lv_at hl 5 rfl) ?_
                              refine lv_istore (lv' := [(4, .int be_351), (9, .int r_362), (8, .int (-1)), (7, .int (-1)), (6, .int (-1)), (5, .int (nI q5_1)), (3, .int (nI (dn sn))), (0, .ref (a 0)), (1, .int (nI sn)), (2, .int p1)]) hx hb dX8_leastAll_151 hl (by decide) rfl (fun ls hl => ?_)
                              refine lv_iinc (v := 0) (lv' := [(8, .int 0), (4, .int be_351), (9, .int r_362), (7, .int (-1)), (6, .int (-1)), (5, .int (nI q5_1)), (3, .int (nI (dn sn))), (0, .ref (a 0)), (1, .int (nI sn)), (2, .int p1)]) hx hb dX8_leastAll_153 hl (k := 2) rfl (by decide) (by decide) rfl (fun ls hl => ?_)
                              refine lv_goto (tgt := 75) hx hb dX8_leastAll_156 (by decide) ?_
                              exact ih_351 _ (1, be_351) _ _ _ (by omega) ⟨rfl, (by omega), hP, hS, (by rw [nI_pred]; exact lv_sub hl [0, 3, 4, 5, 1, 6, 7, 8, 9] rfl)⟩
                            · refine lv_iload hx hb dX8_leastAll_132 (lv_at hl 5 rfl) ?_
                              refine lv_if_lt (tgt := 144) hx hb dX8_leastAll_134 (by decide) (fun c_364 => ?_) (fun c_364 => ?_)
                              · refine lv_iload hx hb dX8_leastAll_144 (lv_at hl 0 rfl) ?_
                                refine lv_goto (tgt := 151) hx hb dX8_leastAll_146 (by decide) ?_
                                refine lv_istore (lv' := [(4, .int r_362), (9, .int r_362), (8, .int (-1)), (7, .int (-1)), (6, .int (-1)), (5, .int (nI q5_1)), (3, .int (nI (dn sn))), (0, .ref (a 0)), (1, .int (nI sn)), (2, .int p1)]) hx hb dX8_leastAll_151 hl (by decide) rfl (fun ls hl => ?_)
                                refine lv_iinc (v := 0) (lv' := [(8, .int 0), (4, .int r_362), (9, .int r_362), (7, .int (-1)), (6, .int (-1)), (5, .int (nI q5_1)), (3, .int (nI (dn sn))), (0, .ref (a 0)), (1, .int (nI sn)), (2, .int p1)]) hx hb dX8_leastAll_153 hl (k := 2) rfl (by decide) (by decide) rfl (fun ls hl => ?_)
                                refine lv_goto (tgt := 75) hx hb dX8_leastAll_156 (by decide) ?_
                                exact ih_351 _ (1, r_362) _ _ _ (by omega) ⟨rfl, (by omega), hP, hS, (by rw [nI_pred]; exact lv_sub hl [0, 3, 4, 5, 1, 6, 7, 8, 9] rfl)⟩
                              · refine lv_iload hx hb dX8_leastAll_137 (lv_at hl 0 rfl) ?_
                                refine lv_iload hx hb dX8_leastAll_139 (lv_at hl 5 rfl) ?_
                                refine lv_icmp_ge (tgt := 149) hx hb dX8_leastAll_141 (by decide) (fun c_365 => ?_) (fun c_365 => ?_)
                                · refine lv_iload hx hb dX8_leastAll_149 (lv_at hl 5 rfl) ?_
                                  refine lv_istore (lv' := [(4, .int be_351), (9, .int r_362), (8, .int (-1)), (7, .int (-1)), (6, .int (-1)), (5, .int (nI q5_1)), (3, .int (nI (dn sn))), (0, .ref (a 0)), (1, .int (nI sn)), (2, .int p1)]) hx hb dX8_leastAll_151 hl (by decide) rfl (fun ls hl => ?_)
                                  refine lv_iinc (v := 0) (lv' := [(8, .int 0), (4, .int be_351), (9, .int r_362), (7, .int (-1)), (6, .int (-1)), (5, .int (nI q5_1)), (3, .int (nI (dn sn))), (0, .ref (a 0)), (1, .int (nI sn)), (2, .int p1)]) hx hb dX8_leastAll_153 hl (k := 2) rfl (by decide) (by decide) rfl (fun ls hl => ?_)
                                  refine lv_goto (tgt := 75) hx hb dX8_leastAll_156 (by decide) ?_
                                  exact ih_351 _ (1, be_351) _ _ _ (by omega) ⟨rfl, (by omega), hP, hS, (by rw [nI_pred]; exact lv_sub hl [0, 3, 4, 5, 1, 6, 7, 8, 9] rfl)⟩
                                · refine lv_iload hx hb dX8_leastAll_144 (lv_at hl 0 rfl) ?_
                                  refine lv_goto (tgt := 151) hx hb dX8_leastAll_146 (by decide) ?_
                                  refine lv_istore (lv' := [(4, .int r_362), (9, .int r_362), (8, .int (-1)), (7, .int (-1)), (6, .int (-1)), (5, .int (nI q5_1)), (3, .int (nI (dn sn))), (0, .ref (a 0)), (1, .int (nI sn)), (2, .int p1)]) hx hb dX8_leastAll_151 hl (by decide) rfl (fun ls hl => ?_)
                                  refine lv_iinc (v := 0) (lv' := [(8, .int 0), (4, .int r_362), (9, .int r_362), (7, .int (-1)), (6, .int (-1)), (5, .int (nI q5_1)), (3, .int (nI (dn sn))), (0, .ref (a 0)), (1, .int (nI sn)), (2, .int p1)]) hx hb dX8_leastAll_153 hl (k := 2) rfl (by decide) (by decide) rfl (fun ls hl => ?_)
                                  refine lv_goto (tgt := 75) hx hb dX8_leastAll_156 (by decide) ?_
                                  exact ih_351 _ (1, r_362) _ _ _ (by omega) ⟨rfl, (by omega), hP, hS, (by rw [nI_pred]; exact lv_sub hl [0, 3, 4, 5, 1, 6, 7, 8, 9] rfl)⟩
                    · rw [nI_pred] at hl
                      refine lv_iload hx hb dX8_leastAll_75 (lv_at hl 0 rfl) ?_
                      refine lv_aload_n hx hb dX8_leastAll_77 rfl (lv_at hl 6 rfl) ?_
                      refine va_get (D := D) (ci := 8) (v := .int (nI ca)) (C := RX8) (T := TX8) (N := 44) hx hb hts inX8 hown hK hP 0 rfl rfl 34 (by decide) (hts _ tw_1007) (fun _ h9 => h9) rfl dX8_leastAll_78 ?_
                      refine lv_iconst (v := 3) hx hb dX8_leastAll_81 (by decide) ?_
                      refine lv_icmp_le (tgt := 89) hx hb dX8_leastAll_82 (by decide) (fun c_366 => ?_) (fun c_366 => ?_)
                      · have c_366 := (nI_leI (a := ca) (b := 3) (by omega) (by omega)).mp c_366
                        refine lv_iconst (v := 0) hx hb dX8_leastAll_89 (by decide) ?_
                        refine lv_icmp_ge (tgt := 159) hx hb dX8_leastAll_90 (by decide) (fun _ => ?_) (fun h => absurd (nI_ge0 (by omega)) h)
                        refine lv_iinc (v := 0) (lv' := [(7, .int 0), (8, .int (nI q8_351)), (6, .int (-1)), (5, .int (nI q5_1)), (4, .int be_351), (3, .int (nI (dn sn))), (0, .ref (a 0)), (1, .int (nI sn)), (2, .int p1)]) hx hb dX8_leastAll_159 hl (k := 1) rfl (by decide) (by decide) rfl (fun ls hl => ?_)
                        refine lv_goto (tgt := 54) hx hb dX8_leastAll_162 (by decide) ?_
                        exact ih_325 _ (1, be_351) _ _ _ (by omega) ⟨rfl, (by omega), hP, hS, (by rw [nI_pred]; exact lv_sub hl [0, 2, 3, 4, 5, 6, 7, 8] rfl)⟩
                      · have c_366 : ¬ (ca ≤ 3) := fun h => c_366 ((nI_leI (a := ca) (b := 3) (by omega) (by omega)).mpr h)
                        refine lv_iload_n hx hb dX8_leastAll_85 rfl (lv_at hl 5 rfl) ?_
                        refine lv_goto (tgt := 90) hx hb dX8_leastAll_86 (by decide) ?_
                        refine lv_icmp_ge (tgt := 159) hx hb dX8_leastAll_90 (by decide) (fun c_367 => ?_) (fun c_367 => ?_)
                        · have c_367 := (nI_leI (a := (dn sn)) (b := q8_351) (by omega) (by omega)).mp c_367
                          refine lv_iinc (v := 0) (lv' := [(7, .int 0), (8, .int (nI q8_351)), (6, .int (-1)), (5, .int (nI q5_1)), (4, .int be_351), (3, .int (nI (dn sn))), (0, .ref (a 0)), (1, .int (nI sn)), (2, .int p1)]) hx hb dX8_leastAll_159 hl (k := 1) rfl (by decide) (by decide) rfl (fun ls hl => ?_)
                          refine lv_goto (tgt := 54) hx hb dX8_leastAll_162 (by decide) ?_
                          exact ih_325 _ (1, be_351) _ _ _ (by omega) ⟨rfl, (by omega), hP, hS, (by rw [nI_pred]; exact lv_sub hl [0, 2, 3, 4, 5, 6, 7, 8] rfl)⟩
                        · have c_367 : ¬ ((dn sn) ≤ q8_351) := fun h => c_367 ((nI_leI (a := (dn sn)) (b := q8_351) (by omega) (by omega)).mpr h)
                          refine lv_iload_n hx hb dX8_leastAll_93 rfl (lv_at hl 8 rfl) ?_
                          refine lv_iload hx hb dX8_leastAll_94 (lv_at hl 3 rfl) ?_
                          refine lv_iload hx hb dX8_leastAll_96 (lv_at hl 2 rfl) ?_
                          refine lv_iload hx hb dX8_leastAll_98 (lv_at hl 1 rfl) ?_
                          refine lv_iload hx hb dX8_leastAll_100 (lv_at hl 0 rfl) ?_
                          refine ro_i (D := D) (va_runS (As := [.int p1, .int (nI q5_1), .int (-1), .int (-1), .int (nI q8_351)]) (rest := []) ⟨hx, hb, hml, hown, hts⟩ ((m_canAll l D k st lo p1 (nI q5_1) (-1) (-1) (nI q8_351)) H.size) (va_cwS 5 hts (gS tw_1450 tw_1451 tw_87 tw_1452) rfl rfl rfl (by decide +kernel) ⟨Nat.le_of_ble_eq_true rfl, Nat.le_of_ble_eq_true rfl⟩) (pS hS hAlo hlo hP hK hDL hZ [] (by decide) rfl) rfl rfl hl.1 rfl (lv_room (Nat.le_of_ble_eq_true rfl)) dX8_leastAll_102 ⟨Nat.le_of_ble_eq_true rfl, Nat.le_of_ble_eq_true rfl⟩) hS hA hP (fun r_368 H locs hw_368 hP hS => ?_)
                          try dsimp only at hw_368
                          refine lv_if_eq (tgt := 124) hx hb dX8_leastAll_105 (by decide) (fun c_369 => ?_) (fun c_369 => ?_)
                          · refine lv_iconst (v := (-1)) hx hb dX8_leastAll_124 (by decide) ?_
                            refine lv_istore (lv' := [(9, .int (-1)), (8, .int (nI q8_351)), (7, .int (-1)), (6, .int (-1)), (5, .int (nI q5_1)), (4, .int be_351), (3, .int (nI (dn sn))), (0, .ref (a 0)), (1, .int (nI sn)), (2, .int p1)]) hx hb dX8_leastAll_125 hl (by decide) rfl (fun ls hl => ?_)
                            refine lv_iload hx hb dX8_leastAll_127 (lv_at hl 0 rfl) ?_
                            refine lv_if_lt (tgt := 149) hx hb dX8_leastAll_129 (by decide) (fun _ => ?_) (fun h => absurd (by decide) h)
                            refine lv_iload hx hb dX8_leastAll_149 (lv_at hl 5 rfl) ?_
                            refine lv_istore (lv' := [(4, .int be_351), (9, .int (-1)), (8, .int (nI q8_351)), (7, .int (-1)), (6, .int (-1)), (5, .int (nI q5_1)), (3, .int (nI (dn sn))), (0, .ref (a 0)), (1, .int (nI sn)), (2, .int p1)]) hx hb dX8_leastAll_151 hl (by decide) rfl (fun ls hl => ?_)
                            refine lv_iinc (v := (nI (q8_351 + 1))) (lv' := [(8, .int (nI (q8_351 + 1))), (4, .int be_351), (9, .int (-1)), (7, .int (-1)), (6, .int (-1)), (5, .int (nI q5_1)), (3, .int (nI (dn sn))), (0, .ref (a 0)), (1, .int (nI sn)), (2, .int p1)]) hx hb dX8_leastAll_153 hl (k := 2) rfl (nI_add q8_351 1) (by decide) rfl (fun ls hl => ?_)
                            refine lv_goto (tgt := 75) hx hb dX8_leastAll_156 (by decide) ?_
                            exact ih_351 _ (q8_351 + 1 + 1, be_351) _ _ _ (by omega) ⟨rfl, (by omega), hP, hS, (by rw [nI_pred]; exact lv_sub hl [0, 3, 4, 5, 1, 6, 7, 8, 9] rfl)⟩
                          · refine lv_aload_n hx hb dX8_leastAll_108 rfl (lv_at hl 6 rfl) ?_
                            refine lv_iload_n hx hb dX8_leastAll_109 rfl (lv_at hl 7 rfl) ?_
                            refine lv_iload hx hb dX8_leastAll_110 (lv_at hl 3 rfl) ?_
                            refine lv_iload hx hb dX8_leastAll_112 (lv_at hl 2 rfl) ?_
                            refine lv_iload hx hb dX8_leastAll_114 (lv_at hl 1 rfl) ?_
                            refine lv_iload hx hb dX8_leastAll_116 (lv_at hl 0 rfl) ?_
                            refine ro_i (D := D) (va_runV (As := [.int (nI sn), .int (nI q5_1), .int (-1), .int (-1), .int (nI q8_351)]) (rest := []) ⟨hx, hb, hml, hown, hts⟩ ((m_sumAll l D k st lo a tx t0 we rd ru rw ca fp wd nu na ts df db sd dn se tm gs fprices fwalks sn (nI q5_1) (-1) (-1) (nI q8_351) (by omega) (by omega) (.inr ⟨q5_1, by omega, rfl⟩) (.inl (by decide)) (.inl (by decide)) (.inr ⟨q8_351, by omega, rfl⟩)) H.size) (cwV 5 hts (gV tw_1459 tw_1461 tw_75 tw_87 tw_1462) rfl rfl rfl (by decide +kernel) ⟨Nat.le_of_ble_eq_true rfl, Nat.le_of_ble_eq_true rfl⟩) (pV hS hAlo hlo hP hK hDL hZ [0, 1, 2, 3, 4] (by decide) rfl (ci := 8) (q := (RX8, TX8, 44)) (q0 := 0) rfl rfl) rfl rfl hl.1 rfl (lv_room (Nat.le_of_ble_eq_true rfl)) dX8_leastAll_118 ⟨Nat.le_of_ble_eq_true rfl, Nat.le_of_ble_eq_true rfl⟩) hS hA hP (fun r_370 H locs hw_370 hP hS => ?_)
                            try dsimp only at hw_370
                            refine lv_goto (tgt := 125) hx hb dX8_leastAll_121 (by decide) ?_
                            refine lv_istore (lv' := [(9, .int r_370), (8, .int (nI q8_351)), (7, .int (-1)), (6, .int (-1)), (5, .int (nI q5_1)), (4, .int be_351), (3, .int (nI (dn sn))), (0, .ref (a 0)), (1, .int (nI sn)), (2, .int p1)]) hx hb dX8_leastAll_125 hl (by decide) rfl (fun ls hl => ?_)
                            refine lv_iload hx hb dX8_leastAll_127 (lv_at hl 0 rfl) ?_
                            refine lv_if_lt (tgt := 149) hx hb dX8_leastAll_129 (by decide) (fun c_371 => ?_) (fun c_371 => ?_)
                            · refine lv_iload hx hb dX8_leastAll_149 (lv_at hl 5 rfl) ?_
                              refine lv_istore (lv' := [(4, .int be_351), (9, .int r_370), (8, .int (nI q8_351)), (7, .int (-1)), (6, .int (-1)), (5, .int (nI q5_1)), (3, .int (nI (dn sn))), (0, .ref (a 0)), (1, .int (nI sn)), (2, .int p1)]) hx hb dX8_leastAll_151 hl (by decide) rfl (fun ls hl => ?_)
                              refine lv_iinc (v := (nI (q8_351 + 1))) (lv' := [(8, .int (nI (q8_351 + 1))), (4, .int be_351), (9, .int r_370), (7, .int (-1)), (6, .int (-1)), (5, .int (nI q5_1)), (3, .int (nI (dn sn))), (0, .ref (a 0)), (1, .int (nI sn)), (2, .int p1)]) hx hb dX8_leastAll_153 hl (k := 2) rfl (nI_add q8_351 1) (by decide) rfl (fun ls hl => ?_)
                              refine lv_goto (tgt := 75) hx hb dX8_leastAll_156 (by decide) ?_
                              exact ih_351 _ (q8_351 + 1 + 1, be_351) _ _ _ (by omega) ⟨rfl, (by omega), hP, hS, (by rw [nI_pred]; exact lv_sub hl [0, 3, 4, 5, 1, 6, 7, 8, 9] rfl)⟩
                            · refine lv_iload hx hb dX8_leastAll_132 (lv_at hl 5 rfl) ?_
                              refine lv_if_lt (tgt := 144) hx hb dX8_leastAll_134 (by decide) (fun c_372 => ?_) (fun c_372 => ?_)
                              · refine lv_iload hx hb dX8_leastAll_144 (lv_at hl 0 rfl) ?_
                                refine lv_goto (tgt := 151) hx hb dX8_leastAll_146 (by decide) ?_
                                refine lv_istore (lv' := [(4, .int r_370), (9, .int r_370), (8, .int (nI q8_351)), (7, .int (-1)), (6, .int (-1)), (5, .int (nI q5_1)), (3, .int (nI (dn sn))), (0, .ref (a 0)), (1, .int (nI sn)), (2, .int p1)]) hx hb dX8_leastAll_151 hl (by decide) rfl (fun ls hl => ?_)
                                refine lv_iinc (v := (nI (q8_351 + 1))) (lv' := [(8, .int (nI (q8_351 + 1))), (4, .int r_370), (9, .int r_370), (7, .int (-1)), (6, .int (-1)), (5, .int (nI q5_1)), (3, .int (nI (dn sn))), (0, .ref (a 0)), (1, .int (nI sn)), (2, .int p1)]) hx hb dX8_leastAll_153 hl (k := 2) rfl (nI_add q8_351 1) (by decide) rfl (fun ls hl => ?_)
                                refine lv_goto (tgt := 75) hx hb dX8_leastAll_156 (by decide) ?_
                                exact ih_351 _ (q8_351 + 1 + 1, r_370) _ _ _ (by omega) ⟨rfl, (by omega), hP, hS, (by rw [nI_pred]; exact lv_sub hl [0, 3, 4, 5, 1, 6, 7, 8, 9] rfl)⟩
                              · refine lv_iload hx hb dX8_leastAll_137 (lv_at hl 0 rfl) ?_
                                refine lv_iload hx hb dX8_leastAll_139 (lv_at hl 5 rfl) ?_
                                refine lv_icmp_ge (tgt := 149) hx hb dX8_leastAll_141 (by decide) (fun c_373 => ?_) (fun c_373 => ?_)
                                · refine lv_iload hx hb dX8_leastAll_149 (lv_at hl 5 rfl) ?_
                                  refine lv_istore (lv' := [(4, .int be_351), (9, .int r_370), (8, .int (nI q8_351)), (7, .int (-1)), (6, .int (-1)), (5, .int (nI q5_1)), (3, .int (nI (dn sn))), (0, .ref (a 0)), (1, .int (nI sn)), (2, .int p1)]) hx hb dX8_leastAll_151 hl (by decide) rfl (fun ls hl => ?_)
                                  refine lv_iinc (v := (nI (q8_351 + 1))) (lv' := [(8, .int (nI (q8_351 + 1))), (4, .int be_351), (9, .int r_370), (7, .int (-1)), (6, .int (-1)), (5, .int (nI q5_1)), (3, .int (nI (dn sn))), (0, .ref (a 0)), (1, .int (nI sn)), (2, .int p1)]) hx hb dX8_leastAll_153 hl (k := 2) rfl (nI_add q8_351 1) (by decide) rfl (fun ls hl => ?_)
                                  refine lv_goto (tgt := 75) hx hb dX8_leastAll_156 (by decide) ?_
                                  exact ih_351 _ (q8_351 + 1 + 1, be_351) _ _ _ (by omega) ⟨rfl, (by omega), hP, hS, (by rw [nI_pred]; exact lv_sub hl [0, 3, 4, 5, 1, 6, 7, 8, 9] rfl)⟩
                                · refine lv_iload hx hb dX8_leastAll_144 (lv_at hl 0 rfl) ?_
                                  refine lv_goto (tgt := 151) hx hb dX8_leastAll_146 (by decide) ?_
                                  refine lv_istore (lv' := [(4, .int r_370), (9, .int r_370), (8, .int (nI q8_351)), (7, .int (-1)), (6, .int (-1)), (5, .int (nI q5_1)), (3, .int (nI (dn sn))), (0, .ref (a 0)), (1, .int (nI sn)), (2, .int p1)]) hx hb dX8_leastAll_151 hl (by decide) rfl (fun ls hl => ?_)
                                  refine lv_iinc (v := (nI (q8_351 + 1))) (lv' := [(8, .int (nI (q8_351 + 1))), (4, .int r_370), (9, .int r_370), (7, .int (-1)), (6, .int (-1)), (5, .int (nI q5_1)), (3, .int (nI (dn sn))), (0, .ref (a 0)), (1, .int (nI sn)), (2, .int p1)]) hx hb dX8_leastAll_153 hl (k := 2) rfl (nI_add q8_351 1) (by decide) rfl (fun ls hl => ?_)
                                  refine lv_goto (tgt := 75) hx hb dX8_leastAll_156 (by decide) ?_
                                  exact ih_351 _ (q8_351 + 1 + 1, r_370) _ _ _ (by omega) ⟨rfl, (by omega), hP, hS, (by rw [nI_pred]; exact lv_sub hl [0, 3, 4, 5, 1, 6, 7, 8, 9] rfl)⟩
              · rw [nI_pred] at hl
                refine lv_iload hx hb dX8_leastAll_54 (lv_at hl 0 rfl) ?_
                refine lv_aload_n hx hb dX8_leastAll_56 rfl (lv_at hl 5 rfl) ?_
                refine va_get (D := D) (ci := 8) (v := .int (nI ca)) (C := RX8) (T := TX8) (N := 44) hx hb hts inX8 hown hK hP 0 rfl rfl 34 (by decide) (hts _ tw_1007) (fun _ h9 => h9) rfl dX8_leastAll_57 ?_
                refine lv_iconst (v := 2) hx hb dX8_leastAll_60 (by decide) ?_
                refine lv_icmp_le (tgt := 68) hx hb dX8_leastAll_61 (by decide) (fun c_374 => ?_) (fun c_374 => ?_)
                · have c_374 := (nI_leI (a := ca) (b := 2) (by omega) (by omega)).mp c_374
                  refine lv_iconst (v := 0) hx hb dX8_leastAll_68 (by decide) ?_
                  refine lv_icmp_ge (tgt := 165) hx hb dX8_leastAll_69 (by decide) (fun _ => ?_) (fun h => absurd (nI_ge0 (by omega)) h)
                  refine lv_iinc (v := 0) (lv' := [(6, .int 0), (7, .int (nI q7_325)), (5, .int (nI q5_1)), (4, .int be_325), (3, .int (nI (dn sn))), (0, .ref (a 0)), (1, .int (nI sn)), (2, .int p1)]) hx hb dX8_leastAll_165 hl (k := 1) rfl (by decide) (by decide) rfl (fun ls hl => ?_)
                  refine lv_goto (tgt := 33) hx hb dX8_leastAll_168 (by decide) ?_
                  exact ih_248 _ (1, be_325) _ _ _ (by omega) ⟨rfl, (by omega), hP, hS, (by rw [nI_pred]; exact lv_sub hl [0, 2, 3, 4, 5, 6, 7] rfl)⟩
                · have c_374 : ¬ (ca ≤ 2) := fun h => c_374 ((nI_leI (a := ca) (b := 2) (by omega) (by omega)).mpr h)
                  refine lv_iload_n hx hb dX8_leastAll_64 rfl (lv_at hl 4 rfl) ?_
                  refine lv_goto (tgt := 69) hx hb dX8_leastAll_65 (by decide) ?_
                  refine lv_icmp_ge (tgt := 165) hx hb dX8_leastAll_69 (by decide) (fun c_375 => ?_) (fun c_375 => ?_)
                  · have c_375 := (nI_leI (a := (dn sn)) (b := q7_325) (by omega) (by omega)).mp c_375
                    refine lv_iinc (v := 0) (lv' := [(6, .int 0), (7, .int (nI q7_325)), (5, .int (nI q5_1)), (4, .int be_325), (3, .int (nI (dn sn))), (0, .ref (a 0)), (1, .int (nI sn)), (2, .int p1)]) hx hb dX8_leastAll_165 hl (k := 1) rfl (by decide) (by decide) rfl (fun ls hl => ?_)
                    refine lv_goto (tgt := 33) hx hb dX8_leastAll_168 (by decide) ?_
                    exact ih_248 _ (1, be_325) _ _ _ (by omega) ⟨rfl, (by omega), hP, hS, (by rw [nI_pred]; exact lv_sub hl [0, 2, 3, 4, 5, 6, 7] rfl)⟩
                  · have c_375 : ¬ ((dn sn) ≤ q7_325) := fun h => c_375 ((nI_leI (a := (dn sn)) (b := q7_325) (by omega) (by omega)).mpr h)
                    refine lv_iconst (v := (-1)) hx hb dX8_leastAll_72 (by decide) ?_
                    refine lv_istore (lv' := [(8, .int (-1)), (7, .int (nI q7_325)), (6, .int (-1)), (5, .int (nI q5_1)), (4, .int be_325), (3, .int (nI (dn sn))), (0, .ref (a 0)), (1, .int (nI sn)), (2, .int p1)]) hx hb dX8_leastAll_73 hl (by decide) rfl (fun ls hl => ?_)
                    refine W_loop (σ := Nat × Int32) (fun (n_ : Nat) (x_ : Nat × Int32) (H : Heap) (locs : List Loc) (ls : Array Slot) => match x_ with | (q8_376, be_376) => n_ = 26 - q8_376 ∧ (q8_376 ≤ 25) ∧ va_P D classes [((a 0), .inr (8, (fX8 a (nI tx) fp (nI t0) wd (nI we) nu na (nI rd) ts (nI ru) (nI rw) (nI ca) df db sd))), (aI k (a 1) 3 (nF dn)), (aI k (a 4) 27 (sg se tm gs)), (aI k (a 3) 72 fprices), (aI k (a 36) 4 fwalks)] H ∧ va_S (fun q : Nat => s.heap.size ≤ q) s.heap H locs ∧ lv_has ls 10 [(8, .int (nI q8_376 - 1)), (7, .int (nI q7_325)), (6, .int (-1)), (5, .int (nI q5_1)), (4, .int be_376), (3, .int (nI (dn sn))), (0, .ref (a 0)), (1, .int (nI sn)), (2, .int p1)]) (fun n_376 x_376 H locs ls hI ih_376 => ?_) _ (0, be_325) ⟨rfl, (by omega), hP, hS, (by rw [dn0]; exact lv_sub hl [0, 1, 2, 3, 4, 5, 6, 7, 8] rfl)⟩
                    obtain ⟨q8_376, be_376⟩ := x_376
                    obtain ⟨hm_376, hv_376, hP, hS, hl⟩ := hI
                    subst hm_376
                    rcases q8_376 with _ | q8_376
                    · rw [dn0] at hl
                      refine lv_iload hx hb dX8_leastAll_75 (lv_at hl 0 rfl) ?_
                      refine lv_aload_n hx hb dX8_leastAll_77 rfl (lv_at hl 6 rfl) ?_
                      refine va_get (D := D) (ci := 8) (v := .int (nI ca)) (C := RX8) (T := TX8) (N := 44) hx hb hts inX8 hown hK hP 0 rfl rfl 34 (by decide) (hts _ tw_1007) (fun _ h9 => h9) rfl dX8_leastAll_78 ?_
                      refine lv_iconst (v := 3) hx hb dX8_leastAll_81 (by decide) ?_
                      refine lv_icmp_le (tgt := 89) hx hb dX8_leastAll_82 (by decide) (fun c_377 => ?_) (fun c_377 => ?_)
                      · have c_377 := (nI_leI (a := ca) (b := 3) (by omega) (by omega)).mp c_377
                        refine lv_iconst (v := 0) hx hb dX8_leastAll_89 (by decide) ?_
                        refine lv_icmp_ge (tgt := 159) hx hb dX8_leastAll_90 (by decide) (fun h => absurd h (by decide)) (fun _ => ?_)
                        refine lv_iload_n hx hb dX8_leastAll_93 rfl (lv_at hl 8 rfl) ?_
                        refine lv_iload hx hb dX8_leastAll_94 (lv_at hl 3 rfl) ?_
                        refine lv_iload hx hb dX8_leastAll_96 (lv_at hl 2 rfl) ?_
                        refine lv_iload hx hb dX8_leastAll_98 (lv_at hl 1 rfl) ?_
                        refine lv_iload hx hb dX8_leastAll_100 (lv_at hl 0 rfl) ?_
                        refine ro_i (D := D) (va_runS (As := [.int p1, .int (nI q5_1), .int (-1), .int (nI q7_325), .int (-1)]) (rest := []) ⟨hx, hb, hml, hown, hts⟩ ((m_canAll l D k st lo p1 (nI q5_1) (-1) (nI q7_325) (-1)) H.size) (va_cwS 5 hts (gS tw_1450 tw_1451 tw_87 tw_1452) rfl rfl rfl (by decide +kernel) ⟨Nat.le_of_ble_eq_true rfl, Nat.le_of_ble_eq_true rfl⟩) (pS hS hAlo hlo hP hK hDL hZ [] (by decide) rfl) rfl rfl hl.1 rfl (lv_room (Nat.le_of_ble_eq_true rfl)) dX8_leastAll_102 ⟨Nat.le_of_ble_eq_true rfl, Nat.le_of_ble_eq_true rfl⟩) hS hA hP (fun r_378 H locs hw_378 hP hS => ?_)
                        try dsimp only at hw_378
                        refine lv_if_eq (tgt := 124) hx hb dX8_leastAll_105 (by decide) (fun c_379 => ?_) (fun c_379 => ?_)
                        · refine lv_iconst (v := (-1)) hx hb dX8_leastAll_124 (by decide) ?_
                          refine lv_istore (lv' := [(9, .int (-1)), (8, .int (-1)), (7, .int (nI q7_325)), (6, .int (-1)), (5, .int (nI q5_1)), (4, .int be_376), (3, .int (nI (dn sn))), (0, .ref (a 0)), (1, .int (nI sn)), (2, .int p1)]) hx hb dX8_leastAll_125 hl (by decide) rfl (fun ls hl => ?_)
                          refine lv_iload hx hb dX8_leastAll_127 (lv_at hl 0 rfl) ?_
                          refine lv_if_lt (tgt := 149) hx hb dX8_leastAll_129 (by decide) (fun _ => ?_) (fun h => absurd (by decide) h)
                          refine lv_iload hx hb dX8_leastAll_149 (lv_at hl 5 rfl) ?_
                          refine lv_istore (lv' := [(4, .int be_376), (9, .int (-1)), (8, .int (-1)), (7, .int (nI q7_325)), (6, .int (-1)), (5, .int (nI q5_1)), (3, .int (nI (dn sn))), (0, .ref (a 0)), (1, .int (nI sn)), (2, .int p1)]) hx hb dX8_leastAll_151 hl (by decide) rfl (fun ls hl => ?_)
                          refine lv_iinc (v := 0) (lv' := [(8, .int 0), (4, .int be_376), (9, .int (-1)), (7, .int (nI q7_325)), (6, .int (-1)), (5, .int (nI q5_1)), (3, .int (nI (dn sn))), (0, .ref (a 0)), (1, .int (nI sn)), (2, .int p1)]) hx hb dX8_leastAll_153 hl (k := 2) rfl (by decide) (by decide) rfl (fun ls hl => ?_)
                          refine lv_goto (tgt := 75) hx hb dX8_leastAll_156 (by decide) ?_
                          exact ih_376 _ (1, be_376) _ _ _ (by omega) ⟨rfl, (by omega), hP, hS, (by rw [nI_pred]; exact lv_sub hl [0, 3, 4, 5, 1, 6, 7, 8, 9] rfl)⟩
                        · refine lv_aload_n hx hb dX8_leastAll_108 rfl (lv_at hl 6 rfl) ?_
                          refine lv_iload_n hx hb dX8_leastAll_109 rfl (lv_at hl 7 rfl) ?_
                          refine lv_iload hx hb dX8_leastAll_110 (lv_at hl 3 rfl) ?_
                          refine lv_iload hx hb dX8_leastAll_112 (lv_at hl 2 rfl) ?_
                          refine lv_iload hx hb dX8_leastAll_114 (lv_at hl 1 rfl) ?_
                          refine lv_iload hx hb dX8_leastAll_116 (lv_at hl 0 rfl) ?_
                          refine ro_i (D := D) (va_runV (As := [.int (nI sn), .int (nI q5_1), .int (-1), .int (nI q7_325), .int (-1)]) (rest := []) ⟨hx, hb, hml, hown, hts⟩ ((m_sumAll l D k st lo a tx t0 we rd ru rw ca fp wd nu na ts df db sd dn se tm gs fprices fwalks sn (nI q5_1) (-1) (nI q7_325) (-1) (by omega) (by omega) (.inr ⟨q5_1, by omega, rfl⟩) (.inl (by decide)) (.inr ⟨q7_325, by omega, rfl⟩) (.inl (by decide))) H.size) (cwV 5 hts (gV tw_1459 tw_1461 tw_75 tw_87 tw_1462) rfl rfl rfl (by decide +kernel) ⟨Nat.le_of_ble_eq_true rfl, Nat.le_of_ble_eq_true rfl⟩) (pV hS hAlo hlo hP hK hDL hZ [0, 1, 2, 3, 4] (by decide) rfl (ci := 8) (q := (RX8, TX8, 44)) (q0 := 0) rfl rfl) rfl rfl hl.1 rfl (lv_room (Nat.le_of_ble_eq_true rfl)) dX8_leastAll_118 ⟨Nat.le_of_ble_eq_true rfl, Nat.le_of_ble_eq_true rfl⟩) hS hA hP (fun r_380 H locs hw_380 hP hS => ?_)
                          try dsimp only at hw_380
                          refine lv_goto (tgt := 125) hx hb dX8_leastAll_121 (by decide) ?_
                          refine lv_istore (lv' := [(9, .int r_380), (8, .int (-1)), (7, .int (nI q7_325)), (6, .int (-1)), (5, .int (nI q5_1)), (4, .int be_376), (3, .int (nI (dn sn))), (0, .ref (a 0)), (1, .int (nI sn)), (2, .int p1)]) hx hb dX8_leastAll_125 hl (by decide) rfl (fun ls hl => ?_)
                          refine lv_iload hx hb dX8_leastAll_127 (lv_at hl 0 rfl) ?_
                          refine lv_if_lt (tgt := 149) hx hb dX8_leastAll_129 (by decide) (fun c_381 => ?_) (fun c_381 => ?_)
                          · refine lv_iload hx hb dX8_leastAll_149 (lv_at hl 5 rfl) ?_
                            refine lv_istore (lv' := [(4, .int be_376), (9, .int r_380), (8, .int (-1)), (7, .int (nI q7_325)), (6, .int (-1)), (5, .int (nI q5_1)), (3, .int (nI (dn sn))), (0, .ref (a 0)), (1, .int (nI sn)), (2, .int p1)]) hx hb dX8_leastAll_151 hl (by decide) rfl (fun ls hl => ?_)
                            refine lv_iinc (v := 0) (lv' := [(8, .int 0), (4, .int be_376), (9, .int r_380), (7, .int (nI q7_325)), (6, .int (-1)), (5, .int (nI q5_1)), (3, .int (nI (dn sn))), (0, .ref (a 0)), (1, .int (nI sn)), (2, .int p1)]) hx hb dX8_leastAll_153 hl (k := 2) rfl (by decide) (by decide) rfl (fun ls hl => ?_)
                            refine lv_goto (tgt := 75) hx hb dX8_leastAll_156 (by decide) ?_
                            exact ih_376 _ (1, be_376) _ _ _ (by omega) ⟨rfl, (by omega), hP, hS, (by rw [nI_pred]; exact lv_sub hl [0, 3, 4, 5, 1, 6, 7, 8, 9] rfl)⟩
                          · refine lv_iload hx hb dX8_leastAll_132 (lv_at hl 5 rfl) ?_
                            refine lv_if_lt (tgt := 144) hx hb dX8_leastAll_134 (by decide) (fun c_382 => ?_) (fun c_382 => ?_)
                            · refine lv_iload hx hb dX8_leastAll_144 (lv_at hl 0 rfl) ?_
                              refine lv_goto (tgt := 151) hx hb dX8_leastAll_146 (by decide) ?_
                              refine lv_istore (lv' := [(4, .int r_380), (9, .int r_380), (8, .int (-1)), (7, .int (nI q7_325)), (6, .int (-1)), (5, .int (nI q5_1)), (3, .int (nI (dn sn))), (0, .ref (a 0)), (1, .int (nI sn)), (2, .int p1)]) hx hb dX8_leastAll_151 hl (by decide) rfl (fun ls hl => ?_)
                              refine lv_iinc (v := 0) (lv' := [(8, .int 0), (4, .int r_380), (9, .int r_380), (7, .int (nI q7_325)), (6, .int (-1)), (5, .int (nI q5_1)), (3, .int (nI (dn sn))), (0, .ref (a 0)), (1, .int (nI sn)), (2, .int p1)]) hx hb dX8_leastAll_153 hl (k := 2) rfl (by decide) (by decide) rfl (fun ls hl => ?_)
                              refine lv_goto (tgt := 75) hx hb dX8_leastAll_156 (by decide) ?_
                              exact ih_376 _ (1, r_380) _ _ _ (by omega) ⟨rfl, (by omega), hP, hS, (by rw [nI_pred]; exact lv_sub hl [0, 3, 4, 5, 1, 6, 7, 8, 9] rfl)⟩
                            · refine lv_iload hx hb dX8_leastAll_137 (lv_at hl 0 rfl) ?_
                              refine lv_iload hx hb dX8_leastAll_139 (lv_at hl 5 rfl) ?_
                              refine lv_icmp_ge (tgt := 149) hx hb dX8_leastAll_141 (by decide) (fun c_383 => ?_) (fun c_383 => ?_)
                              · refine lv_iload hx hb dX8_leastAll_149 (lv_at hl 5 rfl) ?_
                                refine lv_istore (lv' := [(4, .int be_376), (9, .int r_380), (8, .int (-1)), (7, .int (nI q7_325)), (6, .int (-1)), (5, .int (nI q5_1)), (3, .int (nI (dn sn))), (0, .ref (a 0)), (1, .int (nI sn)), (2, .int p1)]) hx hb dX8_leastAll_151 hl (by decide) rfl (fun ls hl => ?_)
                                refine lv_iinc (v := 0) (lv' := [(8, .int 0), (4, .int be_376), (9, .int r_380), (7, .int (nI q7_325)), (6, .int (-1)), (5, .int (nI q5_1)), (3, .int (nI (dn sn))), (0, .ref (a 0)), (1, .int (nI sn)), (2, .int p1)]) hx hb dX8_leastAll_153 hl (k := 2) rfl (by decide) (by decide) rfl (fun ls hl => ?_)
                                refine lv_goto (tgt := 75) hx hb dX8_leastAll_156 (by decide) ?_
                                exact ih_376 _ (1, be_376) _ _ _ (by omega) ⟨rfl, (by omega), hP, hS, (by rw [nI_pred]; exact lv_sub hl [0, 3, 4, 5, 1, 6, 7, 8, 9] rfl)⟩
                              · refine lv_iload hx hb dX8_leastAll_144 (lv_at hl 0 rfl) ?_
                                refine lv_goto (tgt := 151) hx hb dX8_leastAll_146 (by decide) ?_
                                refine lv_istore (lv' := [(4, .int r_380), (9, .int r_380), (8, .int (-1)), (7, .int (nI q7_325)), (6, .int (-1)), (5, .int (nI q5_1)), (3, .int (nI (dn sn))), (0, .ref (a 0)), (1, .int (nI sn)), (2, .int p1)]) hx hb dX8_leastAll_151 hl (by decide) rfl (fun ls hl => ?_)
                                refine lv_iinc (v := 0) (lv' := [(8, .int 0), (4, .int r_380), (9, .int r_380), (7, .int (nI q7_325)), (6, .int (-1)), (5, .int (nI q5_1)), (3, .int (nI (dn sn))), (0, .ref (a 0)), (1, .int (nI sn)), (2, .int p1)]) hx hb dX8_leastAll_153 hl (k := 2) rfl (by decide) (by decide) rfl (fun ls hl => ?_)
                                refine lv_goto (tgt := 75) hx hb dX8_leastAll_156 (by decide) ?_
                                exact ih_376 _ (1, r_380) _ _ _ (by omega) ⟨rfl, (by omega), hP, hS, (by rw [nI_pred]; exact lv_sub hl [0, 3, 4, 5, 1, 6, 7, 8, 9] rfl)⟩
                      · have c_377 : ¬ (ca ≤ 3) := fun h => c_377 ((nI_leI (a := ca) (b := 3) (by omega) (by omega)).mpr h)
                        refine lv_iload_n hx hb dX8_leastAll_85 rfl (lv_at hl 5 rfl) ?_
                        refine lv_goto (tgt := 90) hx hb dX8_leastAll_86 (by decide) ?_
                        refine lv_icmp_ge (tgt := 159) hx hb dX8_leastAll_90 (by decide) (fun c_384 => ?_) (fun c_384 => ?_)
                        · refine lv_iinc (v := (nI (q7_325 + 1))) (lv' := [(7, .int (nI (q7_325 + 1))), (8, .int (-1)), (6, .int (-1)), (5, .int (nI q5_1)), (4, .int be_376), (3, .int (nI (dn sn))), (0, .ref (a 0)), (1, .int (nI sn)), (2, .int p1)]) hx hb dX8_leastAll_159 hl (k := 1) rfl (nI_add q7_325 1) (by decide) rfl (fun ls hl => ?_)
                          refine lv_goto (tgt := 54) hx hb dX8_leastAll_162 (by decide) ?_
                          exact ih_325 _ (q7_325 + 1 + 1, be_376) _ _ _ (by omega) ⟨rfl, (by omega), hP, hS, (by rw [nI_pred]; exact lv_sub hl [0, 2, 3, 4, 5, 6, 7, 8] rfl)⟩
                        · refine lv_iload_n hx hb dX8_leastAll_93 rfl (lv_at hl 8 rfl) ?_
                          refine lv_iload hx hb dX8_leastAll_94 (lv_at hl 3 rfl) ?_
                          refine lv_iload hx hb dX8_leastAll_96 (lv_at hl 2 rfl) ?_
                          refine lv_iload hx hb dX8_leastAll_98 (lv_at hl 1 rfl) ?_
                          refine lv_iload hx hb dX8_leastAll_100 (lv_at hl 0 rfl) ?_
                          refine ro_i (D := D) (va_runS (As := [.int p1, .int (nI q5_1), .int (-1), .int (nI q7_325), .int (-1)]) (rest := []) ⟨hx, hb, hml, hown, hts⟩ ((m_canAll l D k st lo p1 (nI q5_1) (-1) (nI q7_325) (-1)) H.size) (va_cwS 5 hts (gS tw_1450 tw_1451 tw_87 tw_1452) rfl rfl rfl (by decide +kernel) ⟨Nat.le_of_ble_eq_true rfl, Nat.le_of_ble_eq_true rfl⟩) (pS hS hAlo hlo hP hK hDL hZ [] (by decide) rfl) rfl rfl hl.1 rfl (lv_room (Nat.le_of_ble_eq_true rfl)) dX8_leastAll_102 ⟨Nat.le_of_ble_eq_true rfl, Nat.le_of_ble_eq_true rfl⟩) hS hA hP (fun r_385 H locs hw_385 hP hS => ?_)
                          try dsimp only at hw_385
                          refine lv_if_eq (tgt := 124) hx hb dX8_leastAll_105 (by decide) (fun c_386 => ?_) (fun c_386 => ?_)
                          · refine lv_iconst (v := (-1)) hx hb dX8_leastAll_124 (by decide) ?_
                            refine lv_istore (lv' := [(9, .int (-1)), (8, .int (-1)), (7, .int (nI q7_325)), (6, .int (-1)), (5, .int (nI q5_1)), (4, .int be_376), (3, .int (nI (dn sn))), (0, .ref (a 0)), (1, .int (nI sn)), (2, .int p1)]) hx hb dX8_leastAll_125 hl (by decide) rfl (fun ls hl => ?_)
                            refine lv_iload hx hb dX8_leastAll_127 (lv_at hl 0 rfl) ?_
                            refine lv_if_lt (tgt := 149) hx hb dX8_leastAll_129 (by decide) (fun _ => ?_) (fun h => absurd (by decide) h)
                            refine lv_iload hx hb dX8_leastAll_149 (lv_at hl 5 rfl) ?_
                            refine lv_istore (lv' := [(4, .int be_376), (9, .int (-1)), (8, .int (-1)), (7, .int (nI q7_325)), (6, .int (-1)), (5, .int (nI q5_1)), (3, .int (nI (dn sn))), (0, .ref (a 0)), (1, .int (nI sn)), (2, .int p1)]) hx hb dX8_leastAll_151 hl (by decide) rfl (fun ls hl => ?_)
                            refine lv_iinc (v := 0) (lv' := [(8, .int 0), (4, .int be_376), (9, .int (-1)), (7, .int (nI q7_325)), (6, .int (-1)), (5, .int (nI q5_1)), (3, .int (nI (dn sn))), (0, .ref (a 0)), (1, .int (nI sn)), (2, .int p1)]) hx hb dX8_leastAll_153 hl (k := 2) rfl (by decide) (by decide) rfl (fun ls hl => ?_)
                            refine lv_goto (tgt := 75) hx hb dX8_leastAll_156 (by decide) ?_
                            exact ih_376 _ (1, be_376) _ _ _ (by omega) ⟨rfl, (by omega), hP, hS, (by rw [nI_pred]; exact lv_sub hl [0, 3, 4, 5, 1, 6, 7, 8, 9] rfl)⟩
                          · refine lv_aload_n hx hb dX8_leastAll_108 rfl (lv_at hl 6 rfl) ?_
                            refine lv_iload_n hx hb dX8_leastAll_109 rfl (lv_at hl 7 rfl) ?_
                            refine lv_iload hx hb dX8_leastAll_110 (lv_at hl 3 rfl) ?_
                            refine lv_iload hx hb dX8_leastAll_112 (lv_at hl 2 rfl) ?_
                            refine lv_iload hx hb dX8_leastAll_114 (lv_at hl 1 rfl) ?_
                            refine lv_iload hx hb dX8_leastAll_116 (lv_at hl 0 rfl) ?_
                            refine ro_i (D := D) (va_runV (As := [.int (nI sn), .int (nI q5_1), .int (-1), .int (nI q7_325), .int (-1)]) (rest := []) ⟨hx, hb, hml, hown, hts⟩ ((m_sumAll l D k st lo a tx t0 we rd ru rw ca fp wd nu na ts df db sd dn se tm gs fprices fwalks sn (nI q5_1) (-1) (nI q7_325) (-1) (by omega) (by omega) (.inr ⟨q5_1, by omega, rfl⟩) (.inl (by decide)) (.inr ⟨q7_325, by omega, rfl⟩) (.inl (by decide))) H.size) (cwV 5 hts (gV tw_1459 tw_1461 tw_75 tw_87 tw_1462) rfl rfl rfl (by decide +kernel) ⟨Nat.le_of_ble_eq_true rfl, Nat.le_of_ble_eq_true rfl⟩) (pV hS hAlo hlo hP hK hDL hZ [0, 1, 2, 3, 4] (by decide) rfl (ci := 8) (q := (RX8, TX8, 44)) (q0 := 0) rfl rfl) rfl rfl hl.1 rfl (lv_room (Nat.le_of_ble_eq_true rfl)) dX8_leastAll_118 ⟨Nat.le_of_ble_eq_true rfl, Nat.le_of_ble_eq_true rfl⟩) hS hA hP (fun r_387 H locs hw_387 hP hS => ?_)
                            try dsimp only at hw_387
                            refine lv_goto (tgt := 125) hx hb dX8_leastAll_121 (by decide) ?_
                            refine lv_istore (lv' := [(9, .int r_387), (8, .int (-1)), (7, .int (nI q7_325)), (6, .int (-1)), (5, .int (nI q5_1)), (4, .int be_376), (3, .int (nI (dn sn))), (0, .ref (a 0)), (1, .int (nI sn)), (2, .int p1)]) hx hb dX8_leastAll_125 hl (by decide) rfl (fun ls hl => ?_)
                            refine lv_iload hx hb dX8_leastAll_127 (lv_at hl 0 rfl) ?_
                            refine lv_if_lt (tgt := 149) hx hb dX8_leastAll_129 (by decide) (fun c_388 => ?_) (fun c_388 => ?_)
                            · refine lv_iload hx hb dX8_leastAll_149 (lv_at hl 5 rfl) ?_
                              refine lv_istore (lv' := [(4, .int be_376), (9, .int r_387), (8, .int (-1)), (7, .int (nI q7_325)), (6, .int (-1)), (5, .int (nI q5_1)), (3, .int (nI (dn sn))), (0, .ref (a 0)), (1, .int (nI sn)), (2, .int p1)]) hx hb dX8_leastAll_151 hl (by decide) rfl (fun ls hl => ?_)
                              refine lv_iinc (v := 0) (lv' := [(8, .int 0), (4, .int be_376), (9, .int r_387), (7, .int (nI q7_325)), (6, .int (-1)), (5, .int (nI q5_1)), (3, .int (nI (dn sn))), (0, .ref (a 0)), (1, .int (nI sn)), (2, .int p1)]) hx hb dX8_leastAll_153 hl (k := 2) rfl (by decide) (by decide) rfl (fun ls hl => ?_)
                              refine lv_goto (tgt := 75) hx hb dX8_leastAll_156 (by decide) ?_
                              exact ih_376 _ (1, be_376) _ _ _ (by omega) ⟨rfl, (by omega), hP, hS, (by rw [nI_pred]; exact lv_sub hl [0, 3, 4, 5, 1, 6, 7, 8, 9] rfl)⟩
                            · refine lv_iload hx hb dX8_leastAll_132 (lv_at hl 5 rfl) ?_
                              refine lv_if_lt (tgt := 144) hx hb dX8_leastAll_134 (by decide) (fun c_389 => ?_) (fun c_389 => ?_)
                              · refine lv_iload hx hb dX8_leastAll_144 (lv_at hl 0 rfl) ?_
                                refine lv_goto (tgt := 151) hx hb dX8_leastAll_146 (by decide) ?_
                                refine lv_istore (lv' := [(4, .int r_387), (9, .int r_387), (8, .int (-1)), (7, .int (nI q7_325)), (6, .int (-1)), (5, .int (nI q5_1)), (3, .int (nI (dn sn))), (0, .ref (a 0)), (1, .int (nI sn)), (2, .int p1)]) hx hb dX8_leastAll_151 hl (by decide) rfl (fun ls hl => ?_)
                                refine lv_iinc (v := 0) (lv' := [(8, .int 0), (4, .int r_387), (9, .int r_387), (7, .int (nI q7_325)), (6, .int (-1)), (5, .int (nI q5_1)), (3, .int (nI (dn sn))), (0, .ref (a 0)), (1, .int (nI sn)), (2, .int p1)]) hx hb dX8_leastAll_153 hl (k := 2) rfl (by decide) (by decide) rfl (fun ls hl => ?_)
                                refine lv_goto (tgt := 75) hx hb dX8_leastAll_156 (by decide) ?_
                                exact ih_376 _ (1, r_387) _ _ _ (by omega) ⟨rfl, (by omega), hP, hS, (by rw [nI_pred]; exact lv_sub hl [0, 3, 4, 5, 1, 6, 7, 8, 9] rfl)⟩
                              · refine lv_iload hx hb dX8_leastAll_137 (lv_at hl 0 rfl) ?_
                                refine lv_iload hx hb dX8_leastAll_139 (lv_at hl 5 rfl) ?_
                                refine lv_icmp_ge (tgt := 149) hx hb dX8_leastAll_141 (by decide) (fun c_390 => ?_) (fun c_390 => ?_)
                                · refine lv_iload hx hb dX8_leastAll_149 (lv_at hl 5 rfl) ?_
                                  refine lv_istore (lv' := [(4, .int be_376), (9, .int r_387), (8, .int (-1)), (7, .int (nI q7_325)), (6, .int (-1)), (5, .int (nI q5_1)), (3, .int (nI (dn sn))), (0, .ref (a 0)), (1, .int (nI sn)), (2, .int p1)]) hx hb dX8_leastAll_151 hl (by decide) rfl (fun ls hl => ?_)
                                  refine lv_iinc (v := 0) (lv' := [(8, .int 0), (4, .int be_376), (9, .int r_387), (7, .int (nI q7_325)), (6, .int (-1)), (5, .int (nI q5_1)), (3, .int (nI (dn sn))), (0, .ref (a 0)), (1, .int (nI sn)), (2, .int p1)]) hx hb dX8_leastAll_153 hl (k := 2) rfl (by decide) (by decide) rfl (fun ls hl => ?_)
                                  refine lv_goto (tgt := 75) hx hb dX8_leastAll_156 (by decide) ?_
                                  exact ih_376 _ (1, be_376) _ _ _ (by omega) ⟨rfl, (by omega), hP, hS, (by rw [nI_pred]; exact lv_sub hl [0, 3, 4, 5, 1, 6, 7, 8, 9] rfl)⟩
                                · refine lv_iload hx hb dX8_leastAll_144 (lv_at hl 0 rfl) ?_
                                  refine lv_goto (tgt := 151) hx hb dX8_leastAll_146 (by decide) ?_
                                  refine lv_istore (lv' := [(4, .int r_387), (9, .int r_387), (8, .int (-1)), (7, .int (nI q7_325)), (6, .int (-1)), (5, .int (nI q5_1)), (3, .int (nI (dn sn))), (0, .ref (a 0)), (1, .int (nI sn)), (2, .int p1)]) hx hb dX8_leastAll_151 hl (by decide) rfl (fun ls hl => ?_)
                                  refine lv_iinc (v := 0) (lv' := [(8, .int 0), (4, .int r_387), (9, .int r_387), (7, .int (nI q7_325)), (6, .int (-1)), (5, .int (nI q5_1)), (3, .int (nI (dn sn))), (0, .ref (a 0)), (1, .int (nI sn)), (2, .int p1)]) hx hb dX8_leastAll_153 hl (k := 2) rfl (by decide) (by decide) rfl (fun ls hl => ?_)
                                  refine lv_goto (tgt := 75) hx hb dX8_leastAll_156 (by decide) ?_
                                  exact ih_376 _ (1, r_387) _ _ _ (by omega) ⟨rfl, (by omega), hP, hS, (by rw [nI_pred]; exact lv_sub hl [0, 3, 4, 5, 1, 6, 7, 8, 9] rfl)⟩
                    · rw [nI_pred] at hl
                      refine lv_iload hx hb dX8_leastAll_75 (lv_at hl 0 rfl) ?_
                      refine lv_aload_n hx hb dX8_leastAll_77 rfl (lv_at hl 6 rfl) ?_
                      refine va_get (D := D) (ci := 8) (v := .int (nI ca)) (C := RX8) (T := TX8) (N := 44) hx hb hts inX8 hown hK hP 0 rfl rfl 34 (by decide) (hts _ tw_1007) (fun _ h9 => h9) rfl dX8_leastAll_78 ?_
                      refine lv_iconst (v := 3) hx hb dX8_leastAll_81 (by decide) ?_
                      refine lv_icmp_le (tgt := 89) hx hb dX8_leastAll_82 (by decide) (fun c_391 => ?_) (fun c_391 => ?_)
                      · have c_391 := (nI_leI (a := ca) (b := 3) (by omega) (by omega)).mp c_391
                        refine lv_iconst (v := 0) hx hb dX8_leastAll_89 (by decide) ?_
                        refine lv_icmp_ge (tgt := 159) hx hb dX8_leastAll_90 (by decide) (fun _ => ?_) (fun h => absurd (nI_ge0 (by omega)) h)
                        refine lv_iinc (v := (nI (q7_325 + 1))) (lv' := [(7, .int (nI (q7_325 + 1))), (8, .int (nI q8_376)), (6, .int (-1)), (5, .int (nI q5_1)), (4, .int be_376), (3, .int (nI (dn sn))), (0, .ref (a 0)), (1, .int (nI sn)), (2, .int p1)]) hx hb dX8_leastAll_159 hl (k := 1) rfl (nI_add q7_325 1) (by decide) rfl (fun ls hl => ?_)
                        refine lv_goto (tgt := 54) hx hb dX8_leastAll_162 (by decide) ?_
                        exact ih_325 _ (q7_325 + 1 + 1, be_376) _ _ _ (by omega) ⟨rfl, (by omega), hP, hS, (by rw [nI_pred]; exact lv_sub hl [0, 2, 3, 4, 5, 6, 7, 8] rfl)⟩
                      · have c_391 : ¬ (ca ≤ 3) := fun h => c_391 ((nI_leI (a := ca) (b := 3) (by omega) (by omega)).mpr h)
                        refine lv_iload_n hx hb dX8_leastAll_85 rfl (lv_at hl 5 rfl) ?_
                        refine lv_goto (tgt := 90) hx hb dX8_leastAll_86 (by decide) ?_
                        refine lv_icmp_ge (tgt := 159) hx hb dX8_leastAll_90 (by decide) (fun c_392 => ?_) (fun c_392 => ?_)
                        · have c_392 := (nI_leI (a := (dn sn)) (b := q8_376) (by omega) (by omega)).mp c_392
                          refine lv_iinc (v := (nI (q7_325 + 1))) (lv' := [(7, .int (nI (q7_325 + 1))), (8, .int (nI q8_376)), (6, .int (-1)), (5, .int (nI q5_1)), (4, .int be_376), (3, .int (nI (dn sn))), (0, .ref (a 0)), (1, .int (nI sn)), (2, .int p1)]) hx hb dX8_leastAll_159 hl (k := 1) rfl (nI_add q7_325 1) (by decide) rfl (fun ls hl => ?_)
                          refine lv_goto (tgt := 54) hx hb dX8_leastAll_162 (by decide) ?_
                          exact ih_325 _ (q7_325 + 1 + 1, be_376) _ _ _ (by omega) ⟨rfl, (by omega), hP, hS, (by rw [nI_pred]; exact lv_sub hl [0, 2, 3, 4, 5, 6, 7, 8] rfl)⟩
                        · have c_392 : ¬ ((dn sn) ≤ q8_376) := fun h => c_392 ((nI_leI (a := (dn sn)) (b := q8_376) (by omega) (by omega)).mpr h)
                          refine lv_iload_n hx hb dX8_leastAll_93 rfl (lv_at hl 8 rfl) ?_
                          refine lv_iload hx hb dX8_leastAll_94 (lv_at hl 3 rfl) ?_
                          refine lv_iload hx hb dX8_leastAll_96 (lv_at hl 2 rfl) ?_
                          refine lv_iload hx hb dX8_leastAll_98 (lv_at hl 1 rfl) ?_
                          refine lv_iload hx hb dX8_leastAll_100 (lv_at hl 0 rfl) ?_
                          refine ro_i (D := D) (va_runS (As := [.int p1, .int (nI q5_1), .int (-1), .int (nI q7_325), .int (nI q8_376)]) (rest := []) ⟨hx, hb, hml, hown, hts⟩ ((m_canAll l D k st lo p1 (nI q5_1) (-1) (nI q7_325) (nI q8_376)) H.size) (va_cwS 5 hts (gS tw_1450 tw_1451 tw_87 tw_1452) rfl rfl rfl (by decide +kernel) ⟨Nat.le_of_ble_eq_true rfl, Nat.le_of_ble_eq_true rfl⟩) (pS hS hAlo hlo hP hK hDL hZ [] (by decide) rfl) rfl rfl hl.1 rfl (lv_room (Nat.le_of_ble_eq_true rfl)) dX8_leastAll_102 ⟨Nat.le_of_ble_eq_true rfl, Nat.le_of_ble_eq_true rfl⟩) hS hA hP (fun r_393 H locs hw_393 hP hS => ?_)
                          try dsimp only at hw_393
                          refine lv_if_eq (tgt := 124) hx hb dX8_leastAll_105 (by decide) (fun c_394 => ?_) (fun c_394 => ?_)
                          · refine lv_iconst (v := (-1)) hx hb dX8_leastAll_124 (by decide) ?_
                            refine lv_istore (lv' := [(9, .int (-1)), (8, .int (nI q8_376)), (7, .int (nI q7_325)), (6, .int (-1)), (5, .int (nI q5_1)), (4, .int be_376), (3, .int (nI (dn sn))), (0, .ref (a 0)), (1, .int (nI sn)), (2, .int p1)]) hx hb dX8_leastAll_125 hl (by decide) rfl (fun ls hl => ?_)
                            refine lv_iload hx hb dX8_leastAll_127 (lv_at hl 0 rfl) ?_
                            refine lv_if_lt (tgt := 149) hx hb dX8_leastAll_129 (by decide) (fun _ => ?_) (fun h => absurd (by decide) h)
                            refine lv_iload hx hb dX8_leastAll_149 (lv_at hl 5 rfl) ?_
                            refine lv_istore (lv' := [(4, .int be_376), (9, .int (-1)), (8, .int (nI q8_376)), (7, .int (nI q7_325)), (6, .int (-1)), (5, .int (nI q5_1)), (3, .int (nI (dn sn))), (0, .ref (a 0)), (1, .int (nI sn)), (2, .int p1)]) hx hb dX8_leastAll_151 hl (by decide) rfl (fun ls hl => ?_)
                            refine lv_iinc (v := (nI (q8_376 + 1))) (lv' := [(8, .int (nI (q8_376 + 1))), (4, .int be_376), (9, .int (-1)), (7, .int (nI q7_325)), (6, .int (-1)), (5, .int (nI q5_1)), (3, .int (nI (dn sn))), (0, .ref (a 0)), (1, .int (nI sn)), (2, .int p1)]) hx hb dX8_leastAll_153 hl (k := 2) rfl (nI_add q8_376 1) (by decide) rfl (fun ls hl => ?_)
                            refine lv_goto (tgt := 75) hx hb dX8_leastAll_156 (by decide) ?_
                            exact ih_376 _ (q8_376 + 1 + 1, be_376) _ _ _ (by omega) ⟨rfl, (by omega), hP, hS, (by rw [nI_pred]; exact lv_sub hl [0, 3, 4, 5, 1, 6, 7, 8, 9] rfl)⟩
                          · refine lv_aload_n hx hb dX8_leastAll_108 rfl (lv_at hl 6 rfl) ?_
                            refine lv_iload_n hx hb dX8_leastAll_109 rfl (lv_at hl 7 rfl) ?_
                            refine lv_iload hx hb dX8_leastAll_110 (lv_at hl 3 rfl) ?_
                            refine lv_iload hx hb dX8_leastAll_112 (lv_at hl 2 rfl) ?_
                            refine lv_iload hx hb dX8_leastAll_114 (lv_at hl 1 rfl) ?_
                            refine lv_iload hx hb dX8_leastAll_116 (lv_at hl 0 rfl) ?_
                            refine ro_i (D := D) (va_runV (As := [.int (nI sn), .int (nI q5_1), .int (-1), .int (nI q7_325), .int (nI q8_376)]) (rest := []) ⟨hx, hb, hml, hown, hts⟩ ((m_sumAll l D k st lo a tx t0 we rd ru rw ca fp wd nu na ts df db sd dn se tm gs fprices fwalks sn (nI q5_1) (-1) (nI q7_325) (nI q8_376) (by omega) (by omega) (.inr ⟨q5_1, by omega, rfl⟩) (.inl (by decide)) (.inr ⟨q7_325, by omega, rfl⟩) (.inr ⟨q8_376, by omega, rfl⟩)) H.size) (cwV 5 hts (gV tw_1459 tw_1461 tw_75 tw_87 tw_1462) rfl rfl rfl (by decide +kernel) ⟨Nat.le_of_ble_eq_true rfl, Nat.le_of_ble_eq_true rfl⟩) (pV hS hAlo hlo hP hK hDL hZ [0, 1, 2, 3, 4] (by decide) rfl (ci := 8) (q := (RX8, TX8, 44)) (q0 := 0) rfl rfl) rfl rfl hl.1 rfl (lv_room (Nat.le_of_ble_eq_true rfl)) dX8_leastAll_118 ⟨Nat.le_of_ble_eq_true rfl, Nat.le_of_ble_eq_true rfl⟩) hS hA hP (fun r_395 H locs hw_395 hP hS => ?_)
                            try dsimp only at hw_395
                            refine lv_goto (tgt := 125) hx hb dX8_leastAll_121 (by decide) ?_
                            refine lv_istore (lv' := [(9, .int r_395), (8, .int (nI q8_376)), (7, .int (nI q7_325)), (6, .int (-1)), (5, .int (nI q5_1)), (4, .int be_376), (3, .int (nI (dn sn))), (0, .ref (a 0)), (1, .int (nI sn)), (2, .int p1)]) hx hb dX8_leastAll_125 hl (by decide) rfl (fun ls hl => ?_)
                            refine lv_iload hx hb dX8_leastAll_127 (lv_at hl 0 rfl) ?_
                            refine lv_if_lt (tgt := 149) hx hb dX8_leastAll_129 (by decide) (fun c_396 => ?_) (fun c_396 => ?_)
                            · refine lv_iload hx hb dX8_leastAll_149 (lv_at hl 5 rfl) ?_
                              refine lv_istore (lv' := [(4, .int be_376), (9, .int r_395), (8, .int (nI q8_376)), (7, .int (nI q7_325)), (6, .int (-1)), (5, .int (nI q5_1)), (3, .int (nI (dn sn))), (0, .ref (a 0)), (1, .int (nI sn)), (2, .int p1)]) hx hb dX8_leastAll_151 hl (by decide) rfl (fun ls hl => ?_)
                              refine lv_iinc (v := (nI (q8_376 + 1))) (lv' := [(8, .int (nI (q8_376 + 1))), (4, .int be_376), (9, .int r_395), (7, .int (nI q7_325)), (6, .int (-1)), (5, .int (nI q5_1)), (3, .int (nI (dn sn))), (0, .ref (a 0)), (1, .int (nI sn)), (2, .int p1)]) hx hb dX8_leastAll_153 hl (k := 2) rfl (nI_add q8_376 1) (by decide) rfl (fun ls hl => ?_)
                              refine lv_goto (tgt := 75) hx hb dX8_leastAll_156 (by decide) ?_
                              exact ih_376 _ (q8_376 + 1 + 1, be_376) _ _ _ (by omega) ⟨rfl, (by omega), hP, hS, (by rw [nI_pred]; exact lv_sub hl [0, 3, 4, 5, 1, 6, 7, 8, 9] rfl)⟩
                            · refine lv_iload hx hb dX8_leastAll_132 (lv_at hl 5 rfl) ?_
                              refine lv_if_lt (tgt := 144) hx hb dX8_leastAll_134 (by decide) (fun c_397 => ?_) (fun c_397 => ?_)
                              · refine lv_iload hx hb dX8_leastAll_144 (lv_at hl 0 rfl) ?_
                                refine lv_goto (tgt := 151) hx hb dX8_leastAll_146 (by decide) ?_
                                refine lv_istore (lv' := [(4, .int r_395), (9, .int r_395), (8, .int (nI q8_376)), (7, .int (nI q7_325)), (6, .int (-1)), (5, .int (nI q5_1)), (3, .int (nI (dn sn))), (0, .ref (a 0)), (1, .int (nI sn)), (2, .int p1)]) hx hb dX8_leastAll_151 hl (by decide) rfl (fun ls hl => ?_)
                                refine lv_iinc (v := (nI (q8_376 + 1))) (lv' := [(8, .int (nI (q8_376 + 1))), (4, .int r_395), (9, .int r_395), (7, .int (nI q7_325)), (6, .int (-1)), (5, .int (nI q5_1)), (3, .int (nI (dn sn))), (0, .ref (a 0)), (1, .int (nI sn)), (2, .int p1)]) hx hb dX8_leastAll_153 hl (k := 2) rfl (nI_add q8_376 1) (by decide) rfl (fun ls hl => ?_)
                                refine lv_goto (tgt := 75) hx hb dX8_leastAll_156 (by decide) ?_
                                exact ih_376 _ (q8_376 + 1 + 1, r_395) _ _ _ (by omega) ⟨rfl, (by omega), hP, hS, (by rw [nI_pred]; exact lv_sub hl [0, 3, 4, 5, 1, 6, 7, 8, 9] rfl)⟩
                              · refine lv_iload hx hb dX8_leastAll_137 (lv_at hl 0 rfl) ?_
                                refine lv_iload hx hb dX8_leastAll_139 (lv_at hl 5 rfl) ?_
                                refine lv_icmp_ge (tgt := 149) hx hb dX8_leastAll_141 (by decide) (fun c_398 => ?_) (fun c_398 => ?_)
                                · refine lv_iload hx hb dX8_leastAll_149 (lv_at hl 5 rfl) ?_
                                  refine lv_istore (lv' := [(4, .int be_376), (9, .int r_395), (8, .int (nI q8_376)), (7, .int (nI q7_325)), (6, .int (-1)), (5, .int (nI q5_1)), (3, .int (nI (dn sn))), (0, .ref (a 0)), (1, .int (nI sn)), (2, .int p1)]) hx hb dX8_leastAll_151 hl (by decide) rfl (fun ls hl => ?_)
                                  refine lv_iinc (v := (nI (q8_376 + 1))) (lv' := [(8, .int (nI (q8_376 + 1))), (4, .int be_376), (9, .int r_395), (7, .int (nI q7_325)), (6, .int (-1)), (5, .int (nI q5_1)), (3, .int (nI (dn sn))), (0, .ref (a 0)), (1, .int (nI sn)), (2, .int p1)]) hx hb dX8_leastAll_153 hl (k := 2) rfl (nI_add q8_376 1) (by decide) rfl (fun ls hl => ?_)
                                  refine lv_goto (tgt := 75) hx hb dX8_leastAll_156 (by decide) ?_
                                  exact ih_376 _ (q8_376 + 1 + 1, be_376) _ _ _ (by omega) ⟨rfl, (by omega), hP, hS, (by rw [nI_pred]; exact lv_sub hl [0, 3, 4, 5, 1, 6, 7, 8, 9] rfl)⟩
                                · refine lv_iload hx hb dX8_leastAll_144 (lv_at hl 0 rfl) ?_
                                  refine lv_goto (tgt := 151) hx hb dX8_leastAll_146 (by decide) ?_
                                  refine lv_istore (lv' := [(4, .int r_395), (9, .int r_395), (8, .int (nI q8_376)), (7, .int (nI q7_325)), (6, .int (-1)), (5, .int (nI q5_1)), (3, .int (nI (dn sn))), (0, .ref (a 0)), (1, .int (nI sn)), (2, .int p1)]) hx hb dX8_leastAll_151 hl (by decide) rfl (fun ls hl => ?_)
                                  refine lv_iinc (v := (nI (q8_376 + 1))) (lv' := [(8, .int (nI (q8_376 + 1))), (4, .int r_395), (9, .int r_395), (7, .int (nI q7_325)), (6, .int (-1)), (5, .int (nI q5_1)), (3, .int (nI (dn sn))), (0, .ref (a 0)), (1, .int (nI sn)), (2, .int p1)]) hx hb dX8_leastAll_153 hl (k := 2) rfl (nI_add q8_376 1) (by decide) rfl (fun ls hl => ?_)
                                  refine lv_goto (tgt := 75) hx hb dX8_leastAll_156 (by decide) ?_
                                  exact ih_376 _ (q8_376 + 1 + 1, r_395) _ _ _ (by omega) ⟨rfl, (by omega), hP, hS, (by rw [nI_pred]; exact lv_sub hl [0, 3, 4, 5, 1, 6, 7, 8, 9] rfl)⟩
        · rw [nI_pred] at hl
          refine lv_iload hx hb dX8_leastAll_33 (lv_at hl 0 rfl) ?_
          refine lv_aload_n hx hb dX8_leastAll_35 rfl (lv_at hl 4 rfl) ?_
          refine va_get (D := D) (ci := 8) (v := .int (nI ca)) (C := RX8) (T := TX8) (N := 44) hx hb hts inX8 hown hK hP 0 rfl rfl 34 (by decide) (hts _ tw_1007) (fun _ h9 => h9) rfl dX8_leastAll_36 ?_
          refine lv_iconst (v := 1) hx hb dX8_leastAll_39 (by decide) ?_
          refine lv_icmp_le (tgt := 47) hx hb dX8_leastAll_40 (by decide) (fun c_399 => ?_) (fun c_399 => ?_)
          · have c_399 := (nI_leI (a := ca) (b := 1) (by omega) (by omega)).mp c_399
            refine lv_iconst (v := 0) hx hb dX8_leastAll_47 (by decide) ?_
            refine lv_icmp_ge (tgt := 171) hx hb dX8_leastAll_48 (by decide) (fun _ => ?_) (fun h => absurd (nI_ge0 (by omega)) h)
            refine lv_iinc (v := (nI (q5_1 + 1))) (lv' := [(5, .int (nI (q5_1 + 1))), (6, .int (nI q6_248)), (4, .int be_248), (3, .int (nI (dn sn))), (0, .ref (a 0)), (1, .int (nI sn)), (2, .int p1)]) hx hb dX8_leastAll_171 hl (k := 1) rfl (nI_add q5_1 1) (by decide) rfl (fun ls hl => ?_)
            refine lv_goto (tgt := 13) hx hb dX8_leastAll_174 (by decide) ?_
            exact ih_1 _ (q5_1 + 1 + 1, be_248) _ _ _ (by omega) ⟨rfl, (by omega), hP, hS, (by rw [nI_pred]; exact lv_sub hl [0, 2, 3, 4, 5, 6] rfl)⟩
          · have c_399 : ¬ (ca ≤ 1) := fun h => c_399 ((nI_leI (a := ca) (b := 1) (by omega) (by omega)).mpr h)
            refine lv_iload_n hx hb dX8_leastAll_43 rfl (lv_at hl 3 rfl) ?_
            refine lv_goto (tgt := 48) hx hb dX8_leastAll_44 (by decide) ?_
            refine lv_icmp_ge (tgt := 171) hx hb dX8_leastAll_48 (by decide) (fun c_400 => ?_) (fun c_400 => ?_)
            · have c_400 := (nI_leI (a := (dn sn)) (b := q6_248) (by omega) (by omega)).mp c_400
              refine lv_iinc (v := (nI (q5_1 + 1))) (lv' := [(5, .int (nI (q5_1 + 1))), (6, .int (nI q6_248)), (4, .int be_248), (3, .int (nI (dn sn))), (0, .ref (a 0)), (1, .int (nI sn)), (2, .int p1)]) hx hb dX8_leastAll_171 hl (k := 1) rfl (nI_add q5_1 1) (by decide) rfl (fun ls hl => ?_)
              refine lv_goto (tgt := 13) hx hb dX8_leastAll_174 (by decide) ?_
              exact ih_1 _ (q5_1 + 1 + 1, be_248) _ _ _ (by omega) ⟨rfl, (by omega), hP, hS, (by rw [nI_pred]; exact lv_sub hl [0, 2, 3, 4, 5, 6] rfl)⟩
            · have c_400 : ¬ ((dn sn) ≤ q6_248) := fun h => c_400 ((nI_leI (a := (dn sn)) (b := q6_248) (by omega) (by omega)).mpr h)
              refine lv_iconst (v := (-1)) hx hb dX8_leastAll_51 (by decide) ?_
              refine lv_istore (lv' := [(7, .int (-1)), (6, .int (nI q6_248)), (5, .int (nI q5_1)), (4, .int be_248), (3, .int (nI (dn sn))), (0, .ref (a 0)), (1, .int (nI sn)), (2, .int p1)]) hx hb dX8_leastAll_52 hl (by decide) rfl (fun ls hl => ?_)
              refine W_loop (σ := Nat × Int32) (fun (n_ : Nat) (x_ : Nat × Int32) (H : Heap) (locs : List Loc) (ls : Array Slot) => match x_ with | (q7_401, be_401) => n_ = 26 - q7_401 ∧ (q7_401 ≤ 25) ∧ va_P D classes [((a 0), .inr (8, (fX8 a (nI tx) fp (nI t0) wd (nI we) nu na (nI rd) ts (nI ru) (nI rw) (nI ca) df db sd))), (aI k (a 1) 3 (nF dn)), (aI k (a 4) 27 (sg se tm gs)), (aI k (a 3) 72 fprices), (aI k (a 36) 4 fwalks)] H ∧ va_S (fun q : Nat => s.heap.size ≤ q) s.heap H locs ∧ lv_has ls 10 [(7, .int (nI q7_401 - 1)), (6, .int (nI q6_248)), (5, .int (nI q5_1)), (4, .int be_401), (3, .int (nI (dn sn))), (0, .ref (a 0)), (1, .int (nI sn)), (2, .int p1)]) (fun n_401 x_401 H locs ls hI ih_401 => ?_) _ (0, be_248) ⟨rfl, (by omega), hP, hS, (by rw [dn0]; exact lv_sub hl [0, 1, 2, 3, 4, 5, 6, 7] rfl)⟩
              obtain ⟨q7_401, be_401⟩ := x_401
              obtain ⟨hm_401, hv_401, hP, hS, hl⟩ := hI
              subst hm_401
              rcases q7_401 with _ | q7_401
              · rw [dn0] at hl
                refine lv_iload hx hb dX8_leastAll_54 (lv_at hl 0 rfl) ?_
                refine lv_aload_n hx hb dX8_leastAll_56 rfl (lv_at hl 5 rfl) ?_
                refine va_get (D := D) (ci := 8) (v := .int (nI ca)) (C := RX8) (T := TX8) (N := 44) hx hb hts inX8 hown hK hP 0 rfl rfl 34 (by decide) (hts _ tw_1007) (fun _ h9 => h9) rfl dX8_leastAll_57 ?_
                refine lv_iconst (v := 2) hx hb dX8_leastAll_60 (by decide) ?_
                refine lv_icmp_le (tgt := 68) hx hb dX8_leastAll_61 (by decide) (fun c_402 => ?_) (fun c_402 => ?_)
                · have c_402 := (nI_leI (a := ca) (b := 2) (by omega) (by omega)).mp c_402
                  refine lv_iconst (v := 0) hx hb dX8_leastAll_68 (by decide) ?_
                  refine lv_icmp_ge (tgt := 165) hx hb dX8_leastAll_69 (by decide) (fun h => absurd h (by decide)) (fun _ => ?_)
                  refine lv_iconst (v := (-1)) hx hb dX8_leastAll_72 (by decide) ?_
                  refine lv_istore (lv' := [(8, .int (-1)), (7, .int (-1)), (6, .int (nI q6_248)), (5, .int (nI q5_1)), (4, .int be_401), (3, .int (nI (dn sn))), (0, .ref (a 0)), (1, .int (nI sn)), (2, .int p1)]) hx hb dX8_leastAll_73 hl (by decide) rfl (fun ls hl => ?_)
                  refine W_loop (σ := Nat × Int32) (fun (n_ : Nat) (x_ : Nat × Int32) (H : Heap) (locs : List Loc) (ls : Array Slot) => match x_ with | (q8_403, be_403) => n_ = 26 - q8_403 ∧ (q8_403 ≤ 25) ∧ va_P D classes [((a 0), .inr (8, (fX8 a (nI tx) fp (nI t0) wd (nI we) nu na (nI rd) ts (nI ru) (nI rw) (nI ca) df db sd))), (aI k (a 1) 3 (nF dn)), (aI k (a 4) 27 (sg se tm gs)), (aI k (a 3) 72 fprices), (aI k (a 36) 4 fwalks)] H ∧ va_S (fun q : Nat => s.heap.size ≤ q) s.heap H locs ∧ lv_has ls 10 [(8, .int (nI q8_403 - 1)), (7, .int (-1)), (6, .int (nI q6_248)), (5, .int (nI q5_1)), (4, .int be_403), (3, .int (nI (dn sn))), (0, .ref (a 0)), (1, .int (nI sn)), (2, .int p1)]) (fun n_403 x_403 H locs ls hI ih_403 => ?_) _ (0, be_401) ⟨rfl, (by omega), hP, hS, (by rw [dn0]; exact lv_sub hl [0, 1, 2, 3, 4, 5, 6, 7, 8] rfl)⟩
                  obtain ⟨q8_403, be_403⟩ := x_403
                  obtain ⟨hm_403, hv_403, hP, hS, hl⟩ := hI
                  subst hm_403
                  rcases q8_403 with _ | q8_403
                  · rw [dn0] at hl
                    refine lv_iload hx hb dX8_leastAll_75 (lv_at hl 0 rfl) ?_
                    refine lv_aload_n hx hb dX8_leastAll_77 rfl (lv_at hl 6 rfl) ?_
                    refine va_get (D := D) (ci := 8) (v := .int (nI ca)) (C := RX8) (T := TX8) (N := 44) hx hb hts inX8 hown hK hP 0 rfl rfl 34 (by decide) (hts _ tw_1007) (fun _ h9 => h9) rfl dX8_leastAll_78 ?_
                    refine lv_iconst (v := 3) hx hb dX8_leastAll_81 (by decide) ?_
                    refine lv_icmp_le (tgt := 89) hx hb dX8_leastAll_82 (by decide) (fun c_404 => ?_) (fun c_404 => ?_)
                    · have c_404 := (nI_leI (a := ca) (b := 3) (by omega) (by omega)).mp c_404
                      refine lv_iconst (v := 0) hx hb dX8_leastAll_89 (by decide) ?_
                      refine lv_icmp_ge (tgt := 159) hx hb dX8_leastAll_90 (by decide) (fun h => absurd h (by decide)) (fun _ => ?_)
                      refine lv_iload_n hx hb dX8_leastAll_93 rfl (lv_at hl 8 rfl) ?_
                      refine lv_iload hx hb dX8_leastAll_94 (lv_at hl 3 rfl) ?_
                      refine lv_iload hx hb dX8_leastAll_96 (lv_at hl 2 rfl) ?_
                      refine lv_iload hx hb dX8_leastAll_98 (lv_at hl 1 rfl) ?_
                      refine lv_iload hx hb dX8_leastAll_100 (lv_at hl 0 rfl) ?_
                      refine ro_i (D := D) (va_runS (As := [.int p1, .int (nI q5_1), .int (nI q6_248), .int (-1), .int (-1)]) (rest := []) ⟨hx, hb, hml, hown, hts⟩ ((m_canAll l D k st lo p1 (nI q5_1) (nI q6_248) (-1) (-1)) H.size) (va_cwS 5 hts (gS tw_1450 tw_1451 tw_87 tw_1452) rfl rfl rfl (by decide +kernel) ⟨Nat.le_of_ble_eq_true rfl, Nat.le_of_ble_eq_true rfl⟩) (pS hS hAlo hlo hP hK hDL hZ [] (by decide) rfl) rfl rfl hl.1 rfl (lv_room (Nat.le_of_ble_eq_true rfl)) dX8_leastAll_102 ⟨Nat.le_of_ble_eq_true rfl, Nat.le_of_ble_eq_true rfl⟩) hS hA hP (fun r_405 H locs hw_405 hP hS => ?_)
                      try dsimp only at hw_405
                      refine lv_if_eq (tgt := 124) hx hb dX8_leastAll_105 (by decide) (fun c_406 => ?_) (fun c_406 => ?_)
                      · refine lv_iconst (v := (-1)) hx hb dX8_leastAll_124 (by decide) ?_
                        refine lv_istore (lv' := [(9, .int (-1)), (8, .int (-1)), (7, .int (-1)), (6, .int (nI q6_248)), (5, .int (nI q5_1)), (4, .int be_403), (3, .int (nI (dn sn))), (0, .ref (a 0)), (1, .int (nI sn)), (2, .int p1)]) hx hb dX8_leastAll_125 hl (by decide) rfl (fun ls hl => ?_)
                        refine lv_iload hx hb dX8_leastAll_127 (lv_at hl 0 rfl) ?_
                        refine lv_if_lt (tgt := 149) hx hb dX8_leastAll_129 (by decide) (fun _ => ?_) (fun h => absurd (by decide) h)
                        refine lv_iload hx hb dX8_leastAll_149 (lv_at hl 5 rfl) ?_
                        refine lv_istore (lv' := [(4, .int be_403), (9, .int (-1)), (8, .int (-1)), (7, .int (-1)), (6, .int (nI q6_248)), (5, .int (nI q5_1)), (3, .int (nI (dn sn))), (0, .ref (a 0)), (1, .int (nI sn)), (2, .int p1)]) hx hb dX8_leastAll_151 hl (by decide) rfl (fun ls hl => ?_)
                        refine lv_iinc (v := 0) (lv' := [(8, .int 0), (4, .int be_403), (9, .int (-1)), (7, .int (-1)), (6, .int (nI q6_248)), (5, .int (nI q5_1)), (3, .int (nI (dn sn))), (0, .ref (a 0)), (1, .int (nI sn)), (2, .int p1)]) hx hb dX8_leastAll_153 hl (k := 2) rfl (by decide) (by decide) rfl (fun ls hl => ?_)
                        refine lv_goto (tgt := 75) hx hb dX8_leastAll_156 (by decide) ?_
                        exact ih_403 _ (1, be_403) _ _ _ (by omega) ⟨rfl, (by omega), hP, hS, (by rw [nI_pred]; exact lv_sub hl [0, 3, 4, 5, 1, 6, 7, 8, 9] rfl)⟩
                      · refine lv_aload_n hx hb dX8_leastAll_108 rfl (lv_at hl 6 rfl) ?_
                        refine lv_iload_n hx hb dX8_leastAll_109 rfl (lv_at hl 7 rfl) ?_
                        refine lv_iload hx hb dX8_leastAll_110 (lv_at hl 3 rfl) ?_
                        refine lv_iload hx hb dX8_leastAll_112 (lv_at hl 2 rfl) ?_
                        refine lv_iload hx hb dX8_leastAll_114 (lv_at hl 1 rfl) ?_
                        refine lv_iload hx hb dX8_leastAll_116 (lv_at hl 0 rfl) ?_
                        refine ro_i (D := D) (va_runV (As := [.int (nI sn), .int (nI q5_1), .int (nI q6_248), .int (-1), .int (-1)]) (rest := []) ⟨hx, hb, hml, hown, hts⟩ ((m_sumAll l D k st lo a tx t0 we rd ru rw ca fp wd nu na ts df db sd dn se tm gs fprices fwalks sn (nI q5_1) (nI q6_248) (-1) (-1) (by omega) (by omega) (.inr ⟨q5_1, by omega, rfl⟩) (.inr ⟨q6_248, by omega, rfl⟩) (.inl (by decide)) (.inl (by decide))) H.size) (cwV 5 hts (gV tw_1459 tw_1461 tw_75 tw_87 tw_1462) rfl rfl rfl (by decide +kernel) ⟨Nat.le_of_ble_eq_true rfl, Nat.le_of_ble_eq_true rfl⟩) (pV hS hAlo hlo hP hK hDL hZ [0, 1, 2, 3, 4] (by decide) rfl (ci := 8) (q := (RX8, TX8, 44)) (q0 := 0) rfl rfl) rfl rfl hl.1 rfl (lv_room (Nat.le_of_ble_eq_true rfl)) dX8_leastAll_118 ⟨Nat.le_of_ble_eq_true rfl, Nat.le_of_ble_eq_true rfl⟩) hS hA hP (fun r_407 H locs hw_407 hP hS => ?_)
                        try dsimp only at hw_407
                        refine lv_goto (tgt := 125) hx hb dX8_leastAll_121 (by decide) ?_
                        refine lv_istore (lv' := [(9, .int r_407), (8, .int (-1)), (7, .int (-1)), (6, .int (nI q6_248)), (5, .int (nI q5_1)), (4, .int be_403), (3, .int (nI (dn sn))), (0, .ref (a 0)), (1, .int (nI sn)), (2, .int p1)]) hx hb dX8_leastAll_125 hl (by decide) rfl (fun ls hl => ?_)
                        refine lv_iload hx hb dX8_leastAll_127 (lv_at hl 0 rfl) ?_
                        refine lv_if_lt (tgt := 149) hx hb dX8_leastAll_129 (by decide) (fun c_408 => ?_) (fun c_408 => ?_)
                        · refine lv_iload hx hb dX8_leastAll_149 (lv_at hl 5 rfl) ?_
                          refine lv_istore (lv' := [(4, .int be_403), (9, .int r_407), (8, .int (-1)), (7, .int (-1)), (6, .int (nI q6_248)), (5, .int (nI q5_1)), (3, .int (nI (dn sn))), (0, .ref (a 0)), (1, .int (nI sn)), (2, .int p1)]) hx hb dX8_leastAll_151 hl (by decide) rfl (fun ls hl => ?_)
                          refine lv_iinc (v := 0) (lv' := [(8, .int 0), (4, .int be_403), (9, .int r_407), (7, .int (-1)), (6, .int (nI q6_248)), (5, .int (nI q5_1)), (3, .int (nI (dn sn))), (0, .ref (a 0)), (1, .int (nI sn)), (2, .int p1)]) hx hb dX8_leastAll_153 hl (k := 2) rfl (by decide) (by decide) rfl (fun ls hl => ?_)
                          refine lv_goto (tgt := 75) hx hb dX8_leastAll_156 (by decide) ?_
                          exact ih_403 _ (1, be_403) _ _ _ (by omega) ⟨rfl, (by omega), hP, hS, (by rw [nI_pred]; exact lv_sub hl [0, 3, 4, 5, 1, 6, 7, 8, 9] rfl)⟩
                        · refine lv_iload hx hb dX8_leastAll_132 (lv_at hl 5 rfl) ?_
                          refine lv_if_lt (tgt := 144) hx hb dX8_leastAll_134 (by decide) (fun c_409 => ?_) (fun c_409 => ?_)
                          · refine lv_iload hx hb dX8_leastAll_144 (lv_at hl 0 rfl) ?_
                            refine lv_goto (tgt := 151) hx hb dX8_leastAll_146 (by decide) ?_
                            refine lv_istore (lv' := [(4, .int r_407), (9, .int r_407), (8, .int (-1)), (7, .int (-1)), (6, .int (nI q6_248)), (5, .int (nI q5_1)), (3, .int (nI (dn sn))), (0, .ref (a 0)), (1, .int (nI sn)), (2, .int p1)]) hx hb dX8_leastAll_151 hl (by decide) rfl (fun ls hl => ?_)
                            refine lv_iinc (v := 0) (lv' := [(8, .int 0), (4, .int r_407), (9, .int r_407), (7, .int (-1)), (6, .int (nI q6_248)), (5, .int (nI q5_1)), (3, .int (nI (dn sn))), (0, .ref (a 0)), (1, .int (nI sn)), (2, .int p1)]) hx hb dX8_leastAll_153 hl (k := 2) rfl (by decide) (by decide) rfl (fun ls hl => ?_)
                            refine lv_goto (tgt := 75) hx hb dX8_leastAll_156 (by decide) ?_
                            exact ih_403 _ (1, r_407) _ _ _ (by omega) ⟨rfl, (by omega), hP, hS, (by rw [nI_pred]; exact lv_sub hl [0, 3, 4, 5, 1, 6, 7, 8, 9] rfl)⟩
                          · refine lv_iload hx hb dX8_leastAll_137 (lv_at hl 0 rfl) ?_
                            refine lv_iload hx hb dX8_leastAll_139 (lv_at hl 5 rfl) ?_
                            refine lv_icmp_ge (tgt := 149) hx hb dX8_leastAll_141 (by decide) (fun c_410 => ?_) (fun c_410 => ?_)
                            · refine lv_iload hx hb dX8_leastAll_149 (lv_at hl 5 rfl) ?_
                              refine lv_istore (lv' := [(4, .int be_403), (9, .int r_407), (8, .int (-1)), (7, .int (-1)), (6, .int (nI q6_248)), (5, .int (nI q5_1)), (3, .int (nI (dn sn))), (0, .ref (a 0)), (1, .int (nI sn)), (2, .int p1)]) hx hb dX8_leastAll_151 hl (by decide) rfl (fun ls hl => ?_)
                              refine lv_iinc (v := 0) (lv' := [(8, .int 0), (4, .int be_403), (9, .int r_407), (7, .int (-1)), (6, .int (nI q6_248)), (5, .int (nI q5_1)), (3, .int (nI (dn sn))), (0, .ref (a 0)), (1, .int (nI sn)), (2, .int p1)]) hx hb dX8_leastAll_153 hl (k := 2) rfl (by decide) (by decide) rfl (fun ls hl => ?_)
                              refine lv_goto (tgt := 75) hx hb dX8_leastAll_156 (by decide) ?_
                              exact ih_403 _ (1, be_403) _ _ _ (by omega) ⟨rfl, (by omega), hP, hS, (by rw [nI_pred]; exact lv_sub hl [0, 3, 4, 5, 1, 6, 7, 8, 9] rfl)⟩
                            · refine lv_iload hx hb dX8_leastAll_144 (lv_at hl 0 rfl) ?_
                              refine lv_goto (tgt := 151) hx hb dX8_leastAll_146 (by decide) ?_
                              refine lv_istore (lv' := [(4, .int r_407), (9, .int r_407), (8, .int (-1)), (7, .int (-1)), (6, .int (nI q6_248)), (5, .int (nI q5_1)), (3, .int (nI (dn sn))), (0, .ref (a 0)), (1, .int (nI sn)), (2, .int p1)]) hx hb dX8_leastAll_151 hl (by decide) rfl (fun ls hl => ?_)
                              refine lv_iinc (v := 0) (lv' := [(8, .int 0), (4, .int r_407), (9, .int r_407), (7, .int (-1)), (6, .int (nI q6_248)), (5, .int (nI q5_1)), (3, .int (nI (dn sn))), (0, .ref (a 0)), (1, .int (nI sn)), (2, .int p1)]) hx hb dX8_leastAll_153 hl (k := 2) rfl (by decide) (by decide) rfl (fun ls hl => ?_)
                              refine lv_goto (tgt := 75) hx hb dX8_leastAll_156 (by decide) ?_
                              exact ih_403 _ (1, r_407) _ _ _ (by omega) ⟨rfl, (by omega), hP, hS, (by rw [nI_pred]; exact lv_sub hl [0, 3, 4, 5, 1, 6, 7, 8, 9] rfl)⟩
                    · have c_404 : ¬ (ca ≤ 3) := fun h => c_404 ((nI_leI (a := ca) (b := 3) (by omega) (by omega)).mpr h)
                      refine lv_iload_n hx hb dX8_leastAll_85 rfl (lv_at hl 5 rfl) ?_
                      refine lv_goto (tgt := 90) hx hb dX8_leastAll_86 (by decide) ?_
                      refine lv_icmp_ge (tgt := 159) hx hb dX8_leastAll_90 (by decide) (fun c_411 => ?_) (fun c_411 => ?_)
                      · refine lv_iinc (v := 0) (lv' := [(7, .int 0), (8, .int (-1)), (6, .int (nI q6_248)), (5, .int (nI q5_1)), (4, .int be_403), (3, .int (nI (dn sn))), (0, .ref (a 0)), (1, .int (nI sn)), (2, .int p1)]) hx hb dX8_leastAll_159 hl (k := 1) rfl (by decide) (by decide) rfl (fun ls hl => ?_)
                        refine lv_goto (tgt := 54) hx hb dX8_leastAll_162 (by decide) ?_
                        exact ih_401 _ (1, be_403) _ _ _ (by omega) ⟨rfl, (by omega), hP, hS, (by rw [nI_pred]; exact lv_sub hl [0, 2, 3, 4, 5, 6, 7, 8] rfl)⟩
                      · refine lv_iload_n hx hb dX8_leastAll_93 rfl (lv_at hl 8 rfl) ?_
                        refine lv_iload hx hb dX8_leastAll_94 (lv_at hl 3 rfl) ?_
                        refine lv_iload hx hb dX8_leastAll_96 (lv_at hl 2 rfl) ?_
                        refine lv_iload hx hb dX8_leastAll_98 (lv_at hl 1 rfl) ?_
                        refine lv_iload hx hb dX8_leastAll_100 (lv_at hl 0 rfl) ?_
                        refine ro_i (D := D) (va_runS (As := [.int p1, .int (nI q5_1), .int (nI q6_248), .int (-1), .int (-1)]) (rest := []) ⟨hx, hb, hml, hown, hts⟩ ((m_canAll l D k st lo p1 (nI q5_1) (nI q6_248) (-1) (-1)) H.size) (va_cwS 5 hts (gS tw_1450 tw_1451 tw_87 tw_1452) rfl rfl rfl (by decide +kernel) ⟨Nat.le_of_ble_eq_true rfl, Nat.le_of_ble_eq_true rfl⟩) (pS hS hAlo hlo hP hK hDL hZ [] (by decide) rfl) rfl rfl hl.1 rfl (lv_room (Nat.le_of_ble_eq_true rfl)) dX8_leastAll_102 ⟨Nat.le_of_ble_eq_true rfl, Nat.le_of_ble_eq_true rfl⟩) hS hA hP (fun r_412 H locs hw_412 hP hS => ?_)
                        try dsimp only at hw_412
                        refine lv_if_eq (tgt := 124) hx hb dX8_leastAll_105 (by decide) (fun c_413 => ?_) (fun c_413 => ?_)
                        · refine lv_iconst (v := (-1)) hx hb dX8_leastAll_124 (by decide) ?_
                          refine lv_istore (lv' := [(9, .int (-1)), (8, .int (-1)), (7, .int (-1)), (6, .int (nI q6_248)), (5, .int (nI q5_1)), (4, .int be_403), (3, .int (nI (dn sn))), (0, .ref (a 0)), (1, .int (nI sn)), (2, .int p1)]) hx hb dX8_leastAll_125 hl (by decide) rfl (fun ls hl => ?_)
                          refine lv_iload hx hb dX8_leastAll_127 (lv_at hl 0 rfl) ?_
                          refine lv_if_lt (tgt := 149) hx hb dX8_leastAll_129 (by decide) (fun _ => ?_) (fun h => absurd (by decide) h)
                          refine lv_iload hx hb dX8_leastAll_149 (lv_at hl 5 rfl) ?_
                          refine lv_istore (lv' := [(4, .int be_403), (9, .int (-1)), (8, .int (-1)), (7, .int (-1)), (6, .int (nI q6_248)), (5, .int (nI q5_1)), (3, .int (nI (dn sn))), (0, .ref (a 0)), (1, .int (nI sn)), (2, .int p1)]) hx hb dX8_leastAll_151 hl (by decide) rfl (fun ls hl => ?_)
                          refine lv_iinc (v := 0) (lv' := [(8, .int 0), (4, .int be_403), (9, .int (-1)), (7, .int (-1)), (6, .int (nI q6_248)), (5, .int (nI q5_1)), (3, .int (nI (dn sn))), (0, .ref (a 0)), (1, .int (nI sn)), (2, .int p1)]) hx hb dX8_leastAll_153 hl (k := 2) rfl (by decide) (by decide) rfl (fun ls hl => ?_)
                          refine lv_goto (tgt := 75) hx hb dX8_leastAll_156 (by decide) ?_
                          exact ih_403 _ (1, be_403) _ _ _ (by omega) ⟨rfl, (by omega), hP, hS, (by rw [nI_pred]; exact lv_sub hl [0, 3, 4, 5, 1, 6, 7, 8, 9] rfl)⟩
                        · refine lv_aload_n hx hb dX8_leastAll_108 rfl (lv_at hl 6 rfl) ?_
                          refine lv_iload_n hx hb dX8_leastAll_109 rfl (lv_at hl 7 rfl) ?_
                          refine lv_iload hx hb dX8_leastAll_110 (lv_at hl 3 rfl) ?_
                          refine lv_iload hx hb dX8_leastAll_112 (lv_at hl 2 rfl) ?_
                          refine lv_iload hx hb dX8_leastAll_114 (lv_at hl 1 rfl) ?_
                          refine lv_iload hx hb dX8_leastAll_116 (lv_at hl 0 rfl) ?_
                          refine ro_i (D := D) (va_runV (As := [.int (nI sn), .int (nI q5_1), .int (nI q6_248), .int (-1), .int (-1)]) (rest := []) ⟨hx, hb, hml, hown, hts⟩ ((m_sumAll l D k st lo a tx t0 we rd ru rw ca fp wd nu na ts df db sd dn se tm gs fprices fwalks sn (nI q5_1) (nI q6_248) (-1) (-1) (by omega) (by omega) (.inr ⟨q5_1, by omega, rfl⟩) (.inr ⟨q6_248, by omega, rfl⟩) (.inl (by decide)) (.inl (by decide))) H.size) (cwV 5 hts (gV tw_1459 tw_1461 tw_75 tw_87 tw_1462) rfl rfl rfl (by decide +kernel) ⟨Nat.le_of_ble_eq_true rfl, Nat.le_of_ble_eq_true rfl⟩) (pV hS hAlo hlo hP hK hDL hZ [0, 1, 2, 3, 4] (by decide) rfl (ci := 8) (q := (RX8, TX8, 44)) (q0 := 0) rfl rfl) rfl rfl hl.1 rfl (lv_room (Nat.le_of_ble_eq_true rfl)) dX8_leastAll_118 ⟨Nat.le_of_ble_eq_true rfl, Nat.le_of_ble_eq_true rfl⟩) hS hA hP (fun r_414 H locs hw_414 hP hS => ?_)
                          try dsimp only at hw_414
                          refine lv_goto (tgt := 125) hx hb dX8_leastAll_121 (by decide) ?_
                          refine lv_istore (lv' := [(9, .int r_414), (8, .int (-1)), (7, .int (-1)), (6, .int (nI q6_248)), (5, .int (nI q5_1)), (4, .int be_403), (3, .int (nI (dn sn))), (0, .ref (a 0)), (1, .int (nI sn)), (2, .int p1)]) hx hb dX8_leastAll_125 hl (by decide) rfl (fun ls hl => ?_)
                          refine lv_iload hx hb dX8_leastAll_127 (lv_at hl 0 rfl) ?_
                          refine lv_if_lt (tgt := 149) hx hb dX8_leastAll_129 (by decide) (fun c_415 => ?_) (fun c_415 => ?_)
                          · refine lv_iload hx hb dX8_leastAll_149 (lv_at hl 5 rfl) ?_
                            refine lv_istore (lv' := [(4, .int be_403), (9, .int r_414), (8, .int (-1)), (7, .int (-1)), (6, .int (nI q6_248)), (5, .int (nI q5_1)), (3, .int (nI (dn sn))), (0, .ref (a 0)), (1, .int (nI sn)), (2, .int p1)]) hx hb dX8_leastAll_151 hl (by decide) rfl (fun ls hl => ?_)
                            refine lv_iinc (v := 0) (lv' := [(8, .int 0), (4, .int be_403), (9, .int r_414), (7, .int (-1)), (6, .int (nI q6_248)), (5, .int (nI q5_1)), (3, .int (nI (dn sn))), (0, .ref (a 0)), (1, .int (nI sn)), (2, .int p1)]) hx hb dX8_leastAll_153 hl (k := 2) rfl (by decide) (by decide) rfl (fun ls hl => ?_)
                            refine lv_goto (tgt := 75) hx hb dX8_leastAll_156 (by decide) ?_
                            exact ih_403 _ (1, be_403) _ _ _ (by omega) ⟨rfl, (by omega), hP, hS, (by rw [nI_pred]; exact lv_sub hl [0, 3, 4, 5, 1, 6, 7, 8, 9] rfl)⟩
                          · refine lv_iload hx hb dX8_leastAll_132 (lv_at hl 5 rfl) ?_
                            refine lv_if_lt (tgt := 144) hx hb dX8_leastAll_134 (by decide) (fun c_416 => ?_) (fun c_416 => ?_)
                            · refine lv_iload hx hb dX8_leastAll_144 (lv_at hl 0 rfl) ?_
                              refine lv_goto (tgt := 151) hx hb dX8_leastAll_146 (by decide) ?_
                              refine lv_istore (lv' := [(4, .int r_414), (9, .int r_414), (8, .int (-1)), (7, .int (-1)), (6, .int (nI q6_248)), (5, .int (nI q5_1)), (3, .int (nI (dn sn))), (0, .ref (a 0)), (1, .int (nI sn)), (2, .int p1)]) hx hb dX8_leastAll_151 hl (by decide) rfl (fun ls hl => ?_)
                              refine lv_iinc (v := 0) (lv' := [(8, .int 0), (4, .int r_414), (9, .int r_414), (7, .int (-1)), (6, .int (nI q6_248)), (5, .int (nI q5_1)), (3, .int (nI (dn sn))), (0, .ref (a 0)), (1, .int (nI sn)), (2, .int p1)]) hx hb dX8_leastAll_153 hl (k := 2) rfl (by decide) (by decide) rfl (fun ls hl => ?_)
                              refine lv_goto (tgt := 75) hx hb dX8_leastAll_156 (by decide) ?_
                              exact ih_403 _ (1, r_414) _ _ _ (by omega) ⟨rfl, (by omega), hP, hS, (by rw [nI_pred]; exact lv_sub hl [0, 3, 4, 5, 1, 6, 7, 8, 9] rfl)⟩
                            · refine lv_iload hx hb dX8_leastAll_137 (lv_at hl 0 rfl) ?_
                              refine lv_iload hx hb dX8_leastAll_139 (lv_at hl 5 rfl) ?_
                              refine lv_icmp_ge (tgt := 149) hx hb dX8_leastAll_141 (by decide) (fun c_417 => ?_) (fun c_417 => ?_)
                              · refine lv_iload hx hb dX8_leastAll_149 (lv_at hl 5 rfl) ?_
                                refine lv_istore (lv' := [(4, .int be_403), (9, .int r_414), (8, .int (-1)), (7, .int (-1)), (6, .int (nI q6_248)), (5, .int (nI q5_1)), (3, .int (nI (dn sn))), (0, .ref (a 0)), (1, .int (nI sn)), (2, .int p1)]) hx hb dX8_leastAll_151 hl (by decide) rfl (fun ls hl => ?_)
                                refine lv_iinc (v := 0) (lv' := [(8, .int 0), (4, .int be_403), (9, .int r_414), (7, .int (-1)), (6, .int (nI q6_248)), (5, .int (nI q5_1)), (3, .int (nI (dn sn))), (0, .ref (a 0)), (1, .int (nI sn)), (2, .int p1)]) hx hb dX8_leastAll_153 hl (k := 2) rfl (by decide) (by decide) rfl (fun ls hl => ?_)
                                refine lv_goto (tgt := 75) hx hb dX8_leastAll_156 (by decide) ?_
                                exact ih_403 _ (1, be_403) _ _ _ (by omega) ⟨rfl, (by omega), hP, hS, (by rw [nI_pred]; exact lv_sub hl [0, 3, 4, 5, 1, 6, 7, 8, 9] rfl)⟩
                              · refine lv_iload hx hb dX8_leastAll_144 (lv_at hl 0 rfl) ?_
                                refine lv_goto (tgt := 151) hx hb dX8_leastAll_146 (by decide) ?_
                                refine lv_istore (lv' := [(4, .int r_414), (9, .int r_414), (8, .int (-1)), (7, .int (-1)), (6, .int (nI q6_248)), (5, .int (nI q5_1)), (3, .int (nI (dn sn))), (0, .ref (a 0)), (1, .int (nI sn)), (2, .int p1)]) hx hb dX8_leastAll_151 hl (by decide) rfl (fun ls hl => ?_)
                                refine lv_iinc (v := 0) (lv' := [(8, .int 0), (4, .int r_414), (9, .int r_414), (7, .int (-1)), (6, .int (nI q6_248)), (5, .int (nI q5_1)), (3, .int (nI (dn sn))), (0, .ref (a 0)), (1, .int (nI sn)), (2, .int p1)]) hx hb dX8_leastAll_153 hl (k := 2) rfl (by decide) (by decide) rfl (fun ls hl => ?_)
                                refine lv_goto (tgt := 75) hx hb dX8_leastAll_156 (by decide) ?_
                                exact ih_403 _ (1, r_414) _ _ _ (by omega) ⟨rfl, (by omega), hP, hS, (by rw [nI_pred]; exact lv_sub hl [0, 3, 4, 5, 1, 6, 7, 8, 9] rfl)⟩
                  · rw [nI_pred] at hl
                    refine lv_iload hx hb dX8_leastAll_75 (lv_at hl 0 rfl) ?_
                    refine lv_aload_n hx hb dX8_leastAll_77 rfl (lv_at hl 6 rfl) ?_
                    refine va_get (D := D) (ci := 8) (v := .int (nI ca)) (C := RX8) (T := TX8) (N := 44) hx hb hts inX8 hown hK hP 0 rfl rfl 34 (by decide) (hts _ tw_1007) (fun _ h9 => h9) rfl dX8_leastAll_78 ?_
                    refine lv_iconst (v := 3) hx hb dX8_leastAll_81 (by decide) ?_
                    refine lv_icmp_le (tgt := 89) hx hb dX8_leastAll_82 (by decide) (fun c_418 => ?_) (fun c_418 => ?_)
                    · have c_418 := (nI_leI (a := ca) (b := 3) (by omega) (by omega)).mp c_418
                      refine lv_iconst (v := 0) hx hb dX8_leastAll_89 (by decide) ?_
                      refine lv_icmp_ge (tgt := 159) hx hb dX8_leastAll_90 (by decide) (fun _ => ?_) (fun h => absurd (nI_ge0 (by omega)) h)
                      refine lv_iinc (v := 0) (lv' := [(7, .int 0), (8, .int (nI q8_403)), (6, .int (nI q6_248)), (5, .int (nI q5_1)), (4, .int be_403), (3, .int (nI (dn sn))), (0, .ref (a 0)), (1, .int (nI sn)), (2, .int p1)]) hx hb dX8_leastAll_159 hl (k := 1) rfl (by decide) (by decide) rfl (fun ls hl => ?_)
                      refine lv_goto (tgt := 54) hx hb dX8_leastAll_162 (by decide) ?_
                      exact ih_401 _ (1, be_403) _ _ _ (by omega) ⟨rfl, (by omega), hP, hS, (by rw [nI_pred]; exact lv_sub hl [0, 2, 3, 4, 5, 6, 7, 8] rfl)⟩
                    · have c_418 : ¬ (ca ≤ 3) := fun h => c_418 ((nI_leI (a := ca) (b := 3) (by omega) (by omega)).mpr h)
                      refine lv_iload_n hx hb dX8_leastAll_85 rfl (lv_at hl 5 rfl) ?_
                      refine lv_goto (tgt := 90) hx hb dX8_leastAll_86 (by decide) ?_
                      refine lv_icmp_ge (tgt := 159) hx hb dX8_leastAll_90 (by decide) (fun c_419 => ?_) (fun c_419 => ?_)
                      · have c_419 := (nI_leI (a := (dn sn)) (b := q8_403) (by omega) (by omega)).mp c_419
                        refine lv_iinc (v := 0) (lv' := [(7, .int 0), (8, .int (nI q8_403)), (6, .int (nI q6_248)), (5, .int (nI q5_1)), (4, .int be_403), (3, .int (nI (dn sn))), (0, .ref (a 0)), (1, .int (nI sn)), (2, .int p1)]) hx hb dX8_leastAll_159 hl (k := 1) rfl (by decide) (by decide) rfl (fun ls hl => ?_)
                        refine lv_goto (tgt := 54) hx hb dX8_leastAll_162 (by decide) ?_
                        exact ih_401 _ (1, be_403) _ _ _ (by omega) ⟨rfl, (by omega), hP, hS, (by rw [nI_pred]; exact lv_sub hl [0, 2, 3, 4, 5, 6, 7, 8] rfl)⟩
                      · have c_419 : ¬ ((dn sn) ≤ q8_403) := fun h => c_419 ((nI_leI (a := (dn sn)) (b := q8_403) (by omega) (by omega)).mpr h)
                        refine lv_iload_n hx hb dX8_leastAll_93 rfl (lv_at hl 8 rfl) ?_
                        refine lv_iload hx hb dX8_leastAll_94 (lv_at hl 3 rfl) ?_
                        refine lv_iload hx hb dX8_leastAll_96 (lv_at hl 2 rfl) ?_
                        refine lv_iload hx hb dX8_leastAll_98 (lv_at hl 1 rfl) ?_
                        refine lv_iload hx hb dX8_leastAll_100 (lv_at hl 0 rfl) ?_
                        refine ro_i (D := D) (va_runS (As := [.int p1, .int (nI q5_1), .int (nI q6_248), .int (-1), .int (nI q8_403)]) (rest := []) ⟨hx, hb, hml, hown, hts⟩ ((m_canAll l D k st lo p1 (nI q5_1) (nI q6_248) (-1) (nI q8_403)) H.size) (va_cwS 5 hts (gS tw_1450 tw_1451 tw_87 tw_1452) rfl rfl rfl (by decide +kernel) ⟨Nat.le_of_ble_eq_true rfl, Nat.le_of_ble_eq_true rfl⟩) (pS hS hAlo hlo hP hK hDL hZ [] (by decide) rfl) rfl rfl hl.1 rfl (lv_room (Nat.le_of_ble_eq_true rfl)) dX8_leastAll_102 ⟨Nat.le_of_ble_eq_true rfl, Nat.le_of_ble_eq_true rfl⟩) hS hA hP (fun r_420 H locs hw_420 hP hS => ?_)
                        try dsimp only at hw_420
                        refine lv_if_eq (tgt := 124) hx hb dX8_leastAll_105 (by decide) (fun c_421 => ?_) (fun c_421 => ?_)
                        · refine lv_iconst (v := (-1)) hx hb dX8_leastAll_124 (by decide) ?_
                          refine lv_istore (lv' := [(9, .int (-1)), (8, .int (nI q8_403)), (7, .int (-1)), (6, .int (nI q6_248)), (5, .int (nI q5_1)), (4, .int be_403), (3, .int (nI (dn sn))), (0, .ref (a 0)), (1, .int (nI sn)), (2, .int p1)]) hx hb dX8_leastAll_125 hl (by decide) rfl (fun ls hl => ?_)
                          refine lv_iload hx hb dX8_leastAll_127 (lv_at hl 0 rfl) ?_
                          refine lv_if_lt (tgt := 149) hx hb dX8_leastAll_129 (by decide) (fun _ => ?_) (fun h => absurd (by decide) h)
                          refine lv_iload hx hb dX8_leastAll_149 (lv_at hl 5 rfl) ?_
                          refine lv_istore (lv' := [(4, .int be_403), (9, .int (-1)), (8, .int (nI q8_403)), (7, .int (-1)), (6, .int (nI q6_248)), (5, .int (nI q5_1)), (3, .int (nI (dn sn))), (0, .ref (a 0)), (1, .int (nI sn)), (2, .int p1)]) hx hb dX8_leastAll_151 hl (by decide) rfl (fun ls hl => ?_)
                          refine lv_iinc (v := (nI (q8_403 + 1))) (lv' := [(8, .int (nI (q8_403 + 1))), (4, .int be_403), (9, .int (-1)), (7, .int (-1)), (6, .int (nI q6_248)), (5, .int (nI q5_1)), (3, .int (nI (dn sn))), (0, .ref (a 0)), (1, .int (nI sn)), (2, .int p1)]) hx hb dX8_leastAll_153 hl (k := 2) rfl (nI_add q8_403 1) (by decide) rfl (fun ls hl => ?_)
                          refine lv_goto (tgt := 75) hx hb dX8_leastAll_156 (by decide) ?_
                          exact ih_403 _ (q8_403 + 1 + 1, be_403) _ _ _ (by omega) ⟨rfl, (by omega), hP, hS, (by rw [nI_pred]; exact lv_sub hl [0, 3, 4, 5, 1, 6, 7, 8, 9] rfl)⟩
                        · refine lv_aload_n hx hb dX8_leastAll_108 rfl (lv_at hl 6 rfl) ?_
                          refine lv_iload_n hx hb dX8_leastAll_109 rfl (lv_at hl 7 rfl) ?_
                          refine lv_iload hx hb dX8_leastAll_110 (lv_at hl 3 rfl) ?_
                          refine lv_iload hx hb dX8_leastAll_112 (lv_at hl 2 rfl) ?_
                          refine lv_iload hx hb dX8_leastAll_114 (lv_at hl 1 rfl) ?_
                          refine lv_iload hx hb dX8_leastAll_116 (lv_at hl 0 rfl) ?_
                          refine ro_i (D := D) (va_runV (As := [.int (nI sn), .int (nI q5_1), .int (nI q6_248), .int (-1), .int (nI q8_403)]) (rest := []) ⟨hx, hb, hml, hown, hts⟩ ((m_sumAll l D k st lo a tx t0 we rd ru rw ca fp wd nu na ts df db sd dn se tm gs fprices fwalks sn (nI q5_1) (nI q6_248) (-1) (nI q8_403) (by omega) (by omega) (.inr ⟨q5_1, by omega, rfl⟩) (.inr ⟨q6_248, by omega, rfl⟩) (.inl (by decide)) (.inr ⟨q8_403, by omega, rfl⟩)) H.size) (cwV 5 hts (gV tw_1459 tw_1461 tw_75 tw_87 tw_1462) rfl rfl rfl (by decide +kernel) ⟨Nat.le_of_ble_eq_true rfl, Nat.le_of_ble_eq_true rfl⟩) (pV hS hAlo hlo hP hK hDL hZ [0, 1, 2, 3, 4] (by decide) rfl (ci := 8) (q := (RX8, TX8, 44)) (q0 := 0) rfl rfl) rfl rfl hl.1 rfl (lv_room (Nat.le_of_ble_eq_true rfl)) dX8_leastAll_118 ⟨Nat.le_of_ble_eq_true rfl, Nat.le_of_ble_eq_true rfl⟩) hS hA hP (fun r_422 H locs hw_422 hP hS => ?_)
                          try dsimp only at hw_422
                          refine lv_goto (tgt := 125) hx hb dX8_leastAll_121 (by decide) ?_
                          refine lv_istore (lv' := [(9, .int r_422), (8, .int (nI q8_403)), (7, .int (-1)), (6, .int (nI q6_248)), (5, .int (nI q5_1)), (4, .int be_403), (3, .int (nI (dn sn))), (0, .ref (a 0)), (1, .int (nI sn)), (2, .int p1)]) hx hb dX8_leastAll_125 hl (by decide) rfl (fun ls hl => ?_)
                          refine lv_iload hx hb dX8_leastAll_127 (lv_at hl 0 rfl) ?_
                          refine lv_if_lt (tgt := 149) hx hb dX8_leastAll_129 (by decide) (fun c_423 => ?_) (fun c_423 => ?_)
                          · refine lv_iload hx hb dX8_leastAll_149 (lv_at hl 5 rfl) ?_
                            refine lv_istore (lv' := [(4, .int be_403), (9, .int r_422), (8, .int (nI q8_403)), (7, .int (-1)), (6, .int (nI q6_248)), (5, .int (nI q5_1)), (3, .int (nI (dn sn))), (0, .ref (a 0)), (1, .int (nI sn)), (2, .int p1)]) hx hb dX8_leastAll_151 hl (by decide) rfl (fun ls hl => ?_)
                            refine lv_iinc (v := (nI (q8_403 + 1))) (lv' := [(8, .int (nI (q8_403 + 1))), (4, .int be_403), (9, .int r_422), (7, .int (-1)), (6, .int (nI q6_248)), (5, .int (nI q5_1)), (3, .int (nI (dn sn))), (0, .ref (a 0)), (1, .int (nI sn)), (2, .int p1)]) hx hb dX8_leastAll_153 hl (k := 2) rfl (nI_add q8_403 1) (by decide) rfl (fun ls hl => ?_)
                            refine lv_goto (tgt := 75) hx hb dX8_leastAll_156 (by decide) ?_
                            exact ih_403 _ (q8_403 + 1 + 1, be_403) _ _ _ (by omega) ⟨rfl, (by omega), hP, hS, (by rw [nI_pred]; exact lv_sub hl [0, 3, 4, 5, 1, 6, 7, 8, 9] rfl)⟩
                          · refine lv_iload hx hb dX8_leastAll_132 (lv_at hl 5 rfl) ?_
                            refine lv_if_lt (tgt := 144) hx hb dX8_leastAll_134 (by decide) (fun c_424 => ?_) (fun c_424 => ?_)
                            · refine lv_iload hx hb dX8_leastAll_144 (lv_at hl 0 rfl) ?_
                              refine lv_goto (tgt := 151) hx hb dX8_leastAll_146 (by decide) ?_
                              refine lv_istore (lv' := [(4, .int r_422), (9, .int r_422), (8, .int (nI q8_403)), (7, .int (-1)), (6, .int (nI q6_248)), (5, .int (nI q5_1)), (3, .int (nI (dn sn))), (0, .ref (a 0)), (1, .int (nI sn)), (2, .int p1)]) hx hb dX8_leastAll_151 hl (by decide) rfl (fun ls hl => ?_)
                              refine lv_iinc (v := (nI (q8_403 + 1))) (lv' := [(8, .int (nI (q8_403 + 1))), (4, .int r_422), (9, .int r_422), (7, .int (-1)), (6, .int (nI q6_248)), (5, .int (nI q5_1)), (3, .int (nI (dn sn))), (0, .ref (a 0)), (1, .int (nI sn)), (2, .int p1)]) hx hb dX8_leastAll_153 hl (k := 2) rfl (nI_add q8_403 1) (by decide) rfl (fun ls hl => ?_)
                              refine lv_goto (tgt := 75) hx hb dX8_leastAll_156 (by decide) ?_
                              exact ih_403 _ (q8_403 + 1 + 1, r_422) _ _ _ (by omega) ⟨rfl, (by omega), hP, hS, (by rw [nI_pred]; exact lv_sub hl [0, 3, 4, 5, 1, 6, 7, 8, 9] rfl)⟩
                            · refine lv_iload hx hb dX8_leastAll_137 (lv_at hl 0 rfl) ?_
                              refine lv_iload hx hb dX8_leastAll_139 (lv_at hl 5 rfl) ?_
                              refine lv_icmp_ge (tgt := 149) hx hb dX8_leastAll_141 (by decide) (fun c_425 => ?_) (fun c_425 => ?_)
                              · refine lv_iload hx hb dX8_leastAll_149 (lv_at hl 5 rfl) ?_
                                refine lv_istore (lv' := [(4, .int be_403), (9, .int r_422), (8, .int (nI q8_403)), (7, .int (-1)), (6, .int (nI q6_248)), (5, .int (nI q5_1)), (3, .int (nI (dn sn))), (0, .ref (a 0)), (1, .int (nI sn)), (2, .int p1)]) hx hb dX8_leastAll_151 hl (by decide) rfl (fun ls hl => ?_)
                                refine lv_iinc (v := (nI (q8_403 + 1))) (lv' := [(8, .int (nI (q8_403 + 1))), (4, .int be_403), (9, .int r_422), (7, .int (-1)), (6, .int (nI q6_248)), (5, .int (nI q5_1)), (3, .int (nI (dn sn))), (0, .ref (a 0)), (1, .int (nI sn)), (2, .int p1)]) hx hb dX8_leastAll_153 hl (k := 2) rfl (nI_add q8_403 1) (by decide) rfl (fun ls hl => ?_)
                                refine lv_goto (tgt := 75) hx hb dX8_leastAll_156 (by decide) ?_
                                exact ih_403 _ (q8_403 + 1 + 1, be_403) _ _ _ (by omega) ⟨rfl, (by omega), hP, hS, (by rw [nI_pred]; exact lv_sub hl [0, 3, 4, 5, 1, 6, 7, 8, 9] rfl)⟩
                              · refine lv_iload hx hb dX8_leastAll_144 (lv_at hl 0 rfl) ?_
                                refine lv_goto (tgt := 151) hx hb dX8_leastAll_146 (by decide) ?_
                                refine lv_istore (lv' := [(4, .int r_422), (9, .int r_422), (8, .int (nI q8_403)), (7, .int (-1)), (6, .int (nI q6_248)), (5, .int (nI q5_1)), (3, .int (nI (dn sn))), (0, .ref (a 0)), (1, .int (nI sn)), (2, .int p1)]) hx hb dX8_leastAll_151 hl (by decide) rfl (fun ls hl => ?_)
                                refine lv_iinc (v := (nI (q8_403 + 1))) (lv' := [(8, .int (nI (q8_403 + 1))), (4, .int r_422), (9, .int r_422), (7, .int (-1)), (6, .int (nI q6_248)), (5, .int (nI q5_1)), (3, .int (nI (dn sn))), (0, .ref (a 0)), (1, .int (nI sn)), (2, .int p1)]) hx hb dX8_leastAll_153 hl (k := 2) rfl (nI_add q8_403 1) (by decide) rfl (fun ls hl => ?_)
                                refine lv_goto (tgt := 75) hx hb dX8_leastAll_156 (by decide) ?_
                                exact ih_403 _ (q8_403 + 1 + 1, r_422) _ _ _ (by omega) ⟨rfl, (by omega), hP, hS, (by rw [nI_pred]; exact lv_sub hl [0, 3, 4, 5, 1, 6, 7, 8, 9] rfl)⟩
                · have c_402 : ¬ (ca ≤ 2) := fun h => c_402 ((nI_leI (a := ca) (b := 2) (by omega) (by omega)).mpr h)
                  refine lv_iload_n hx hb dX8_leastAll_64 rfl (lv_at hl 4 rfl) ?_
                  refine lv_goto (tgt := 69) hx hb dX8_leastAll_65 (by decide) ?_
                  refine lv_icmp_ge (tgt := 165) hx hb dX8_leastAll_69 (by decide) (fun c_426 => ?_) (fun c_426 => ?_)
                  · refine lv_iinc (v := (nI (q6_248 + 1))) (lv' := [(6, .int (nI (q6_248 + 1))), (7, .int (-1)), (5, .int (nI q5_1)), (4, .int be_401), (3, .int (nI (dn sn))), (0, .ref (a 0)), (1, .int (nI sn)), (2, .int p1)]) hx hb dX8_leastAll_165 hl (k := 1) rfl (nI_add q6_248 1) (by decide) rfl (fun ls hl => ?_)
                    refine lv_goto (tgt := 33) hx hb dX8_leastAll_168 (by decide) ?_
                    exact ih_248 _ (q6_248 + 1 + 1, be_401) _ _ _ (by omega) ⟨rfl, (by omega), hP, hS, (by rw [nI_pred]; exact lv_sub hl [0, 2, 3, 4, 5, 6, 7] rfl)⟩
                  · refine lv_iconst (v := (-1)) hx hb dX8_leastAll_72 (by decide) ?_
                    refine lv_istore (lv' := [(8, .int (-1)), (7, .int (-1)), (6, .int (nI q6_248)), (5, .int (nI q5_1)), (4, .int be_401), (3, .int (nI (dn sn))), (0, .ref (a 0)), (1, .int (nI sn)), (2, .int p1)]) hx hb dX8_leastAll_73 hl (by decide) rfl (fun ls hl => ?_)
                    refine W_loop (σ := Nat × Int32) (fun (n_ : Nat) (x_ : Nat × Int32) (H : Heap) (locs : List Loc) (ls : Array Slot) => match x_ with | (q8_427, be_427) => n_ = 26 - q8_427 ∧ (q8_427 ≤ 25) ∧ va_P D classes [((a 0), .inr (8, (fX8 a (nI tx) fp (nI t0) wd (nI we) nu na (nI rd) ts (nI ru) (nI rw) (nI ca) df db sd))), (aI k (a 1) 3 (nF dn)), (aI k (a 4) 27 (sg se tm gs)), (aI k (a 3) 72 fprices), (aI k (a 36) 4 fwalks)] H ∧ va_S (fun q : Nat => s.heap.size ≤ q) s.heap H locs ∧ lv_has ls 10 [(8, .int (nI q8_427 - 1)), (7, .int (-1)), (6, .int (nI q6_248)), (5, .int (nI q5_1)), (4, .int be_427), (3, .int (nI (dn sn))), (0, .ref (a 0)), (1, .int (nI sn)), (2, .int p1)]) (fun n_427 x_427 H locs ls hI ih_427 => ?_) _ (0, be_401) ⟨rfl, (by omega), hP, hS, (by rw [dn0]; exact lv_sub hl [0, 1, 2, 3, 4, 5, 6, 7, 8] rfl)⟩
                    obtain ⟨q8_427, be_427⟩ := x_427
                    obtain ⟨hm_427, hv_427, hP, hS, hl⟩ := hI
                    subst hm_427
                    rcases q8_427 with _ | q8_427
                    · rw [dn0] at hl
                      refine lv_iload hx hb dX8_leastAll_75 (lv_at hl 0 rfl) ?_
                      refine lv_aload_n hx hb dX8_leastAll_77 rfl (lv_at hl 6 rfl) ?_
                      refine va_get (D := D) (ci := 8) (v := .int (nI ca)) (C := RX8) (T := TX8) (N := 44) hx hb hts inX8 hown hK hP 0 rfl rfl 34 (by decide) (hts _ tw_1007) (fun _ h9 => h9) rfl dX8_leastAll_78 ?_
                      refine lv_iconst (v := 3) hx hb dX8_leastAll_81 (by decide) ?_
                      refine lv_icmp_le (tgt := 89) hx hb dX8_leastAll_82 (by decide) (fun c_428 => ?_) (fun c_428 => ?_)
                      · have c_428 := (nI_leI (a := ca) (b := 3) (by omega) (by omega)).mp c_428
                        refine lv_iconst (v := 0) hx hb dX8_leastAll_89 (by decide) ?_
                        refine lv_icmp_ge (tgt := 159) hx hb dX8_leastAll_90 (by decide) (fun h => absurd h (by decide)) (fun _ => ?_)
                        refine lv_iload_n hx hb dX8_leastAll_93 rfl (lv_at hl 8 rfl) ?_
                        refine lv_iload hx hb dX8_leastAll_94 (lv_at hl 3 rfl) ?_
                        refine lv_iload hx hb dX8_leastAll_96 (lv_at hl 2 rfl) ?_
                        refine lv_iload hx hb dX8_leastAll_98 (lv_at hl 1 rfl) ?_
                        refine lv_iload hx hb dX8_leastAll_100 (lv_at hl 0 rfl) ?_
                        refine ro_i (D := D) (va_runS (As := [.int p1, .int (nI q5_1), .int (nI q6_248), .int (-1), .int (-1)]) (rest := []) ⟨hx, hb, hml, hown, hts⟩ ((m_canAll l D k st lo p1 (nI q5_1) (nI q6_248) (-1) (-1)) H.size) (va_cwS 5 hts (gS tw_1450 tw_1451 tw_87 tw_1452) rfl rfl rfl (by decide +kernel) ⟨Nat.le_of_ble_eq_true rfl, Nat.le_of_ble_eq_true rfl⟩) (pS hS hAlo hlo hP hK hDL hZ [] (by decide) rfl) rfl rfl hl.1 rfl (lv_room (Nat.le_of_ble_eq_true rfl)) dX8_leastAll_102 ⟨Nat.le_of_ble_eq_true rfl, Nat.le_of_ble_eq_true rfl⟩) hS hA hP (fun r_429 H locs hw_429 hP hS => ?_)
                        try dsimp only at hw_429
                        refine lv_if_eq (tgt := 124) hx hb dX8_leastAll_105 (by decide) (fun c_430 => ?_) (fun c_430 => ?_)
                        · refine lv_iconst (v := (-1)) hx hb dX8_leastAll_124 (by decide) ?_
                          refine lv_istore (lv' := [(9, .int (-1)), (8, .int (-1)), (7, .int (-1)), (6, .int (nI q6_248)), (5, .int (nI q5_1)), (4, .int be_427), (3, .int (nI (dn sn))), (0, .ref (a 0)), (1, .int (nI sn)), (2, .int p1)]) hx hb dX8_leastAll_125 hl (by decide) rfl (fun ls hl => ?_)
                          refine lv_iload hx hb dX8_leastAll_127 (lv_at hl 0 rfl) ?_
                          refine lv_if_lt (tgt := 149) hx hb dX8_leastAll_129 (by decide) (fun _ => ?_) (fun h => absurd (by decide) h)
                          refine lv_iload hx hb dX8_leastAll_149 (lv_at hl 5 rfl) ?_
                          refine lv_istore (lv' := [(4, .int be_427), (9, .int (-1)), (8, .int (-1)), (7, .int (-1)), (6, .int (nI q6_248)), (5, .int (nI q5_1)), (3, .int (nI (dn sn))), (0, .ref (a 0)), (1, .int (nI sn)), (2, .int p1)]) hx hb dX8_leastAll_151 hl (by decide) rfl (fun ls hl => ?_)
                          refine lv_iinc (v := 0) (lv' := [(8, .int 0), (4, .int be_427), (9, .int (-1)), (7, .int (-1)), (6, .int (nI q6_248)), (5, .int (nI q5_1)), (3, .int (nI (dn sn))), (0, .ref (a 0)), (1, .int (nI sn)), (2, .int p1)]) hx hb dX8_leastAll_153 hl (k := 2) rfl (by decide) (by decide) rfl (fun ls hl => ?_)
                          refine lv_goto (tgt := 75) hx hb dX8_leastAll_156 (by decide) ?_
                          exact ih_427 _ (1, be_427) _ _ _ (by omega) ⟨rfl, (by omega), hP, hS, (by rw [nI_pred]; exact lv_sub hl [0, 3, 4, 5, 1, 6, 7, 8, 9] rfl)⟩
                        · refine lv_aload_n hx hb dX8_leastAll_108 rfl (lv_at hl 6 rfl) ?_
                          refine lv_iload_n hx hb dX8_leastAll_109 rfl (lv_at hl 7 rfl) ?_
                          refine lv_iload hx hb dX8_leastAll_110 (lv_at hl 3 rfl) ?_
                          refine lv_iload hx hb dX8_leastAll_112 (lv_at hl 2 rfl) ?_
                          refine lv_iload hx hb dX8_leastAll_114 (lv_at hl 1 rfl) ?_
                          refine lv_iload hx hb dX8_leastAll_116 (lv_at hl 0 rfl) ?_
                          refine ro_i (D := D) (va_runV (As := [.int (nI sn), .int (nI q5_1), .int (nI q6_248), .int (-1), .int (-1)]) (rest := []) ⟨hx, hb, hml, hown, hts⟩ ((m_sumAll l D k st lo a tx t0 we rd ru rw ca fp wd nu na ts df db sd dn se tm gs fprices fwalks sn (nI q5_1) (nI q6_248) (-1) (-1) (by omega) (by omega) (.inr ⟨q5_1, by omega, rfl⟩) (.inr ⟨q6_248, by omega, rfl⟩) (.inl (by decide)) (.inl (by decide))) H.size) (cwV 5 hts (gV tw_1459 tw_1461 tw_75 tw_87 tw_1462) rfl rfl rfl (by decide +kernel) ⟨Nat.le_of_ble_eq_true rfl, Nat.le_of_ble_eq_true rfl⟩) (pV hS hAlo hlo hP hK hDL hZ [0, 1, 2, 3, 4] (by decide) rfl (ci := 8) (q := (RX8, TX8, 44)) (q0 := 0) rfl rfl) rfl rfl hl.1 rfl (lv_room (Nat.le_of_ble_eq_true rfl)) dX8_leastAll_118 ⟨Nat.le_of_ble_eq_true rfl, Nat.le_of_ble_eq_true rfl⟩) hS hA hP (fun r_431 H locs hw_431 hP hS => ?_)
                          try dsimp only at hw_431
                          refine lv_goto (tgt := 125) hx hb dX8_leastAll_121 (by decide) ?_
                          refine lv_istore (lv' := [(9, .int r_431), (8, .int (-1)), (7, .int (-1)), (6, .int (nI q6_248)), (5, .int (nI q5_1)), (4, .int be_427), (3, .int (nI (dn sn))), (0, .ref (a 0)), (1, .int (nI sn)), (2, .int p1)]) hx hb dX8_leastAll_125 hl (by decide) rfl (fun ls hl => ?_)
                          refine lv_iload hx hb dX8_leastAll_127 (lv_at hl 0 rfl) ?_
                          refine lv_if_lt (tgt := 149) hx hb dX8_leastAll_129 (by decide) (fun c_432 => ?_) (fun c_432 => ?_)
                          · refine lv_iload hx hb dX8_leastAll_149 (lv_at hl 5 rfl) ?_
                            refine lv_istore (lv' := [(4, .int be_427), (9, .int r_431), (8, .int (-1)), (7, .int (-1)), (6, .int (nI q6_248)), (5, .int (nI q5_1)), (3, .int (nI (dn sn))), (0, .ref (a 0)), (1, .int (nI sn)), (2, .int p1)]) hx hb dX8_leastAll_151 hl (by decide) rfl (fun ls hl => ?_)
                            refine lv_iinc (v := 0) (lv' := [(8, .int 0), (4, .int be_427), (9, .int r_431), (7, .int (-1)), (6, .int (nI q6_248)), (5, .int (nI q5_1)), (3, .int (nI (dn sn))), (0, .ref (a 0)), (1, .int (nI sn)), (2, .int p1)]) hx hb dX8_leastAll_153 hl (k := 2) rfl (by decide) (by decide) rfl (fun ls hl => ?_)
                            refine lv_goto (tgt := 75) hx hb dX8_leastAll_156 (by decide) ?_
                            exact ih_427 _ (1, be_427) _ _ _ (by omega) ⟨rfl, (by omega), hP, hS, (by rw [nI_pred]; exact lv_sub hl [0, 3, 4, 5, 1, 6, 7, 8, 9] rfl)⟩
                          · refine lv_iload hx hb dX8_leastAll_132 (lv_at hl 5 rfl) ?_
                            refine lv_if_lt (tgt := 144) hx hb dX8_leastAll_134 (by decide) (fun c_433 => ?_) (fun c_433 => ?_)
                            · refine lv_iload hx hb dX8_leastAll_144 (lv_at hl 0 rfl) ?_
                              refine lv_goto (tgt := 151) hx hb dX8_leastAll_146 (by decide) ?_
                              refine lv_istore (lv' := [(4, .int r_431), (9, .int r_431), (8, .int (-1)), (7, .int (-1)), (6, .int (nI q6_248)), (5, .int (nI q5_1)), (3, .int (nI (dn sn))), (0, .ref (a 0)), (1, .int (nI sn)), (2, .int p1)]) hx hb dX8_leastAll_151 hl (by decide) rfl (fun ls hl => ?_)
                              refine lv_iinc (v := 0) (lv' := [(8, .int 0), (4, .int r_431), (9, .int r_431), (7, .int (-1)), (6, .int (nI q6_248)), (5, .int (nI q5_1)), (3, .int (nI (dn sn))), (0, .ref (a 0)), (1, .int (nI sn)), (2, .int p1)]) hx hb dX8_leastAll_153 hl (k := 2) rfl (by decide) (by decide) rfl (fun ls hl => ?_)
                              refine lv_goto (tgt := 75) hx hb dX8_leastAll_156 (by decide) ?_
                              exact ih_427 _ (1, r_431) _ _ _ (by omega) ⟨rfl, (by omega), hP, hS, (by rw [nI_pred]; exact lv_sub hl [0, 3, 4, 5, 1, 6, 7, 8, 9] rfl)⟩
                            · refine lv_iload hx hb dX8_leastAll_137 (lv_at hl 0 rfl) ?_
                              refine lv_iload hx hb dX8_leastAll_139 (lv_at hl 5 rfl) ?_
                              refine lv_icmp_ge (tgt := 149) hx hb dX8_leastAll_141 (by decide) (fun c_434 => ?_) (fun c_434 => ?_)
                              · refine lv_iload hx hb dX8_leastAll_149 (lv_at hl 5 rfl) ?_
                                refine lv_istore (lv' := [(4, .int be_427), (9, .int r_431), (8, .int (-1)), (7, .int (-1)), (6, .int (nI q6_248)), (5, .int (nI q5_1)), (3, .int (nI (dn sn))), (0, .ref (a 0)), (1, .int (nI sn)), (2, .int p1)]) hx hb dX8_leastAll_151 hl (by decide) rfl (fun ls hl => ?_)
                                refine lv_iinc (v := 0) (lv' := [(8, .int 0), (4, .int be_427), (9, .int r_431), (7, .int (-1)), (6, .int (nI q6_248)), (5, .int (nI q5_1)), (3, .int (nI (dn sn))), (0, .ref (a 0)), (1, .int (nI sn)), (2, .int p1)]) hx hb dX8_leastAll_153 hl (k := 2) rfl (by decide) (by decide) rfl (fun ls hl => ?_)
                                refine lv_goto (tgt := 75) hx hb dX8_leastAll_156 (by decide) ?_
                                exact ih_427 _ (1, be_427) _ _ _ (by omega) ⟨rfl, (by omega), hP, hS, (by rw [nI_pred]; exact lv_sub hl [0, 3, 4, 5, 1, 6, 7, 8, 9] rfl)⟩
                              · refine lv_iload hx hb dX8_leastAll_144 (lv_at hl 0 rfl) ?_
                                refine lv_goto (tgt := 151) hx hb dX8_leastAll_146 (by decide) ?_
                                refine lv_istore (lv' := [(4, .int r_431), (9, .int r_431), (8, .int (-1)), (7, .int (-1)), (6, .int (nI q6_248)), (5, .int (nI q5_1)), (3, .int (nI (dn sn))), (0, .ref (a 0)), (1, .int (nI sn)), (2, .int p1)]) hx hb dX8_leastAll_151 hl (by decide) rfl (fun ls hl => ?_)
                                refine lv_iinc (v := 0) (lv' := [(8, .int 0), (4, .int r_431), (9, .int r_431), (7, .int (-1)), (6, .int (nI q6_248)), (5, .int (nI q5_1)), (3, .int (nI (dn sn))), (0, .ref (a 0)), (1, .int (nI sn)), (2, .int p1)]) hx hb dX8_leastAll_153 hl (k := 2) rfl (by decide) (by decide) rfl (fun ls hl => ?_)
                                refine lv_goto (tgt := 75) hx hb dX8_leastAll_156 (by decide) ?_
                                exact ih_427 _ (1, r_431) _ _ _ (by omega) ⟨rfl, (by omega), hP, hS, (by rw [nI_pred]; exact lv_sub hl [0, 3, 4, 5, 1, 6, 7, 8, 9] rfl)⟩
                      · have c_428 : ¬ (ca ≤ 3) := fun h => c_428 ((nI_leI (a := ca) (b := 3) (by omega) (by omega)).mpr h)
                        refine lv_iload_n hx hb dX8_leastAll_85 rfl (lv_at hl 5 rfl) ?_
                        refine lv_goto (tgt := 90) hx hb dX8_leastAll_86 (by decide) ?_
                        refine lv_icmp_ge (tgt := 159) hx hb dX8_leastAll_90 (by decide) (fun c_435 => ?_) (fun c_435 => ?_)
                        · refine lv_iinc (v := 0) (lv' := [(7, .int 0), (8, .int (-1)), (6, .int (nI q6_248)), (5, .int (nI q5_1)), (4, .int be_427), (3, .int (nI (dn sn))), (0, .ref (a 0)), (1, .int (nI sn)), (2, .int p1)]) hx hb dX8_leastAll_159 hl (k := 1) rfl (by decide) (by decide) rfl (fun ls hl => ?_)
                          refine lv_goto (tgt := 54) hx hb dX8_leastAll_162 (by decide) ?_
                          exact ih_401 _ (1, be_427) _ _ _ (by omega) ⟨rfl, (by omega), hP, hS, (by rw [nI_pred]; exact lv_sub hl [0, 2, 3, 4, 5, 6, 7, 8] rfl)⟩
                        · refine lv_iload_n hx hb dX8_leastAll_93 rfl (lv_at hl 8 rfl) ?_
                          refine lv_iload hx hb dX8_leastAll_94 (lv_at hl 3 rfl) ?_
                          refine lv_iload hx hb dX8_leastAll_96 (lv_at hl 2 rfl) ?_
                          refine lv_iload hx hb dX8_leastAll_98 (lv_at hl 1 rfl) ?_
                          refine lv_iload hx hb dX8_leastAll_100 (lv_at hl 0 rfl) ?_
                          refine ro_i (D := D) (va_runS (As := [.int p1, .int (nI q5_1), .int (nI q6_248), .int (-1), .int (-1)]) (rest := []) ⟨hx, hb, hml, hown, hts⟩ ((m_canAll l D k st lo p1 (nI q5_1) (nI q6_248) (-1) (-1)) H.size) (va_cwS 5 hts (gS tw_1450 tw_1451 tw_87 tw_1452) rfl rfl rfl (by decide +kernel) ⟨Nat.le_of_ble_eq_true rfl, Nat.le_of_ble_eq_true rfl⟩) (pS hS hAlo hlo hP hK hDL hZ [] (by decide) rfl) rfl rfl hl.1 rfl (lv_room (Nat.le_of_ble_eq_true rfl)) dX8_leastAll_102 ⟨Nat.le_of_ble_eq_true rfl, Nat.le_of_ble_eq_true rfl⟩) hS hA hP (fun r_436 H locs hw_436 hP hS => ?_)
                          try dsimp only at hw_436
                          refine lv_if_eq (tgt := 124) hx hb dX8_leastAll_105 (by decide) (fun c_437 => ?_) (fun c_437 => ?_)
                          · refine lv_iconst (v := (-1)) hx hb dX8_leastAll_124 (by decide) ?_
                            refine lv_istore (lv' := [(9, .int (-1)), (8, .int (-1)), (7, .int (-1)), (6, .int (nI q6_248)), (5, .int (nI q5_1)), (4, .int be_427), (3, .int (nI (dn sn))), (0, .ref (a 0)), (1, .int (nI sn)), (2, .int p1)]) hx hb dX8_leastAll_125 hl (by decide) rfl (fun ls hl => ?_)
                            refine lv_iload hx hb dX8_leastAll_127 (lv_at hl 0 rfl) ?_
                            refine lv_if_lt (tgt := 149) hx hb dX8_leastAll_129 (by decide) (fun _ => ?_) (fun h => absurd (by decide) h)
                            refine lv_iload hx hb dX8_leastAll_149 (lv_at hl 5 rfl) ?_
                            refine lv_istore (lv' := [(4, .int be_427), (9, .int (-1)), (8, .int (-1)), (7, .int (-1)), (6, .int (nI q6_248)), (5, .int (nI q5_1)), (3, .int (nI (dn sn))), (0, .ref (a 0)), (1, .int (nI sn)), (2, .int p1)]) hx hb dX8_leastAll_151 hl (by decide) rfl (fun ls hl => ?_)
                            refine lv_iinc (v := 0) (lv' := [(8, .int 0), (4, .int be_427), (9, .int (-1)), (7, .int (-1)), (6, .int (nI q6_248)), (5, .int (nI q5_1)), (3, .int (nI (dn sn))), (0, .ref (a 0)), (1, .int (nI sn)), (2, .int p1)]) hx hb dX8_leastAll_153 hl (k := 2) rfl (by decide) (by decide) rfl (fun ls hl => ?_)
                            refine lv_goto (tgt := 75) hx hb dX8_leastAll_156 (by decide) ?_
                            exact ih_427 _ (1, be_427) _ _ _ (by omega) ⟨rfl, (by omega), hP, hS, (by rw [nI_pred]; exact lv_sub hl [0, 3, 4, 5, 1, 6, 7, 8, 9] rfl)⟩
                          · refine lv_aload_n hx hb dX8_leastAll_108 rfl (lv_at hl 6 rfl) ?_
                            refine lv_iload_n hx hb dX8_leastAll_109 rfl (lv_at hl 7 rfl) ?_
                            refine lv_iload hx hb dX8_leastAll_110 (lv_at hl 3 rfl) ?_
                            refine lv_iload hx hb dX8_leastAll_112 (lv_at hl 2 rfl) ?_
                            refine lv_iload hx hb dX8_leastAll_114 (lv_at hl 1 rfl) ?_
                            refine lv_iload hx hb dX8_leastAll_116 (lv_at hl 0 rfl) ?_
                            refine ro_i (D := D) (va_runV (As := [.int (nI sn), .int (nI q5_1), .int (nI q6_248), .int (-1), .int (-1)]) (rest := []) ⟨hx, hb, hml, hown, hts⟩ ((m_sumAll l D k st lo a tx t0 we rd ru rw ca fp wd nu na ts df db sd dn se tm gs fprices fwalks sn (nI q5_1) (nI q6_248) (-1) (-1) (by omega) (by omega) (.inr ⟨q5_1, by omega, rfl⟩) (.inr ⟨q6_248, by omega, rfl⟩) (.inl (by decide)) (.inl (by decide))) H.size) (cwV 5 hts (gV tw_1459 tw_1461 tw_75 tw_87 tw_1462) rfl rfl rfl (by decide +kernel) ⟨Nat.le_of_ble_eq_true rfl, Nat.le_of_ble_eq_true rfl⟩) (pV hS hAlo hlo hP hK hDL hZ [0, 1, 2, 3, 4] (by decide) rfl (ci := 8) (q := (RX8, TX8, 44)) (q0 := 0) rfl rfl) rfl rfl hl.1 rfl (lv_room (Nat.le_of_ble_eq_true rfl)) dX8_leastAll_118 ⟨Nat.le_of_ble_eq_true rfl, Nat.le_of_ble_eq_true rfl⟩) hS hA hP (fun r_438 H locs hw_438 hP hS => ?_)
                            try dsimp only at hw_438
                            refine lv_goto (tgt := 125) hx hb dX8_leastAll_121 (by decide) ?_
                            refine lv_istore (lv' := [(9, .int r_438), (8, .int (-1)), (7, .int (-1)), (6, .int (nI q6_248)), (5, .int (nI q5_1)), (4, .int be_427), (3, .int (nI (dn sn))), (0, .ref (a 0)), (1, .int (nI sn)), (2, .int p1)]) hx hb dX8_leastAll_125 hl (by decide) rfl (fun ls hl => ?_)
                            refine lv_iload hx hb dX8_leastAll_127 (lv_at hl 0 rfl) ?_
                            refine lv_if_lt (tgt := 149) hx hb dX8_leastAll_129 (by decide) (fun c_439 => ?_) (fun c_439 => ?_)
                            · refine lv_iload hx hb dX8_leastAll_149 (lv_at hl 5 rfl) ?_
                              refine lv_istore (lv' := [(4, .int be_427), (9, .int r_438), (8, .int (-1)), (7, .int (-1)), (6, .int (nI q6_248)), (5, .int (nI q5_1)), (3, .int (nI (dn sn))), (0, .ref (a 0)), (1, .int (nI sn)), (2, .int p1)]) hx hb dX8_leastAll_151 hl (by decide) rfl (fun ls hl => ?_)
                              refine lv_iinc (v := 0) (lv' := [(8, .int 0), (4, .int be_427), (9, .int r_438), (7, .int (-1)), (6, .int (nI q6_248)), (5, .int (nI q5_1)), (3, .int (nI (dn sn))), (0, .ref (a 0)), (1, .int (nI sn)), (2, .int p1)]) hx hb dX8_leastAll_153 hl (k := 2) rfl (by decide) (by decide) rfl (fun ls hl => ?_)
                              refine lv_goto (tgt := 75) hx hb dX8_leastAll_156 (by decide) ?_
                              exact ih_427 _ (1, be_427) _ _ _ (by omega) ⟨rfl, (by omega), hP, hS, (by rw [nI_pred]; exact lv_sub hl [0, 3, 4, 5, 1, 6, 7, 8, 9] rfl)⟩
                            · refine lv_iload hx hb dX8_leastAll_132 (lv_at hl 5 rfl) ?_
                              refine lv_if_lt (tgt := 144) hx hb dX8_leastAll_134 (by decide) (fun c_440 => ?_) (fun c_440 => ?_)
                              · refine lv_iload hx hb dX8_leastAll_144 (lv_at hl 0 rfl) ?_
                                refine lv_goto (tgt := 151) hx hb dX8_leastAll_146 (by decide) ?_
                                refine lv_istore (lv' := [(4, .int r_438), (9, .int r_438), (8, .int (-1)), (7, .int (-1)), (6, .int (nI q6_248)), (5, .int (nI q5_1)), (3, .int (nI (dn sn))), (0, .ref (a 0)), (1, .int (nI sn)), (2, .int p1)]) hx hb dX8_leastAll_151 hl (by decide) rfl (fun ls hl => ?_)
                                refine lv_iinc (v := 0) (lv' := [(8, .int 0), (4, .int r_438), (9, .int r_438), (7, .int (-1)), (6, .int (nI q6_248)), (5, .int (nI q5_1)), (3, .int (nI (dn sn))), (0, .ref (a 0)), (1, .int (nI sn)), (2, .int p1)]) hx hb dX8_leastAll_153 hl (k := 2) rfl (by decide) (by decide) rfl (fun ls hl => ?_)
                                refine lv_goto (tgt := 75) hx hb dX8_leastAll_156 (by decide) ?_
                                exact ih_427 _ (1, r_438) _ _ _ (by omega) ⟨rfl, (by omega), hP, hS, (by rw [nI_pred]; exact lv_sub hl [0, 3, 4, 5, 1, 6, 7, 8, 9] rfl)⟩
                              · refine lv_iload hx hb dX8_leastAll_137 (lv_at hl 0 rfl) ?_
                                refine lv_iload hx hb dX8_leastAll_139 (lv_at hl 5 rfl) ?_
                                refine lv_icmp_ge (tgt := 149) hx hb dX8_leastAll_141 (by decide) (fun c_441 => ?_) (fun c_441 => ?_)
                                · refine lv_iload hx hb dX8_leastAll_149 (lv_at hl 5 rfl) ?_
                                  refine lv_istore (lv' := [(4, .int be_427), (9, .int r_438), (8, .int (-1)), (7, .int (-1)), (6, .int (nI q6_248)), (5, .int (nI q5_1)), (3, .int (nI (dn sn))), (0, .ref (a 0)), (1, .int (nI sn)), (2, .int p1)]) hx hb dX8_leastAll_151 hl (by decide) rfl (fun ls hl => ?_)
                                  refine lv_iinc (v := 0) (lv' := [(8, .int 0), (4, .int be_427), (9, .int r_438), (7, .int (-1)), (6, .int (nI q6_248)), (5, .int (nI q5_1)), (3, .int (nI (dn sn))), (0, .ref (a 0)), (1, .int (nI sn)), (2, .int p1)]) hx hb dX8_leastAll_153 hl (k := 2) rfl (by decide) (by decide) rfl (fun ls hl => ?_)
                                  refine lv_goto (tgt := 75) hx hb dX8_leastAll_156 (by decide) ?_
                                  exact ih_427 _ (1, be_427) _ _ _ (by omega) ⟨rfl, (by omega), hP, hS, (by rw [nI_pred]; exact lv_sub hl [0, 3, 4, 5, 1, 6, 7, 8, 9] rfl)⟩
                                · refine lv_iload hx hb dX8_leastAll_144 (lv_at hl 0 rfl) ?_
                                  refine lv_goto (tgt := 151) hx hb dX8_leastAll_146 (by decide) ?_
                                  refine lv_istore (lv' := [(4, .int r_438), (9, .int r_438), (8, .int (-1)), (7, .int (-1)), (6, .int (nI q6_248)), (5, .int (nI q5_1)), (3, .int (nI (dn sn))), (0, .ref (a 0)), (1, .int (nI sn)), (2, .int p1)]) hx hb dX8_leastAll_151 hl (by decide) rfl (fun ls hl => ?_)
                                  refine lv_iinc (v := 0) (lv' := [(8, .int 0), (4, .int r_438), (9, .int r_438), (7, .int (-1)), (6, .int (nI q6_248)), (5, .int (nI q5_1)), (3, .int (nI (dn sn))), (0, .ref (a 0)), (1, .int (nI sn)), (2, .int p1)]) hx hb dX8_leastAll_153 hl (k := 2) rfl (by decide) (by decide) rfl (fun ls hl => ?_)
                                  refine lv_goto (tgt := 75) hx hb dX8_leastAll_156 (by decide) ?_
                                  exact ih_427 _ (1, r_438) _ _ _ (by omega) ⟨rfl, (by omega), hP, hS, (by rw [nI_pred]; exact lv_sub hl [0, 3, 4, 5, 1, 6, 7, 8, 9] rfl)⟩
                    · rw [nI_pred] at hl
                      refine lv_iload hx hb dX8_leastAll_75 (lv_at hl 0 rfl) ?_
                      refine lv_aload_n hx hb dX8_leastAll_77 rfl (lv_at hl 6 rfl) ?_
                      refine va_get (D := D) (ci := 8) (v := .int (nI ca)) (C := RX8) (T := TX8) (N := 44) hx hb hts inX8 hown hK hP 0 rfl rfl 34 (by decide) (hts _ tw_1007) (fun _ h9 => h9) rfl dX8_leastAll_78 ?_
                      refine lv_iconst (v := 3) hx hb dX8_leastAll_81 (by decide) ?_
                      refine lv_icmp_le (tgt := 89) hx hb dX8_leastAll_82 (by decide) (fun c_442 => ?_) (fun c_442 => ?_)
                      · have c_442 := (nI_leI (a := ca) (b := 3) (by omega) (by omega)).mp c_442
                        refine lv_iconst (v := 0) hx hb dX8_leastAll_89 (by decide) ?_
                        refine lv_icmp_ge (tgt := 159) hx hb dX8_leastAll_90 (by decide) (fun _ => ?_) (fun h => absurd (nI_ge0 (by omega)) h)
                        refine lv_iinc (v := 0) (lv' := [(7, .int 0), (8, .int (nI q8_427)), (6, .int (nI q6_248)), (5, .int (nI q5_1)), (4, .int be_427), (3, .int (nI (dn sn))), (0, .ref (a 0)), (1, .int (nI sn)), (2, .int p1)]) hx hb dX8_leastAll_159 hl (k := 1) rfl (by decide) (by decide) rfl (fun ls hl => ?_)
                        refine lv_goto (tgt := 54) hx hb dX8_leastAll_162 (by decide) ?_
                        exact ih_401 _ (1, be_427) _ _ _ (by omega) ⟨rfl, (by omega), hP, hS, (by rw [nI_pred]; exact lv_sub hl [0, 2, 3, 4, 5, 6, 7, 8] rfl)⟩
                      · have c_442 : ¬ (ca ≤ 3) := fun h => c_442 ((nI_leI (a := ca) (b := 3) (by omega) (by omega)).mpr h)
                        refine lv_iload_n hx hb dX8_leastAll_85 rfl (lv_at hl 5 rfl) ?_
                        refine lv_goto (tgt := 90) hx hb dX8_leastAll_86 (by decide) ?_
                        refine lv_icmp_ge (tgt := 159) hx hb dX8_leastAll_90 (by decide) (fun c_443 => ?_) (fun c_443 => ?_)
                        · have c_443 := (nI_leI (a := (dn sn)) (b := q8_427) (by omega) (by omega)).mp c_443
                          refine lv_iinc (v := 0) (lv' := [(7, .int 0), (8, .int (nI q8_427)), (6, .int (nI q6_248)), (5, .int (nI q5_1)), (4, .int be_427), (3, .int (nI (dn sn))), (0, .ref (a 0)), (1, .int (nI sn)), (2, .int p1)]) hx hb dX8_leastAll_159 hl (k := 1) rfl (by decide) (by decide) rfl (fun ls hl => ?_)
                          refine lv_goto (tgt := 54) hx hb dX8_leastAll_162 (by decide) ?_
                          exact ih_401 _ (1, be_427) _ _ _ (by omega) ⟨rfl, (by omega), hP, hS, (by rw [nI_pred]; exact lv_sub hl [0, 2, 3, 4, 5, 6, 7, 8] rfl)⟩
                        · have c_443 : ¬ ((dn sn) ≤ q8_427) := fun h => c_443 ((nI_leI (a := (dn sn)) (b := q8_427) (by omega) (by omega)).mpr h)
                          refine lv_iload_n hx hb dX8_leastAll_93 rfl (lv_at hl 8 rfl) ?_
                          refine lv_iload hx hb dX8_leastAll_94 (lv_at hl 3 rfl) ?_
                          refine lv_iload hx hb dX8_leastAll_96 (lv_at hl 2 rfl) ?_
                          refine lv_iload hx hb dX8_leastAll_98 (lv_at hl 1 rfl) ?_
                          refine lv_iload hx hb dX8_leastAll_100 (lv_at hl 0 rfl) ?_
                          refine ro_i (D := D) (va_runS (As := [.int p1, .int (nI q5_1), .int (nI q6_248), .int (-1), .int (nI q8_427)]) (rest := []) ⟨hx, hb, hml, hown, hts⟩ ((m_canAll l D k st lo p1 (nI q5_1) (nI q6_248) (-1) (nI q8_427)) H.size) (va_cwS 5 hts (gS tw_1450 tw_1451 tw_87 tw_1452) rfl rfl rfl (by decide +kernel) ⟨Nat.le_of_ble_eq_true rfl, Nat.le_of_ble_eq_true rfl⟩) (pS hS hAlo hlo hP hK hDL hZ [] (by decide) rfl) rfl rfl hl.1 rfl (lv_room (Nat.le_of_ble_eq_true rfl)) dX8_leastAll_102 ⟨Nat.le_of_ble_eq_true rfl, Nat.le_of_ble_eq_true rfl⟩) hS hA hP (fun r_444 H locs hw_444 hP hS => ?_)
                          try dsimp only at hw_444
                          refine lv_if_eq (tgt := 124) hx hb dX8_leastAll_105 (by decide) (fun c_445 => ?_) (fun c_445 => ?_)
                          · refine lv_iconst (v := (-1)) hx hb dX8_leastAll_124 (by decide) ?_
                            refine lv_istore (lv' := [(9, .int (-1)), (8, .int (nI q8_427)), (7, .int (-1)), (6, .int (nI q6_248)), (5, .int (nI q5_1)), (4, .int be_427), (3, .int (nI (dn sn))), (0, .ref (a 0)), (1, .int (nI sn)), (2, .int p1)]) hx hb dX8_leastAll_125 hl (by decide) rfl (fun ls hl => ?_)
                            refine lv_iload hx hb dX8_leastAll_127 (lv_at hl 0 rfl) ?_
                            refine lv_if_lt (tgt := 149) hx hb dX8_leastAll_129 (by decide) (fun _ => ?_) (fun h => absurd (by decide) h)
                            refine lv_iload hx hb dX8_leastAll_149 (lv_at hl 5 rfl) ?_
                            refine lv_istore (lv' := [(4, .int be_427), (9, .int (-1)), (8, .int (nI q8_427)), (7, .int (-1)), (6, .int (nI q6_248)), (5, .int (nI q5_1)), (3, .int (nI (dn sn))), (0, .ref (a 0)), (1, .int (nI sn)), (2, .int p1)]) hx hb dX8_leastAll_151 hl (by decide) rfl (fun ls hl => ?_)
                            refine lv_iinc (v := (nI (q8_427 + 1))) (lv' := [(8, .int (nI (q8_427 + 1))), (4, .int be_427), (9, .int (-1)), (7, .int (-1)), (6, .int (nI q6_248)), (5, .int (nI q5_1)), (3, .int (nI (dn sn))), (0, .ref (a 0)), (1, .int (nI sn)), (2, .int p1)]) hx hb dX8_leastAll_153 hl (k := 2) rfl (nI_add q8_427 1) (by decide) rfl (fun ls hl => ?_)
                            refine lv_goto (tgt := 75) hx hb dX8_leastAll_156 (by decide) ?_
                            exact ih_427 _ (q8_427 + 1 + 1, be_427) _ _ _ (by omega) ⟨rfl, (by omega), hP, hS, (by rw [nI_pred]; exact lv_sub hl [0, 3, 4, 5, 1, 6, 7, 8, 9] rfl)⟩
                          · refine lv_aload_n hx hb dX8_leastAll_108 rfl (lv_at hl 6 rfl) ?_
                            refine lv_iload_n hx hb dX8_leastAll_109 rfl (lv_at hl 7 rfl) ?_
                            refine lv_iload hx hb dX8_leastAll_110 (lv_at hl 3 rfl) ?_
                            refine lv_iload hx hb dX8_leastAll_112 (lv_at hl 2 rfl) ?_
                            refine lv_iload hx hb dX8_leastAll_114 (lv_at hl 1 rfl) ?_
                            refine lv_iload hx hb dX8_leastAll_116 (lv_at hl 0 rfl) ?_
                            refine ro_i (D := D) (va_runV (As := [.int (nI sn), .int (nI q5_1), .int (nI q6_248), .int (-1), .int (nI q8_427)]) (rest := []) ⟨hx, hb, hml, hown, hts⟩ ((m_sumAll l D k st lo a tx t0 we rd ru rw ca fp wd nu na ts df db sd dn se tm gs fprices fwalks sn (nI q5_1) (nI q6_248) (-1) (nI q8_427) (by omega) (by omega) (.inr ⟨q5_1, by omega, rfl⟩) (.inr ⟨q6_248, by omega, rfl⟩) (.inl (by decide)) (.inr ⟨q8_427, by omega, rfl⟩)) H.size) (cwV 5 hts (gV tw_1459 tw_1461 tw_75 tw_87 tw_1462) rfl rfl rfl (by decide +kernel) ⟨Nat.le_of_ble_eq_true rfl, Nat.le_of_ble_eq_true rfl⟩) (pV hS hAlo hlo hP hK hDL hZ [0, 1, 2, 3, 4] (by decide) rfl (ci := 8) (q := (RX8, TX8, 44)) (q0 := 0) rfl rfl) rfl rfl hl.1 rfl (lv_room (Nat.le_of_ble_eq_true rfl)) dX8_leastAll_118 ⟨Nat.le_of_ble_eq_true rfl, Nat.le_of_ble_eq_true rfl⟩) hS hA hP (fun r_446 H locs hw_446 hP hS => ?_)
                            try dsimp only at hw_446
                            refine lv_goto (tgt := 125) hx hb dX8_leastAll_121 (by decide) ?_
                            refine lv_istore (lv' := [(9, .int r_446), (8, .int (nI q8_427)), (7, .int (-1)), (6, .int (nI q6_248)), (5, .int (nI q5_1)), (4, .int be_427), (3, .int (nI (dn sn))), (0, .ref (a 0)), (1, .int (nI sn)), (2, .int p1)]) hx hb dX8_leastAll_125 hl (by decide) rfl (fun ls hl => ?_)
                            refine lv_iload hx hb dX8_leastAll_127 (lv_at hl 0 rfl) ?_
                            refine lv_if_lt (tgt := 149) hx hb dX8_leastAll_129 (by decide) (fun c_447 => ?_) (fun c_447 => ?_)
                            · refine lv_iload hx hb dX8_leastAll_149 (lv_at hl 5 rfl) ?_
                              refine lv_istore (lv' := [(4, .int be_427), (9, .int r_446), (8, .int (nI q8_427)), (7, .int (-1)), (6, .int (nI q6_248)), (5, .int (nI q5_1)), (3, .int (nI (dn sn))), (0, .ref (a 0)), (1, .int (nI sn)), (2, .int p1)]) hx hb dX8_leastAll_151 hl (by decide) rfl (fun ls hl => ?_)
                              refine lv_iinc (v := (nI (q8_427 + 1))) (lv' := [(8, .int (nI (q8_427 + 1))), (4, .int be_427), (9, .int r_446), (7, .int (-1)), (6, .int (nI q6_248)), (5, .int (nI q5_1)), (3, .int (nI (dn sn))), (0, .ref (a 0)), (1, .int (nI sn)), (2, .int p1)]) hx hb dX8_leastAll_153 hl (k := 2) rfl (nI_add q8_427 1) (by decide) rfl (fun ls hl => ?_)
                              refine lv_goto (tgt := 75) hx hb dX8_leastAll_156 (by decide) ?_
                              exact ih_427 _ (q8_427 + 1 + 1, be_427) _ _ _ (by omega) ⟨rfl, (by omega), hP, hS, (by rw [nI_pred]; exact lv_sub hl [0, 3, 4, 5, 1, 6, 7, 8, 9] rfl)⟩
                            · refine lv_iload hx hb dX8_leastAll_132 (lv_at hl 5 rfl) ?_
                              refine lv_if_lt (tgt := 144) hx hb dX8_leastAll_134 (by decide) (fun c_448 => ?_) (fun c_448 => ?_)
                              · refine lv_iload hx hb dX8_leastAll_144 (lv_at hl 0 rfl) ?_
                                refine lv_goto (tgt := 151) hx hb dX8_leastAll_146 (by decide) ?_
                                refine lv_istore (lv' := [(4, .int r_446), (9, .int r_446), (8, .int (nI q8_427)), (7, .int (-1)), (6, .int (nI q6_248)), (5, .int (nI q5_1)), (3, .int (nI (dn sn))), (0, .ref (a 0)), (1, .int (nI sn)), (2, .int p1)]) hx hb dX8_leastAll_151 hl (by decide) rfl (fun ls hl => ?_)
                                refine lv_iinc (v := (nI (q8_427 + 1))) (lv' := [(8, .int (nI (q8_427 + 1))), (4, .int r_446), (9, .int r_446), (7, .int (-1)), (6, .int (nI q6_248)), (5, .int (nI q5_1)), (3, .int (nI (dn sn))), (0, .ref (a 0)), (1, .int (nI sn)), (2, .int p1)]) hx hb dX8_leastAll_153 hl (k := 2) rfl (nI_add q8_427 1) (by decide) rfl (fun ls hl => ?_)
                                refine lv_goto (tgt := 75) hx hb dX8_leastAll_156 (by decide) ?_
                                exact ih_427 _ (q8_427 + 1 + 1, r_446) _ _ _ (by omega) ⟨rfl, (by omega), hP, hS, (by rw [nI_pred]; exact lv_sub hl [0, 3, 4, 5, 1, 6, 7, 8, 9] rfl)⟩
                              · refine lv_iload hx hb dX8_leastAll_137 (lv_at hl 0 rfl) ?_
                                refine lv_iload hx hb dX8_leastAll_139 (lv_at hl 5 rfl) ?_
                                refine lv_icmp_ge (tgt := 149) hx hb dX8_leastAll_141 (by decide) (fun c_449 => ?_) (fun c_449 => ?_)
                                · refine lv_iload hx hb dX8_leastAll_149 (lv_at hl 5 rfl) ?_
                                  refine lv_istore (lv' := [(4, .int be_427), (9, .int r_446), (8, .int (nI q8_427)), (7, .int (-1)), (6, .int (nI q6_248)), (5, .int (nI q5_1)), (3, .int (nI (dn sn))), (0, .ref (a 0)), (1, .int (nI sn)), (2, .int p1)]) hx hb dX8_leastAll_151 hl (by decide) rfl (fun ls hl => ?_)
                                  refine lv_iinc (v := (nI (q8_427 + 1))) (lv' := [(8, .int (nI (q8_427 + 1))), (4, .int be_427), (9, .int r_446), (7, .int (-1)), (6, .int (nI q6_248)), (5, .int (nI q5_1)), (3, .int (nI (dn sn))), (0, .ref (a 0)), (1, .int (nI sn)), (2, .int p1)]) hx hb dX8_leastAll_153 hl (k := 2) rfl (nI_add q8_427 1) (by decide) rfl (fun ls hl => ?_)
                                  refine lv_goto (tgt := 75) hx hb dX8_leastAll_156 (by decide) ?_
                                  exact ih_427 _ (q8_427 + 1 + 1, be_427) _ _ _ (by omega) ⟨rfl, (by omega), hP, hS, (by rw [nI_pred]; exact lv_sub hl [0, 3, 4, 5, 1, 6, 7, 8, 9] rfl)⟩
                                · refine lv_iload hx hb dX8_leastAll_144 (lv_at hl 0 rfl) ?_
                                  refine lv_goto (tgt := 151) hx hb dX8_leastAll_146 (by decide) ?_
                                  refine lv_istore (lv' := [(4, .int r_446), (9, .int r_446), (8, .int (nI q8_427)), (7, .int (-1)), (6, .int (nI q6_248)), (5, .int (nI q5_1)), (3, .int (nI (dn sn))), (0, .ref (a 0)), (1, .int (nI sn)), (2, .int p1)]) hx hb dX8_leastAll_151 hl (by decide) rfl (fun ls hl => ?_)
                                  refine lv_iinc (v := (nI (q8_427 + 1))) (lv' := [(8, .int (nI (q8_427 + 1))), (4, .int r_446), (9, .int r_446), (7, .int (-1)), (6, .int (nI q6_248)), (5, .int (nI q5_1)), (3, .int (nI (dn sn))), (0, .ref (a 0)), (1, .int (nI sn)), (2, .int p1)]) hx hb dX8_leastAll_153 hl (k := 2) rfl (nI_add q8_427 1) (by decide) rfl (fun ls hl => ?_)
                                  refine lv_goto (tgt := 75) hx hb dX8_leastAll_156 (by decide) ?_
                                  exact ih_427 _ (q8_427 + 1 + 1, r_446) _ _ _ (by omega) ⟨rfl, (by omega), hP, hS, (by rw [nI_pred]; exact lv_sub hl [0, 3, 4, 5, 1, 6, 7, 8, 9] rfl)⟩
              · rw [nI_pred] at hl
                refine lv_iload hx hb dX8_leastAll_54 (lv_at hl 0 rfl) ?_
                refine lv_aload_n hx hb dX8_leastAll_56 rfl (lv_at hl 5 rfl) ?_
                refine va_get (D := D) (ci := 8) (v := .int (nI ca)) (C := RX8) (T := TX8) (N := 44) hx hb hts inX8 hown hK hP 0 rfl rfl 34 (by decide) (hts _ tw_1007) (fun _ h9 => h9) rfl dX8_leastAll_57 ?_
                refine lv_iconst (v := 2) hx hb dX8_leastAll_60 (by decide) ?_
                refine lv_icmp_le (tgt := 68) hx hb dX8_leastAll_61 (by decide) (fun c_450 => ?_) (fun c_450 => ?_)
                · have c_450 := (nI_leI (a := ca) (b := 2) (by omega) (by omega)).mp c_450
                  refine lv_iconst (v := 0) hx hb dX8_leastAll_68 (by decide) ?_
                  refine lv_icmp_ge (tgt := 165) hx hb dX8_leastAll_69 (by decide) (fun _ => ?_) (fun h => absurd (nI_ge0 (by omega)) h)
                  refine lv_iinc (v := (nI (q6_248 + 1))) (lv' := [(6, .int (nI (q6_248 + 1))), (7, .int (nI q7_401)), (5, .int (nI q5_1)), (4, .int be_401), (3, .int (nI (dn sn))), (0, .ref (a 0)), (1, .int (nI sn)), (2, .int p1)]) hx hb dX8_leastAll_165 hl (k := 1) rfl (nI_add q6_248 1) (by decide) rfl (fun ls hl => ?_)
                  refine lv_goto (tgt := 33) hx hb dX8_leastAll_168 (by decide) ?_
                  exact ih_248 _ (q6_248 + 1 + 1, be_401) _ _ _ (by omega) ⟨rfl, (by omega), hP, hS, (by rw [nI_pred]; exact lv_sub hl [0, 2, 3, 4, 5, 6, 7] rfl)⟩
                · have c_450 : ¬ (ca ≤ 2) := fun h => c_450 ((nI_leI (a := ca) (b := 2) (by omega) (by omega)).mpr h)
                  refine lv_iload_n hx hb dX8_leastAll_64 rfl (lv_at hl 4 rfl) ?_
                  refine lv_goto (tgt := 69) hx hb dX8_leastAll_65 (by decide) ?_
                  refine lv_icmp_ge (tgt := 165) hx hb dX8_leastAll_69 (by decide) (fun c_451 => ?_) (fun c_451 => ?_)
                  · have c_451 := (nI_leI (a := (dn sn)) (b := q7_401) (by omega) (by omega)).mp c_451
                    refine lv_iinc (v := (nI (q6_248 + 1))) (lv' := [(6, .int (nI (q6_248 + 1))), (7, .int (nI q7_401)), (5, .int (nI q5_1)), (4, .int be_401), (3, .int (nI (dn sn))), (0, .ref (a 0)), (1, .int (nI sn)), (2, .int p1)]) hx hb dX8_leastAll_165 hl (k := 1) rfl (nI_add q6_248 1) (by decide) rfl (fun ls hl => ?_)
                    refine lv_goto (tgt := 33) hx hb dX8_leastAll_168 (by decide) ?_
                    exact ih_248 _ (q6_248 + 1 + 1, be_401) _ _ _ (by omega) ⟨rfl, (by omega), hP, hS, (by rw [nI_pred]; exact lv_sub hl [0, 2, 3, 4, 5, 6, 7] rfl)⟩
                  · have c_451 : ¬ ((dn sn) ≤ q7_401) := fun h => c_451 ((nI_leI (a := (dn sn)) (b := q7_401) (by omega) (by omega)).mpr h)
                    refine lv_iconst (v := (-1)) hx hb dX8_leastAll_72 (by decide) ?_
                    refine lv_istore (lv' := [(8, .int (-1)), (7, .int (nI q7_401)), (6, .int (nI q6_248)), (5, .int (nI q5_1)), (4, .int be_401), (3, .int (nI (dn sn))), (0, .ref (a 0)), (1, .int (nI sn)), (2, .int p1)]) hx hb dX8_leastAll_73 hl (by decide) rfl (fun ls hl => ?_)
                    refine W_loop (σ := Nat × Int32) (fun (n_ : Nat) (x_ : Nat × Int32) (H : Heap) (locs : List Loc) (ls : Array Slot) => match x_ with | (q8_452, be_452) => n_ = 26 - q8_452 ∧ (q8_452 ≤ 25) ∧ va_P D classes [((a 0), .inr (8, (fX8 a (nI tx) fp (nI t0) wd (nI we) nu na (nI rd) ts (nI ru) (nI rw) (nI ca) df db sd))), (aI k (a 1) 3 (nF dn)), (aI k (a 4) 27 (sg se tm gs)), (aI k (a 3) 72 fprices), (aI k (a 36) 4 fwalks)] H ∧ va_S (fun q : Nat => s.heap.size ≤ q) s.heap H locs ∧ lv_has ls 10 [(8, .int (nI q8_452 - 1)), (7, .int (nI q7_401)), (6, .int (nI q6_248)), (5, .int (nI q5_1)), (4, .int be_452), (3, .int (nI (dn sn))), (0, .ref (a 0)), (1, .int (nI sn)), (2, .int p1)]) (fun n_452 x_452 H locs ls hI ih_452 => ?_) _ (0, be_401) ⟨rfl, (by omega), hP, hS, (by rw [dn0]; exact lv_sub hl [0, 1, 2, 3, 4, 5, 6, 7, 8] rfl)⟩
                    obtain ⟨q8_452, be_452⟩ := x_452
                    obtain ⟨hm_452, hv_452, hP, hS, hl⟩ := hI
                    subst hm_452
                    rcases q8_452 with _ | q8_452
                    · rw [dn0] at hl
                      refine lv_iload hx hb dX8_leastAll_75 (lv_at hl 0 rfl) ?_
                      refine lv_aload_n hx hb dX8_leastAll_77 rfl (lv_at hl 6 rfl) ?_
                      refine va_get (D := D) (ci := 8) (v := .int (nI ca)) (C := RX8) (T := TX8) (N := 44) hx hb hts inX8 hown hK hP 0 rfl rfl 34 (by decide) (hts _ tw_1007) (fun _ h9 => h9) rfl dX8_leastAll_78 ?_
                      refine lv_iconst (v := 3) hx hb dX8_leastAll_81 (by decide) ?_
                      refine lv_icmp_le (tgt := 89) hx hb dX8_leastAll_82 (by decide) (fun c_453 => ?_) (fun c_453 => ?_)
                      · have c_453 := (nI_leI (a := ca) (b := 3) (by omega) (by omega)).mp c_453
                        refine lv_iconst (v := 0) hx hb dX8_leastAll_89 (by decide) ?_
                        refine lv_icmp_ge (tgt := 159) hx hb dX8_leastAll_90 (by decide) (fun h => absurd h (by decide)) (fun _ => ?_)
                        refine lv_iload_n hx hb dX8_leastAll_93 rfl (lv_at hl 8 rfl) ?_
                        refine lv_iload hx hb dX8_leastAll_94 (lv_at hl 3 rfl) ?_
                        refine lv_iload hx hb dX8_leastAll_96 (lv_at hl 2 rfl) ?_
                        refine lv_iload hx hb dX8_leastAll_98 (lv_at hl 1 rfl) ?_
                        refine lv_iload hx hb dX8_leastAll_100 (lv_at hl 0 rfl) ?_
                        refine ro_i (D := D) (va_runS (As := [.int p1, .int (nI q5_1), .int (nI q6_248), .int (nI q7_401), .int (-1)]) (rest := []) ⟨hx, hb, hml, hown, hts⟩ ((m_canAll l D k st lo p1 (nI q5_1) (nI q6_248) (nI q7_401) (-1)) H.size) (va_cwS 5 hts (gS tw_1450 tw_1451 tw_87 tw_1452) rfl rfl rfl (by decide +kernel) ⟨Nat.le_of_ble_eq_true rfl, Nat.le_of_ble_eq_true rfl⟩) (pS hS hAlo hlo hP hK hDL hZ [] (by decide) rfl) rfl rfl hl.1 rfl (lv_room (Nat.le_of_ble_eq_true rfl)) dX8_leastAll_102 ⟨Nat.le_of_ble_eq_true rfl, Nat.le_of_ble_eq_true rfl⟩) hS hA hP (fun r_454 H locs hw_454 hP hS => ?_)
                        try dsimp only at hw_454
                        refine lv_if_eq (tgt := 124) hx hb dX8_leastAll_105 (by decide) (fun c_455 => ?_) (fun c_455 => ?_)
                        · refine lv_iconst (v := (-1)) hx hb dX8_leastAll_124 (by decide) ?_
                          refine lv_istore (lv' := [(9, .int (-1)), (8, .int (-1)), (7, .int (nI q7_401)), (6, .int (nI q6_248)), (5, .int (nI q5_1)), (4, .int be_452), (3, .int (nI (dn sn))), (0, .ref (a 0)), (1, .int (nI sn)), (2, .int p1)]) hx hb dX8_leastAll_125 hl (by decide) rfl (fun ls hl => ?_)
                          refine lv_iload hx hb dX8_leastAll_127 (lv_at hl 0 rfl) ?_
                          refine lv_if_lt (tgt := 149) hx hb dX8_leastAll_129 (by decide) (fun _ => ?_) (fun h => absurd (by decide) h)
                          refine lv_iload hx hb dX8_leastAll_149 (lv_at hl 5 rfl) ?_
                          refine lv_istore (lv' := [(4, .int be_452), (9, .int (-1)), (8, .int (-1)), (7, .int (nI q7_401)), (6, .int (nI q6_248)), (5, .int (nI q5_1)), (3, .int (nI (dn sn))), (0, .ref (a 0)), (1, .int (nI sn)), (2, .int p1)]) hx hb dX8_leastAll_151 hl (by decide) rfl (fun ls hl => ?_)
                          refine lv_iinc (v := 0) (lv' := [(8, .int 0), (4, .int be_452), (9, .int (-1)), (7, .int (nI q7_401)), (6, .int (nI q6_248)), (5, .int (nI q5_1)), (3, .int (nI (dn sn))), (0, .ref (a 0)), (1, .int (nI sn)), (2, .int p1)]) hx hb dX8_leastAll_153 hl (k := 2) rfl (by decide) (by decide) rfl (fun ls hl => ?_)
                          refine lv_goto (tgt := 75) hx hb dX8_leastAll_156 (by decide) ?_
                          exact ih_452 _ (1, be_452) _ _ _ (by omega) ⟨rfl, (by omega), hP, hS, (by rw [nI_pred]; exact lv_sub hl [0, 3, 4, 5, 1, 6, 7, 8, 9] rfl)⟩
                        · refine lv_aload_n hx hb dX8_leastAll_108 rfl (lv_at hl 6 rfl) ?_
                          refine lv_iload_n hx hb dX8_leastAll_109 rfl (lv_at hl 7 rfl) ?_
                          refine lv_iload hx hb dX8_leastAll_110 (lv_at hl 3 rfl) ?_
                          refine lv_iload hx hb dX8_leastAll_112 (lv_at hl 2 rfl) ?_
                          refine lv_iload hx hb dX8_leastAll_114 (lv_at hl 1 rfl) ?_
                          refine lv_iload hx hb dX8_leastAll_116 (lv_at hl 0 rfl) ?_
                          refine ro_i (D := D) (va_runV (As := [.int (nI sn), .int (nI q5_1), .int (nI q6_248), .int (nI q7_401), .int (-1)]) (rest := []) ⟨hx, hb, hml, hown, hts⟩ ((m_sumAll l D k st lo a tx t0 we rd ru rw ca fp wd nu na ts df db sd dn se tm gs fprices fwalks sn (nI q5_1) (nI q6_248) (nI q7_401) (-1) (by omega) (by omega) (.inr ⟨q5_1, by omega, rfl⟩) (.inr ⟨q6_248, by omega, rfl⟩) (.inr ⟨q7_401, by omega, rfl⟩) (.inl (by decide))) H.size) (cwV 5 hts (gV tw_1459 tw_1461 tw_75 tw_87 tw_1462) rfl rfl rfl (by decide +kernel) ⟨Nat.le_of_ble_eq_true rfl, Nat.le_of_ble_eq_true rfl⟩) (pV hS hAlo hlo hP hK hDL hZ [0, 1, 2, 3, 4] (by decide) rfl (ci := 8) (q := (RX8, TX8, 44)) (q0 := 0) rfl rfl) rfl rfl hl.1 rfl (lv_room (Nat.le_of_ble_eq_true rfl)) dX8_leastAll_118 ⟨Nat.le_of_ble_eq_true rfl, Nat.le_of_ble_eq_true rfl⟩) hS hA hP (fun r_456 H locs hw_456 hP hS => ?_)
                          try dsimp only at hw_456
                          refine lv_goto (tgt := 125) hx hb dX8_leastAll_121 (by decide) ?_
                          refine lv_istore (lv' := [(9, .int r_456), (8, .int (-1)), (7, .int (nI q7_401)), (6, .int (nI q6_248)), (5, .int (nI q5_1)), (4, .int be_452), (3, .int (nI (dn sn))), (0, .ref (a 0)), (1, .int (nI sn)), (2, .int p1)]) hx hb dX8_leastAll_125 hl (by decide) rfl (fun ls hl => ?_)
                          refine lv_iload hx hb dX8_leastAll_127 (lv_at hl 0 rfl) ?_
                          refine lv_if_lt (tgt := 149) hx hb dX8_leastAll_129 (by decide) (fun c_457 => ?_) (fun c_457 => ?_)
                          · refine lv_iload hx hb dX8_leastAll_149 (lv_at hl 5 rfl) ?_
                            refine lv_istore (lv' := [(4, .int be_452), (9, .int r_456), (8, .int (-1)), (7, .int (nI q7_401)), (6, .int (nI q6_248)), (5, .int (nI q5_1)), (3, .int (nI (dn sn))), (0, .ref (a 0)), (1, .int (nI sn)), (2, .int p1)]) hx hb dX8_leastAll_151 hl (by decide) rfl (fun ls hl => ?_)
                            refine lv_iinc (v := 0) (lv' := [(8, .int 0), (4, .int be_452), (9, .int r_456), (7, .int (nI q7_401)), (6, .int (nI q6_248)), (5, .int (nI q5_1)), (3, .int (nI (dn sn))), (0, .ref (a 0)), (1, .int (nI sn)), (2, .int p1)]) hx hb dX8_leastAll_153 hl (k := 2) rfl (by decide) (by decide) rfl (fun ls hl => ?_)
                            refine lv_goto (tgt := 75) hx hb dX8_leastAll_156 (by decide) ?_
                            exact ih_452 _ (1, be_452) _ _ _ (by omega) ⟨rfl, (by omega), hP, hS, (by rw [nI_pred]; exact lv_sub hl [0, 3, 4, 5, 1, 6, 7, 8, 9] rfl)⟩
                          · refine lv_iload hx hb dX8_leastAll_132 (lv_at hl 5 rfl) ?_
                            refine lv_if_lt (tgt := 144) hx hb dX8_leastAll_134 (by decide) (fun c_458 => ?_) (fun c_458 => ?_)
                            · refine lv_iload hx hb dX8_leastAll_144 (lv_at hl 0 rfl) ?_
                              refine lv_goto (tgt := 151) hx hb dX8_leastAll_146 (by decide) ?_
                              refine lv_istore (lv' := [(4, .int r_456), (9, .int r_456), (8, .int (-1)), (7, .int (nI q7_401)), (6, .int (nI q6_248)), (5, .int (nI q5_1)), (3, .int (nI (dn sn))), (0, .ref (a 0)), (1, .int (nI sn)), (2, .int p1)]) hx hb dX8_leastAll_151 hl (by decide) rfl (fun ls hl => ?_)
                              refine lv_iinc (v := 0) (lv' := [(8, .int 0), (4, .int r_456), (9, .int r_456), (7, .int (nI q7_401)), (6, .int (nI q6_248)), (5, .int (nI q5_1)), (3, .int (nI (dn sn))), (0, .ref (a 0)), (1, .int (nI sn)), (2, .int p1)]) hx hb dX8_leastAll_153 hl (k := 2) rfl (by decide) (by decide) rfl (fun ls hl => ?_)
                              refine lv_goto (tgt := 75) hx hb dX8_leastAll_156 (by decide) ?_
                              exact ih_452 _ (1, r_456) _ _ _ (by omega) ⟨rfl, (by omega), hP, hS, (by rw [nI_pred]; exact lv_sub hl [0, 3, 4, 5, 1, 6, 7, 8, 9] rfl)⟩
                            · refine lv_iload hx hb dX8_leastAll_137 (lv_at hl 0 rfl) ?_
                              refine lv_iload hx hb dX8_leastAll_139 (lv_at hl 5 rfl) ?_
                              refine lv_icmp_ge (tgt := 149) hx hb dX8_leastAll_141 (by decide) (fun c_459 => ?_) (fun c_459 => ?_)
                              · refine lv_iload hx hb dX8_leastAll_149 (lv_at hl 5 rfl) ?_
                                refine lv_istore (lv' := [(4, .int be_452), (9, .int r_456), (8, .int (-1)), (7, .int (nI q7_401)), (6, .int (nI q6_248)), (5, .int (nI q5_1)), (3, .int (nI (dn sn))), (0, .ref (a 0)), (1, .int (nI sn)), (2, .int p1)]) hx hb dX8_leastAll_151 hl (by decide) rfl (fun ls hl => ?_)
                                refine lv_iinc (v := 0) (lv' := [(8, .int 0), (4, .int be_452), (9, .int r_456), (7, .int (nI q7_401)), (6, .int (nI q6_248)), (5, .int (nI q5_1)), (3, .int (nI (dn sn))), (0, .ref (a 0)), (1, .int (nI sn)), (2, .int p1)]) hx hb dX8_leastAll_153 hl (k := 2) rfl (by decide) (by decide) rfl (fun ls hl => ?_)
                                refine lv_goto (tgt := 75) hx hb dX8_leastAll_156 (by decide) ?_
                                exact ih_452 _ (1, be_452) _ _ _ (by omega) ⟨rfl, (by omega), hP, hS, (by rw [nI_pred]; exact lv_sub hl [0, 3, 4, 5, 1, 6, 7, 8, 9] rfl)⟩
                              · refine lv_iload hx hb dX8_leastAll_144 (lv_at hl 0 rfl) ?_
                                refine lv_goto (tgt := 151) hx hb dX8_leastAll_146 (by decide) ?_
                                refine lv_istore (lv' := [(4, .int r_456), (9, .int r_456), (8, .int (-1)), (7, .int (nI q7_401)), (6, .int (nI q6_248)), (5, .int (nI q5_1)), (3, .int (nI (dn sn))), (0, .ref (a 0)), (1, .int (nI sn)), (2, .int p1)]) hx hb dX8_leastAll_151 hl (by decide) rfl (fun ls hl => ?_)
                                refine lv_iinc (v := 0) (lv' := [(8, .int 0), (4, .int r_456), (9, .int r_456), (7, .int (nI q7_401)), (6, .int (nI q6_248)), (5, .int (nI q5_1)), (3, .int (nI (dn sn))), (0, .ref (a 0)), (1, .int (nI sn)), (2, .int p1)]) hx hb dX8_leastAll_153 hl (k := 2) rfl (by decide) (by decide) rfl (fun ls hl => ?_)
                                refine lv_goto (tgt := 75) hx hb dX8_leastAll_156 (by decide) ?_
                                exact ih_452 _ (1, r_456) _ _ _ (by omega) ⟨rfl, (by omega), hP, hS, (by rw [nI_pred]; exact lv_sub hl [0, 3, 4, 5, 1, 6, 7, 8, 9] rfl)⟩
                      · have c_453 : ¬ (ca ≤ 3) := fun h => c_453 ((nI_leI (a := ca) (b := 3) (by omega) (by omega)).mpr h)
                        refine lv_iload_n hx hb dX8_leastAll_85 rfl (lv_at hl 5 rfl) ?_
                        refine lv_goto (tgt := 90) hx hb dX8_leastAll_86 (by decide) ?_
                        refine lv_icmp_ge (tgt := 159) hx hb dX8_leastAll_90 (by decide) (fun c_460 => ?_) (fun c_460 => ?_)
                        · refine lv_iinc (v := (nI (q7_401 + 1))) (lv' := [(7, .int (nI (q7_401 + 1))), (8, .int (-1)), (6, .int (nI q6_248)), (5, .int (nI q5_1)), (4, .int be_452), (3, .int (nI (dn sn))), (0, .ref (a 0)), (1, .int (nI sn)), (2, .int p1)]) hx hb dX8_leastAll_159 hl (k := 1) rfl (nI_add q7_401 1) (by decide) rfl (fun ls hl => ?_)
                          refine lv_goto (tgt := 54) hx hb dX8_leastAll_162 (by decide) ?_
                          exact ih_401 _ (q7_401 + 1 + 1, be_452) _ _ _ (by omega) ⟨rfl, (by omega), hP, hS, (by rw [nI_pred]; exact lv_sub hl [0, 2, 3, 4, 5, 6, 7, 8] rfl)⟩
                        · refine lv_iload_n hx hb dX8_leastAll_93 rfl (lv_at hl 8 rfl) ?_
                          refine lv_iload hx hb dX8_leastAll_94 (lv_at hl 3 rfl) ?_
                          refine lv_iload hx hb dX8_leastAll_96 (lv_at hl 2 rfl) ?_
                          refine lv_iload hx hb dX8_leastAll_98 (lv_at hl 1 rfl) ?_
                          refine lv_iload hx hb dX8_leastAll_100 (lv_at hl 0 rfl) ?_
                          refine ro_i (D := D) (va_runS (As := [.int p1, .int (nI q5_1), .int (nI q6_248), .int (nI q7_401), .int (-1)]) (rest := []) ⟨hx, hb, hml, hown, hts⟩ ((m_canAll l D k st lo p1 (nI q5_1) (nI q6_248) (nI q7_401) (-1)) H.size) (va_cwS 5 hts (gS tw_1450 tw_1451 tw_87 tw_1452) rfl rfl rfl (by decide +kernel) ⟨Nat.le_of_ble_eq_true rfl, Nat.le_of_ble_eq_true rfl⟩) (pS hS hAlo hlo hP hK hDL hZ [] (by decide) rfl) rfl rfl hl.1 rfl (lv_room (Nat.le_of_ble_eq_true rfl)) dX8_leastAll_102 ⟨Nat.le_of_ble_eq_true rfl, Nat.le_of_ble_eq_true rfl⟩) hS hA hP (fun r_461 H locs hw_461 hP hS => ?_)
                          try dsimp only at hw_461
                          refine lv_if_eq (tgt := 124) hx hb dX8_leastAll_105 (by decide) (fun c_462 => ?_) (fun c_462 => ?_)
                          · refine lv_iconst (v := (-1)) hx hb dX8_leastAll_124 (by decide) ?_
                            refine lv_istore (lv' := [(9, .int (-1)), (8, .int (-1)), (7, .int (nI q7_401)), (6, .int (nI q6_248)), (5, .int (nI q5_1)), (4, .int be_452), (3, .int (nI (dn sn))), (0, .ref (a 0)), (1, .int (nI sn)), (2, .int p1)]) hx hb dX8_leastAll_125 hl (by decide) rfl (fun ls hl => ?_)
                            refine lv_iload hx hb dX8_leastAll_127 (lv_at hl 0 rfl) ?_
                            refine lv_if_lt (tgt := 149) hx hb dX8_leastAll_129 (by decide) (fun _ => ?_) (fun h => absurd (by decide) h)
                            refine lv_iload hx hb dX8_leastAll_149 (lv_at hl 5 rfl) ?_
                            refine lv_istore (lv' := [(4, .int be_452), (9, .int (-1)), (8, .int (-1)), (7, .int (nI q7_401)), (6, .int (nI q6_248)), (5, .int (nI q5_1)), (3, .int (nI (dn sn))), (0, .ref (a 0)), (1, .int (nI sn)), (2, .int p1)]) hx hb dX8_leastAll_151 hl (by decide) rfl (fun ls hl => ?_)
                            refine lv_iinc (v := 0) (lv' := [(8, .int 0), (4, .int be_452), (9, .int (-1)), (7, .int (nI q7_401)), (6, .int (nI q6_248)), (5, .int (nI q5_1)), (3, .int (nI (dn sn))), (0, .ref (a 0)), (1, .int (nI sn)), (2, .int p1)]) hx hb dX8_leastAll_153 hl (k := 2) rfl (by decide) (by decide) rfl (fun ls hl => ?_)
                            refine lv_goto (tgt := 75) hx hb dX8_leastAll_156 (by decide) ?_
                            exact ih_452 _ (1, be_452) _ _ _ (by omega) ⟨rfl, (by omega), hP, hS, (by rw [nI_pred]; exact lv_sub hl [0, 3, 4, 5, 1, 6, 7, 8, 9] rfl)⟩
                          · refine lv_aload_n hx hb dX8_leastAll_108 rfl (lv_at hl 6 rfl) ?_
                            refine lv_iload_n hx hb dX8_leastAll_109 rfl (lv_at hl 7 rfl) ?_
                            refine lv_iload hx hb dX8_leastAll_110 (lv_at hl 3 rfl) ?_
                            refine lv_iload hx hb dX8_leastAll_112 (lv_at hl 2 rfl) ?_
                            refine lv_iload hx hb dX8_leastAll_114 (lv_at hl 1 rfl) ?_
                            refine lv_iload hx hb dX8_leastAll_116 (lv_at hl 0 rfl) ?_
                            refine ro_i (D := D) (va_runV (As := [.int (nI sn), .int (nI q5_1), .int (nI q6_248), .int (nI q7_401), .int (-1)]) (rest := []) ⟨hx, hb, hml, hown, hts⟩ ((m_sumAll l D k st lo a tx t0 we rd ru rw ca fp wd nu na ts df db sd dn se tm gs fprices fwalks sn (nI q5_1) (nI q6_248) (nI q7_401) (-1) (by omega) (by omega) (.inr ⟨q5_1, by omega, rfl⟩) (.inr ⟨q6_248, by omega, rfl⟩) (.inr ⟨q7_401, by omega, rfl⟩) (.inl (by decide))) H.size) (cwV 5 hts (gV tw_1459 tw_1461 tw_75 tw_87 tw_1462) rfl rfl rfl (by decide +kernel) ⟨Nat.le_of_ble_eq_true rfl, Nat.le_of_ble_eq_true rfl⟩) (pV hS hAlo hlo hP hK hDL hZ [0, 1, 2, 3, 4] (by decide) rfl (ci := 8) (q := (RX8, TX8, 44)) (q0 := 0) rfl rfl) rfl rfl hl.1 rfl (lv_room (Nat.le_of_ble_eq_true rfl)) dX8_leastAll_118 ⟨Nat.le_of_ble_eq_true rfl, Nat.le_of_ble_eq_true rfl⟩) hS hA hP (fun r_463 H locs hw_463 hP hS => ?_)
                            try dsimp only at hw_463
                            refine lv_goto (tgt := 125) hx hb dX8_leastAll_121 (by decide) ?_
                            refine lv_istore (lv' := [(9, .int r_463), (8, .int (-1)), (7, .int (nI q7_401)), (6, .int (nI q6_248)), (5, .int (nI q5_1)), (4, .int be_452), (3, .int (nI (dn sn))), (0, .ref (a 0)), (1, .int (nI sn)), (2, .int p1)]) hx hb dX8_leastAll_125 hl (by decide) rfl (fun ls hl => ?_)
                            refine lv_iload hx hb dX8_leastAll_127 (lv_at hl 0 rfl) ?_
                            refine lv_if_lt (tgt := 149) hx hb dX8_leastAll_129 (by decide) (fun c_464 => ?_) (fun c_464 => ?_)
                            · refine lv_iload hx hb dX8_leastAll_149 (lv_at hl 5 rfl) ?_
                              refine lv_istore (lv' := [(4, .int be_452), (9, .int r_463), (8, .int (-1)), (7, .int (nI q7_401)), (6, .int (nI q6_248)), (5, .int (nI q5_1)), (3, .int (nI (dn sn))), (0, .ref (a 0)), (1, .int (nI sn)), (2, .int p1)]) hx hb dX8_leastAll_151 hl (by decide) rfl (fun ls hl => ?_)
                              refine lv_iinc (v := 0) (lv' := [(8, .int 0), (4, .int be_452), (9, .int r_463), (7, .int (nI q7_401)), (6, .int (nI q6_248)), (5, .int (nI q5_1)), (3, .int (nI (dn sn))), (0, .ref (a 0)), (1, .int (nI sn)), (2, .int p1)]) hx hb dX8_leastAll_153 hl (k := 2) rfl (by decide) (by decide) rfl (fun ls hl => ?_)
                              refine lv_goto (tgt := 75) hx hb dX8_leastAll_156 (by decide) ?_
                              exact ih_452 _ (1, be_452) _ _ _ (by omega) ⟨rfl, (by omega), hP, hS, (by rw [nI_pred]; exact lv_sub hl [0, 3, 4, 5, 1, 6, 7, 8, 9] rfl)⟩
                            · refine lv_iload hx hb dX8_leastAll_132 (lv_at hl 5 rfl) ?_
                              refine lv_if_lt (tgt := 144) hx hb dX8_leastAll_134 (by decide) (fun c_465 => ?_) (fun c_465 => ?_)
                              · refine lv_iload hx hb dX8_leastAll_144 (lv_at hl 0 rfl) ?_
                                refine lv_goto (tgt := 151) hx hb dX8_leastAll_146 (by decide) ?_
                                refine lv_istore (lv' := [(4, .int r_463), (9, .int r_463), (8, .int (-1)), (7, .int (nI q7_401)), (6, .int (nI q6_248)), (5, .int (nI q5_1)), (3, .int (nI (dn sn))), (0, .ref (a 0)), (1, .int (nI sn)), (2, .int p1)]) hx hb dX8_leastAll_151 hl (by decide) rfl (fun ls hl => ?_)
                                refine lv_iinc (v := 0) (lv' := [(8, .int 0), (4, .int r_463), (9, .int r_463), (7, .int (nI q7_401)), (6, .int (nI q6_248)), (5, .int (nI q5_1)), (3, .int (nI (dn sn))), (0, .ref (a 0)), (1, .int (nI sn)), (2, .int p1)]) hx hb dX8_leastAll_153 hl (k := 2) rfl (by decide) (by decide) rfl (fun ls hl => ?_)
                                refine lv_goto (tgt := 75) hx hb dX8_leastAll_156 (by decide) ?_
                                exact ih_452 _ (1, r_463) _ _ _ (by omega) ⟨rfl, (by omega), hP, hS, (by rw [nI_pred]; exact lv_sub hl [0, 3, 4, 5, 1, 6, 7, 8, 9] rfl)⟩
                              · refine lv_iload hx hb dX8_leastAll_137 (lv_at hl 0 rfl) ?_
                                refine lv_iload hx hb dX8_leastAll_139 (lv_at hl 5 rfl) ?_
                                refine lv_icmp_ge (tgt := 149) hx hb dX8_leastAll_141 (by decide) (fun c_466 => ?_) (fun c_466 => ?_)
                                · refine lv_iload hx hb dX8_leastAll_149 (lv_at hl 5 rfl) ?_
                                  refine lv_istore (lv' := [(4, .int be_452), (9, .int r_463), (8, .int (-1)), (7, .int (nI q7_401)), (6, .int (nI q6_248)), (5, .int (nI q5_1)), (3, .int (nI (dn sn))), (0, .ref (a 0)), (1, .int (nI sn)), (2, .int p1)]) hx hb dX8_leastAll_151 hl (by decide) rfl (fun ls hl => ?_)
                                  refine lv_iinc (v := 0) (lv' := [(8, .int 0), (4, .int be_452), (9, .int r_463), (7, .int (nI q7_401)), (6, .int (nI q6_248)), (5, .int (nI q5_1)), (3, .int (nI (dn sn))), (0, .ref (a 0)), (1, .int (nI sn)), (2, .int p1)]) hx hb dX8_leastAll_153 hl (k := 2) rfl (by decide) (by decide) rfl (fun ls hl => ?_)
                                  refine lv_goto (tgt := 75) hx hb dX8_leastAll_156 (by decide) ?_
                                  exact ih_452 _ (1, be_452) _ _ _ (by omega) ⟨rfl, (by omega), hP, hS, (by rw [nI_pred]; exact lv_sub hl [0, 3, 4, 5, 1, 6, 7, 8, 9] rfl)⟩
                                · refine lv_iload hx hb dX8_leastAll_144 (lv_at hl 0 rfl) ?_
                                  refine lv_goto (tgt := 151) hx hb dX8_leastAll_146 (by decide) ?_
                                  refine lv_istore (lv' := [(4, .int r_463), (9, .int r_463), (8, .int (-1)), (7, .int (nI q7_401)), (6, .int (nI q6_248)), (5, .int (nI q5_1)), (3, .int (nI (dn sn))), (0, .ref (a 0)), (1, .int (nI sn)), (2, .int p1)]) hx hb dX8_leastAll_151 hl (by decide) rfl (fun ls hl => ?_)
                                  refine lv_iinc (v := 0) (lv' := [(8, .int 0), (4, .int r_463), (9, .int r_463), (7, .int (nI q7_401)), (6, .int (nI q6_248)), (5, .int (nI q5_1)), (3, .int (nI (dn sn))), (0, .ref (a 0)), (1, .int (nI sn)), (2, .int p1)]) hx hb dX8_leastAll_153 hl (k := 2) rfl (by decide) (by decide) rfl (fun ls hl => ?_)
                                  refine lv_goto (tgt := 75) hx hb dX8_leastAll_156 (by decide) ?_
                                  exact ih_452 _ (1, r_463) _ _ _ (by omega) ⟨rfl, (by omega), hP, hS, (by rw [nI_pred]; exact lv_sub hl [0, 3, 4, 5, 1, 6, 7, 8, 9] rfl)⟩
                    · rw [nI_pred] at hl
                      refine lv_iload hx hb dX8_leastAll_75 (lv_at hl 0 rfl) ?_
                      refine lv_aload_n hx hb dX8_leastAll_77 rfl (lv_at hl 6 rfl) ?_
                      refine va_get (D := D) (ci := 8) (v := .int (nI ca)) (C := RX8) (T := TX8) (N := 44) hx hb hts inX8 hown hK hP 0 rfl rfl 34 (by decide) (hts _ tw_1007) (fun _ h9 => h9) rfl dX8_leastAll_78 ?_
                      refine lv_iconst (v := 3) hx hb dX8_leastAll_81 (by decide) ?_
                      refine lv_icmp_le (tgt := 89) hx hb dX8_leastAll_82 (by decide) (fun c_467 => ?_) (fun c_467 => ?_)
                      · have c_467 := (nI_leI (a := ca) (b := 3) (by omega) (by omega)).mp c_467
                        refine lv_iconst (v := 0) hx hb dX8_leastAll_89 (by decide) ?_
                        refine lv_icmp_ge (tgt := 159) hx hb dX8_leastAll_90 (by decide) (fun _ => ?_) (fun h => absurd (nI_ge0 (by omega)) h)
                        refine lv_iinc (v := (nI (q7_401 + 1))) (lv' := [(7, .int (nI (q7_401 + 1))), (8, .int (nI q8_452)), (6, .int (nI q6_248)), (5, .int (nI q5_1)), (4, .int be_452), (3, .int (nI (dn sn))), (0, .ref (a 0)), (1, .int (nI sn)), (2, .int p1)]) hx hb dX8_leastAll_159 hl (k := 1) rfl (nI_add q7_401 1) (by decide) rfl (fun ls hl => ?_)
                        refine lv_goto (tgt := 54) hx hb dX8_leastAll_162 (by decide) ?_
                        exact ih_401 _ (q7_401 + 1 + 1, be_452) _ _ _ (by omega) ⟨rfl, (by omega), hP, hS, (by rw [nI_pred]; exact lv_sub hl [0, 2, 3, 4, 5, 6, 7, 8] rfl)⟩
                      · have c_467 : ¬ (ca ≤ 3) := fun h => c_467 ((nI_leI (a := ca) (b := 3) (by omega) (by omega)).mpr h)
                        refine lv_iload_n hx hb dX8_leastAll_85 rfl (lv_at hl 5 rfl) ?_
                        refine lv_goto (tgt := 90) hx hb dX8_leastAll_86 (by decide) ?_
                        refine lv_icmp_ge (tgt := 159) hx hb dX8_leastAll_90 (by decide) (fun c_468 => ?_) (fun c_468 => ?_)
                        · have c_468 := (nI_leI (a := (dn sn)) (b := q8_452) (by omega) (by omega)).mp c_468
                          refine lv_iinc (v := (nI (q7_401 + 1))) (lv' := [(7, .int (nI (q7_401 + 1))), (8, .int (nI q8_452)), (6, .int (nI q6_248)), (5, .int (nI q5_1)), (4, .int be_452), (3, .int (nI (dn sn))), (0, .ref (a 0)), (1, .int (nI sn)), (2, .int p1)]) hx hb dX8_leastAll_159 hl (k := 1) rfl (nI_add q7_401 1) (by decide) rfl (fun ls hl => ?_)
                          refine lv_goto (tgt := 54) hx hb dX8_leastAll_162 (by decide) ?_
                          exact ih_401 _ (q7_401 + 1 + 1, be_452) _ _ _ (by omega) ⟨rfl, (by omega), hP, hS, (by rw [nI_pred]; exact lv_sub hl [0, 2, 3, 4, 5, 6, 7, 8] rfl)⟩
                        · have c_468 : ¬ ((dn sn) ≤ q8_452) := fun h => c_468 ((nI_leI (a := (dn sn)) (b := q8_452) (by omega) (by omega)).mpr h)
                          refine lv_iload_n hx hb dX8_leastAll_93 rfl (lv_at hl 8 rfl) ?_
                          refine lv_iload hx hb dX8_leastAll_94 (lv_at hl 3 rfl) ?_
                          refine lv_iload hx hb dX8_leastAll_96 (lv_at hl 2 rfl) ?_
                          refine lv_iload hx hb dX8_leastAll_98 (lv_at hl 1 rfl) ?_
                          refine lv_iload hx hb dX8_leastAll_100 (lv_at hl 0 rfl) ?_
                          refine ro_i (D := D) (va_runS (As := [.int p1, .int (nI q5_1), .int (nI q6_248), .int (nI q7_401), .int (nI q8_452)]) (rest := []) ⟨hx, hb, hml, hown, hts⟩ ((m_canAll l D k st lo p1 (nI q5_1) (nI q6_248) (nI q7_401) (nI q8_452)) H.size) (va_cwS 5 hts (gS tw_1450 tw_1451 tw_87 tw_1452) rfl rfl rfl (by decide +kernel) ⟨Nat.le_of_ble_eq_true rfl, Nat.le_of_ble_eq_true rfl⟩) (pS hS hAlo hlo hP hK hDL hZ [] (by decide) rfl) rfl rfl hl.1 rfl (lv_room (Nat.le_of_ble_eq_true rfl)) dX8_leastAll_102 ⟨Nat.le_of_ble_eq_true rfl, Nat.le_of_ble_eq_true rfl⟩) hS hA hP (fun r_469 H locs hw_469 hP hS => ?_)
                          try dsimp only at hw_469
                          refine lv_if_eq (tgt := 124) hx hb dX8_leastAll_105 (by decide) (fun c_470 => ?_) (fun c_470 => ?_)
                          · refine lv_iconst (v := (-1)) hx hb dX8_leastAll_124 (by decide) ?_
                            refine lv_istore (lv' := [(9, .int (-1)), (8, .int (nI q8_452)), (7, .int (nI q7_401)), (6, .int (nI q6_248)), (5, .int (nI q5_1)), (4, .int be_452), (3, .int (nI (dn sn))), (0, .ref (a 0)), (1, .int (nI sn)), (2, .int p1)]) hx hb dX8_leastAll_125 hl (by decide) rfl (fun ls hl => ?_)
                            refine lv_iload hx hb dX8_leastAll_127 (lv_at hl 0 rfl) ?_
                            refine lv_if_lt (tgt := 149) hx hb dX8_leastAll_129 (by decide) (fun _ => ?_) (fun h => absurd (by decide) h)
                            refine lv_iload hx hb dX8_leastAll_149 (lv_at hl 5 rfl) ?_
                            refine lv_istore (lv' := [(4, .int be_452), (9, .int (-1)), (8, .int (nI q8_452)), (7, .int (nI q7_401)), (6, .int (nI q6_248)), (5, .int (nI q5_1)), (3, .int (nI (dn sn))), (0, .ref (a 0)), (1, .int (nI sn)), (2, .int p1)]) hx hb dX8_leastAll_151 hl (by decide) rfl (fun ls hl => ?_)
                            refine lv_iinc (v := (nI (q8_452 + 1))) (lv' := [(8, .int (nI (q8_452 + 1))), (4, .int be_452), (9, .int (-1)), (7, .int (nI q7_401)), (6, .int (nI q6_248)), (5, .int (nI q5_1)), (3, .int (nI (dn sn))), (0, .ref (a 0)), (1, .int (nI sn)), (2, .int p1)]) hx hb dX8_leastAll_153 hl (k := 2) rfl (nI_add q8_452 1) (by decide) rfl (fun ls hl => ?_)
                            refine lv_goto (tgt := 75) hx hb dX8_leastAll_156 (by decide) ?_
                            exact ih_452 _ (q8_452 + 1 + 1, be_452) _ _ _ (by omega) ⟨rfl, (by omega), hP, hS, (by rw [nI_pred]; exact lv_sub hl [0, 3, 4, 5, 1, 6, 7, 8, 9] rfl)⟩
                          · refine lv_aload_n hx hb dX8_leastAll_108 rfl (lv_at hl 6 rfl) ?_
                            refine lv_iload_n hx hb dX8_leastAll_109 rfl (lv_at hl 7 rfl) ?_
                            refine lv_iload hx hb dX8_leastAll_110 (lv_at hl 3 rfl) ?_
                            refine lv_iload hx hb dX8_leastAll_112 (lv_at hl 2 rfl) ?_
                            refine lv_iload hx hb dX8_leastAll_114 (lv_at hl 1 rfl) ?_
                            refine lv_iload hx hb dX8_leastAll_116 (lv_at hl 0 rfl) ?_
                            refine ro_i (D := D) (va_runV (As := [.int (nI sn), .int (nI q5_1), .int (nI q6_248), .int (nI q7_401), .int (nI q8_452)]) (rest := []) ⟨hx, hb, hml, hown, hts⟩ ((m_sumAll l D k st lo a tx t0 we rd ru rw ca fp wd nu na ts df db sd dn se tm gs fprices fwalks sn (nI q5_1) (nI q6_248) (nI q7_401) (nI q8_452) (by omega) (by omega) (.inr ⟨q5_1, by omega, rfl⟩) (.inr ⟨q6_248, by omega, rfl⟩) (.inr ⟨q7_401, by omega, rfl⟩) (.inr ⟨q8_452, by omega, rfl⟩)) H.size) (cwV 5 hts (gV tw_1459 tw_1461 tw_75 tw_87 tw_1462) rfl rfl rfl (by decide +kernel) ⟨Nat.le_of_ble_eq_true rfl, Nat.le_of_ble_eq_true rfl⟩) (pV hS hAlo hlo hP hK hDL hZ [0, 1, 2, 3, 4] (by decide) rfl (ci := 8) (q := (RX8, TX8, 44)) (q0 := 0) rfl rfl) rfl rfl hl.1 rfl (lv_room (Nat.le_of_ble_eq_true rfl)) dX8_leastAll_118 ⟨Nat.le_of_ble_eq_true rfl, Nat.le_of_ble_eq_true rfl⟩) hS hA hP (fun r_471 H locs hw_471 hP hS => ?_)
                            try dsimp only at hw_471
                            refine lv_goto (tgt := 125) hx hb dX8_leastAll_121 (by decide) ?_
                            refine lv_istore (lv' := [(9, .int r_471), (8, .int (nI q8_452)), (7, .int (nI q7_401)), (6, .int (nI q6_248)), (5, .int (nI q5_1)), (4, .int be_452), (3, .int (nI (dn sn))), (0, .ref (a 0)), (1, .int (nI sn)), (2, .int p1)]) hx hb dX8_leastAll_125 hl (by decide) rfl (fun ls hl => ?_)
                            refine lv_iload hx hb dX8_leastAll_127 (lv_at hl 0 rfl) ?_
                            refine lv_if_lt (tgt := 149) hx hb dX8_leastAll_129 (by decide) (fun c_472 => ?_) (fun c_472 => ?_)
                            · refine lv_iload hx hb dX8_leastAll_149 (lv_at hl 5 rfl) ?_
                              refine lv_istore (lv' := [(4, .int be_452), (9, .int r_471), (8, .int (nI q8_452)), (7, .int (nI q7_401)), (6, .int (nI q6_248)), (5, .int (nI q5_1)), (3, .int (nI (dn sn))), (0, .ref (a 0)), (1, .int (nI sn)), (2, .int p1)]) hx hb dX8_leastAll_151 hl (by decide) rfl (fun ls hl => ?_)
                              refine lv_iinc (v := (nI (q8_452 + 1))) (lv' := [(8, .int (nI (q8_452 + 1))), (4, .int be_452), (9, .int r_471), (7, .int (nI q7_401)), (6, .int (nI q6_248)), (5, .int (nI q5_1)), (3, .int (nI (dn sn))), (0, .ref (a 0)), (1, .int (nI sn)), (2, .int p1)]) hx hb dX8_leastAll_153 hl (k := 2) rfl (nI_add q8_452 1) (by decide) rfl (fun ls hl => ?_)
                              refine lv_goto (tgt := 75) hx hb dX8_leastAll_156 (by decide) ?_
                              exact ih_452 _ (q8_452 + 1 + 1, be_452) _ _ _ (by omega) ⟨rfl, (by omega), hP, hS, (by rw [nI_pred]; exact lv_sub hl [0, 3, 4, 5, 1, 6, 7, 8, 9] rfl)⟩
                            · refine lv_iload hx hb dX8_leastAll_132 (lv_at hl 5 rfl) ?_
                              refine lv_if_lt (tgt := 144) hx hb dX8_leastAll_134 (by decide) (fun c_473 => ?_) (fun c_473 => ?_)
                              · refine lv_iload hx hb dX8_leastAll_144 (lv_at hl 0 rfl) ?_
                                refine lv_goto (tgt := 151) hx hb dX8_leastAll_146 (by decide) ?_
                                refine lv_istore (lv' := [(4, .int r_471), (9, .int r_471), (8, .int (nI q8_452)), (7, .int (nI q7_401)), (6, .int (nI q6_248)), (5, .int (nI q5_1)), (3, .int (nI (dn sn))), (0, .ref (a 0)), (1, .int (nI sn)), (2, .int p1)]) hx hb dX8_leastAll_151 hl (by decide) rfl (fun ls hl => ?_)
                                refine lv_iinc (v := (nI (q8_452 + 1))) (lv' := [(8, .int (nI (q8_452 + 1))), (4, .int r_471), (9, .int r_471), (7, .int (nI q7_401)), (6, .int (nI q6_248)), (5, .int (nI q5_1)), (3, .int (nI (dn sn))), (0, .ref (a 0)), (1, .int (nI sn)), (2, .int p1)]) hx hb dX8_leastAll_153 hl (k := 2) rfl (nI_add q8_452 1) (by decide) rfl (fun ls hl => ?_)
                                refine lv_goto (tgt := 75) hx hb dX8_leastAll_156 (by decide) ?_
                                exact ih_452 _ (q8_452 + 1 + 1, r_471) _ _ _ (by omega) ⟨rfl, (by omega), hP, hS, (by rw [nI_pred]; exact lv_sub hl [0, 3, 4, 5, 1, 6, 7, 8, 9] rfl)⟩
                              · refine lv_iload hx hb dX8_leastAll_137 (lv_at hl 0 rfl) ?_
                                refine lv_iload hx hb dX8_leastAll_139 (lv_at hl 5 rfl) ?_
                                refine lv_icmp_ge (tgt := 149) hx hb dX8_leastAll_141 (by decide) (fun c_474 => ?_) (fun c_474 => ?_)
                                · refine lv_iload hx hb dX8_leastAll_149 (lv_at hl 5 rfl) ?_
                                  refine lv_istore (lv' := [(4, .int be_452), (9, .int r_471), (8, .int (nI q8_452)), (7, .int (nI q7_401)), (6, .int (nI q6_248)), (5, .int (nI q5_1)), (3, .int (nI (dn sn))), (0, .ref (a 0)), (1, .int (nI sn)), (2, .int p1)]) hx hb dX8_leastAll_151 hl (by decide) rfl (fun ls hl => ?_)
                                  refine lv_iinc (v := (nI (q8_452 + 1))) (lv' := [(8, .int (nI (q8_452 + 1))), (4, .int be_452), (9, .int r_471), (7, .int (nI q7_401)), (6, .int (nI q6_248)), (5, .int (nI q5_1)), (3, .int (nI (dn sn))), (0, .ref (a 0)), (1, .int (nI sn)), (2, .int p1)]) hx hb dX8_leastAll_153 hl (k := 2) rfl (nI_add q8_452 1) (by decide) rfl (fun ls hl => ?_)
                                  refine lv_goto (tgt := 75) hx hb dX8_leastAll_156 (by decide) ?_
                                  exact ih_452 _ (q8_452 + 1 + 1, be_452) _ _ _ (by omega) ⟨rfl, (by omega), hP, hS, (by rw [nI_pred]; exact lv_sub hl [0, 3, 4, 5, 1, 6, 7, 8, 9] rfl)⟩
                                · refine lv_iload hx hb dX8_leastAll_144 (lv_at hl 0 rfl) ?_
                                  refine lv_goto (tgt := 151) hx hb dX8_leastAll_146 (by decide) ?_
                                  refine lv_istore (lv' := [(4, .int r_471), (9, .int r_471), (8, .int (nI q8_452)), (7, .int (nI q7_401)), (6, .int (nI q6_248)), (5, .int (nI q5_1)), (3, .int (nI (dn sn))), (0, .ref (a 0)), (1, .int (nI sn)), (2, .int p1)]) hx hb dX8_leastAll_151 hl (by decide) rfl (fun ls hl => ?_)
                                  refine lv_iinc (v := (nI (q8_452 + 1))) (lv' := [(8, .int (nI (q8_452 + 1))), (4, .int r_471), (9, .int r_471), (7, .int (nI q7_401)), (6, .int (nI q6_248)), (5, .int (nI q5_1)), (3, .int (nI (dn sn))), (0, .ref (a 0)), (1, .int (nI sn)), (2, .int p1)]) hx hb dX8_leastAll_153 hl (k := 2) rfl (nI_add q8_452 1) (by decide) rfl (fun ls hl => ?_)
                                  refine lv_goto (tgt := 75) hx hb dX8_leastAll_156 (by decide) ?_
                                  exact ih_452 _ (q8_452 + 1 + 1, r_471) _ _ _ (by omega) ⟨rfl, (by omega), hP, hS, (by rw [nI_pred]; exact lv_sub hl [0, 3, 4, 5, 1, 6, 7, 8, 9] rfl)⟩


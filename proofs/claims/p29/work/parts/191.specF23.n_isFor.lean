
set_option maxHeartbeats 4000000 in
set_option maxRecDepth 100000 in
theorem n_isFor (l : Launch) (D : va_G) (k : Nat → ClassId) (st : Nat → Nat) (lo : Nat) (a : Nat → Nat) (tx : Nat) (t0 : Nat) (we : Nat) (rd : Nat) (ru : Nat) (rw : Nat) (ca : Nat) (fp : Int32) (wd : Int64) (nu : Int32) (na : Int32) (ts : Int32) (df : Int32) (db : Int32) (sd : Int32) (bm : Nat → Nat) (fbarSeen : Nat → Int32) (fbarFrom : Nat → Int32) (fruleRounds : Nat → Int32) (kr : Nat) (i : Nat) (pq : Nat) (hbm : ∀ j, bm j ≤ 12) (hk : kr < 4) : CRi l D k st lo yX8_isFor cX8_isFor 6 (some .boolean) ({ frames := 0, cells := 0, slots := 0, locals := 0 }) [.ref (a 0), .int (nI kr), .int (nI i), .int (nI pq)] [((a 0), .inr (8, (fX8 a (nI tx) fp (nI t0) wd (nI we) nu na (nI rd) ts (nI ru) (nI rw) (nI ca) df db sd))), (aI k (a 25) 4 (nF bm)), (aI k (a 26) 48 fbarSeen), (aI k (a 27) 48 fbarFrom), (aI k (a 28) 4 fruleRounds)] (fun r => (r = 1 ∧ pBar (ruM bm fbarSeen fbarFrom fruleRounds kr) pq ≤ nI i) ∨ (r = 0 ∧ ¬ pBar (ruM bm fbarSeen fbarFrom fruleRounds kr) pq ≤ nI i)) := by
  intro sz
  refine Met.ofW (cc := cX8_isFor) (maxL := 6) (ret := (some .boolean)) (by decide) rfl ?_
  intro p e s m args below meth c s₁ B hml hv
  obtain ⟨rfl, hsz, hlo, hP, hK, hDL, hZ⟩ := hv
  have hx := B.exec
  have hb := B.bytes
  have hr := B.returns
  have hts := WS_ts B.pre
  have hown : s.vm.findClass RX8 = some m.cls := findClass_of_methodNamed B.named
  have hlocks := B.notSynchronized
  subst hsz
  have hA : ∀ q : Nat, s.heap.size ≤ q → (fun q : Nat => s.heap.size ≤ q) q := fun _ h => h
  have hAlo : ∀ q : Nat, (fun q : Nat => s.heap.size ≤ q) q → lo ≤ q := fun q h => Nat.le_trans hlo h
  have hS : va_S (fun q : Nat => s.heap.size ≤ q) s.heap s.heap [] := va_S.rf
  have hl := lv_entry ([.ref (a 0), .int (nI kr), .int (nI i), .int (nI pq)]) (n := 6) (Nat.le_of_ble_eq_true rfl)
  rw [lg_entry_eq]
  generalize (lg_sl ([.ref (a 0), .int (nI kr), .int (nI i), .int (nI pq)]) ++ List.replicate (6 - (lg_sl ([.ref (a 0), .int (nI kr), .int (nI i), .int (nI pq)])).length) Slot.unset).toArray = ls at hl ⊢
  have hl : lv_has ls 6 [(0, .ref (a 0)), (1, .int (nI kr)), (2, .int (nI i)), (3, .int (nI pq))] := hl
  have hb_9 := hbm kr
  refine lv_aload_n hx hb dX8_isFor_0 rfl (lv_at hl 0 rfl) ?_
  refine va_get (D := D) (ci := 8) (v := .ref (a 27)) (C := RX8) (T := TX8) (N := 44) hx hb hts inX8 hown hK hP 0 rfl rfl 26 (by decide) (hts _ tw_999) (fun _ h9 => h9) rfl dX8_isFor_1 ?_
  refine lv_bipush (v := 12) hx hb dX8_isFor_4 (by decide) ?_
  refine lv_iload_n hx hb dX8_isFor_6 rfl (lv_at hl 1 rfl) ?_
  refine lv_imul hx hb dX8_isFor_7 ?_
  refine lv_ti (y := (nI (12 * kr))) (pk_mul 12 kr) ?_
  refine va_iald hx hb hK hP 3 1 rfl rfl (vp_in_nI (by omega) (by decide)) dX8_isFor_8 ?_
  refine lv_ti (y := (fbarFrom (12 * kr))) (by rw [nI_clamp (by omega)]) ?_
  refine lv_istore (lv' := [(4, .int (fbarFrom (12 * kr))), (0, .ref (a 0)), (1, .int (nI kr)), (2, .int (nI i)), (3, .int (nI pq))]) hx hb dX8_isFor_9 hl (by decide) rfl (fun ls hl => ?_)
  refine lv_iconst (v := 1) hx hb dX8_isFor_11 (by decide) ?_
  refine lv_istore (lv' := [(5, .int 1), (4, .int (fbarFrom (12 * kr))), (0, .ref (a 0)), (1, .int (nI kr)), (2, .int (nI i)), (3, .int (nI pq))]) hx hb dX8_isFor_12 hl (by decide) rfl (fun ls hl => ?_)
  refine W_loop (σ := Nat × Int32) (fun (n_ : Nat) (x_ : Nat × Int32) (H : Heap) (locs : List Loc) (ls : Array Slot) => match x_ with | (k2_1, fr2_1) => n_ = 13 - k2_1 ∧ (1 ≤ k2_1 ∧ (k2_1 ≤ bm kr ∨ k2_1 = 1) ∧ fr2_1 = pBa (fun i => fbarSeen (12 * kr + 1 + i)) (fun i => fbarFrom (12 * kr + 1 + i)) (fbarFrom (12 * kr)) (nI pq) (k2_1 - 1)) ∧ va_P D classes [((a 0), .inr (8, (fX8 a (nI tx) fp (nI t0) wd (nI we) nu na (nI rd) ts (nI ru) (nI rw) (nI ca) df db sd))), (aI k (a 25) 4 (nF bm)), (aI k (a 26) 48 fbarSeen), (aI k (a 27) 48 fbarFrom), (aI k (a 28) 4 fruleRounds)] H ∧ va_S (fun q : Nat => s.heap.size ≤ q) s.heap H locs ∧ lv_has ls 6 [(5, .int (nI k2_1)), (4, .int fr2_1), (0, .ref (a 0)), (1, .int (nI kr)), (2, .int (nI i)), (3, .int (nI pq))]) (fun n_1 x_1 H locs ls hI ih_1 => ?_) _ (1, (fbarFrom (12 * kr))) ⟨rfl, ⟨by omega, .inr rfl, rfl⟩, hP, hS, (lv_sub hl [0, 1, 2, 3, 4, 5] rfl)⟩
  obtain ⟨k2_1, fr2_1⟩ := x_1
  obtain ⟨hm_1, hv_1, hP, hS, hl⟩ := hI
  subst hm_1
  refine lv_iload hx hb dX8_isFor_14 (lv_at hl 0 rfl) ?_
  refine lv_aload_n hx hb dX8_isFor_16 rfl (lv_at hl 2 rfl) ?_
  refine va_get (D := D) (ci := 8) (v := .ref (a 25)) (C := RX8) (T := TX8) (N := 44) hx hb hts inX8 hown hK hP 0 rfl rfl 24 (by decide) (hts _ tw_997) (fun _ h9 => h9) rfl dX8_isFor_17 ?_
  refine lv_iload_n hx hb dX8_isFor_20 rfl (lv_at hl 3 rfl) ?_
  refine va_iald hx hb hK hP 1 1 rfl rfl (vp_in_nI (by omega) (by decide)) dX8_isFor_21 ?_
  refine lv_ti (y := (nI (bm kr))) (by rw [nI_clamp (by omega)]; rfl) ?_
  refine lv_icmp_ge (tgt := 66) hx hb dX8_isFor_22 (by decide) (fun c_2 => ?_) (fun c_2 => ?_)
  · have c_2 := (nI_leI (a := (bm kr)) (b := k2_1) (by omega) (by omega)).mp c_2
    refine lv_iload_n hx hb dX8_isFor_66 rfl (lv_at hl 4 rfl) ?_
    refine lv_iload hx hb dX8_isFor_67 (lv_at hl 1 rfl) ?_
    refine lv_icmp_lt (tgt := 76) hx hb dX8_isFor_69 (by decide) (fun c_3 => ?_) (fun c_3 => ?_)
    · refine lv_iconst (v := 0) hx hb dX8_isFor_76 (by decide) ?_
      exact W.zret (v := 0) (ty := .boolean) hx hb hr rfl (fun t ht hW => ⟨⟨0, (), rfl, .inr ⟨rfl, by rw [(show pBar (ruM bm fbarSeen fbarFrom fruleRounds kr) pq = fr2_1 by rw [mBar, hv_1.2.2, show bm kr - 1 = k2_1 - 1 by omega])]; exact Int32.not_le.mpr c_3⟩, trivial⟩, hS.F ht⟩) hS.2.2 dX8_isFor_77
    · refine lv_iconst (v := 1) hx hb dX8_isFor_72 (by decide) ?_
      refine lv_goto (tgt := 77) hx hb dX8_isFor_73 (by decide) ?_
      exact W.zret (v := 1) (ty := .boolean) hx hb hr rfl (fun t ht hW => ⟨⟨1, (), rfl, .inl ⟨rfl, by rw [(show pBar (ruM bm fbarSeen fbarFrom fruleRounds kr) pq = fr2_1 by rw [mBar, hv_1.2.2, show bm kr - 1 = k2_1 - 1 by omega])]; exact Int32.not_lt.mp c_3⟩, trivial⟩, hS.F ht⟩) hS.2.2 dX8_isFor_77
  · have c_2 : ¬ ((bm kr) ≤ k2_1) := fun h => c_2 ((nI_leI (a := (bm kr)) (b := k2_1) (by omega) (by omega)).mpr h)
    refine lv_aload_n hx hb dX8_isFor_25 rfl (lv_at hl 2 rfl) ?_
    refine va_get (D := D) (ci := 8) (v := .ref (a 26)) (C := RX8) (T := TX8) (N := 44) hx hb hts inX8 hown hK hP 0 rfl rfl 25 (by decide) (hts _ tw_998) (fun _ h9 => h9) rfl dX8_isFor_26 ?_
    refine lv_bipush (v := 12) hx hb dX8_isFor_29 (by decide) ?_
    refine lv_iload_n hx hb dX8_isFor_31 rfl (lv_at hl 3 rfl) ?_
    refine lv_imul hx hb dX8_isFor_32 ?_
    refine lv_ti (y := (nI (12 * kr))) (pk_mul 12 kr) ?_
    refine lv_iload hx hb dX8_isFor_33 (lv_at hl 0 rfl) ?_
    refine lv_iadd hx hb dX8_isFor_35 ?_
    refine lv_ti (y := (nI (12 * kr + k2_1))) (nI_add (12 * kr) k2_1) ?_
    refine va_iald hx hb hK hP 2 1 rfl rfl (vp_in_nI (by omega) (by decide)) dX8_isFor_36 ?_
    refine lv_ti (y := (fbarSeen (12 * kr + k2_1))) (by rw [nI_clamp (by omega)]) ?_
    refine lv_iload_n hx hb dX8_isFor_37 rfl (lv_at hl 5 rfl) ?_
    refine lv_icmp_gt (tgt := 56) hx hb dX8_isFor_38 (by decide) (fun c_4 => ?_) (fun c_4 => ?_)
    · refine lv_iload hx hb dX8_isFor_56 (lv_at hl 1 rfl) ?_
      refine lv_istore (lv' := [(4, .int fr2_1), (5, .int (nI k2_1)), (0, .ref (a 0)), (1, .int (nI kr)), (2, .int (nI i)), (3, .int (nI pq))]) hx hb dX8_isFor_58 hl (by decide) rfl (fun ls hl => ?_)
      refine lv_iinc (v := (nI (k2_1 + 1))) (lv' := [(5, .int (nI (k2_1 + 1))), (4, .int fr2_1), (0, .ref (a 0)), (1, .int (nI kr)), (2, .int (nI i)), (3, .int (nI pq))]) hx hb dX8_isFor_60 hl (k := 1) rfl (nI_add k2_1 1) (by decide) rfl (fun ls hl => ?_)
      refine lv_goto (tgt := 14) hx hb dX8_isFor_63 (by decide) ?_
      exact ih_1 _ (k2_1 + 1, fr2_1) _ _ _ (by omega) ⟨rfl, ⟨by omega, .inl (by omega), (by rw [(show k2_1 + 1 - 1 = (k2_1 - 1) + 1 by omega), pBa_n (sn := fun i => fbarSeen (12 * kr + 1 + i)) (k := k2_1 - 1) (show ¬ fbarSeen (12 * kr + 1 + (k2_1 - 1)) ≤ nI pq by rw [← (show 12 * kr + k2_1 = 12 * kr + 1 + (k2_1 - 1) by omega)]; exact Int32.not_le.mpr c_4)]; exact hv_1.2.2)⟩, hP, hS, (lv_sub hl [0, 1, 2, 3, 4, 5] rfl)⟩
    · refine lv_aload_n hx hb dX8_isFor_41 rfl (lv_at hl 2 rfl) ?_
      refine va_get (D := D) (ci := 8) (v := .ref (a 27)) (C := RX8) (T := TX8) (N := 44) hx hb hts inX8 hown hK hP 0 rfl rfl 26 (by decide) (hts _ tw_999) (fun _ h9 => h9) rfl dX8_isFor_42 ?_
      refine lv_bipush (v := 12) hx hb dX8_isFor_45 (by decide) ?_
      refine lv_iload_n hx hb dX8_isFor_47 rfl (lv_at hl 3 rfl) ?_
      refine lv_imul hx hb dX8_isFor_48 ?_
      refine lv_ti (y := (nI (12 * kr))) (pk_mul 12 kr) ?_
      refine lv_iload hx hb dX8_isFor_49 (lv_at hl 0 rfl) ?_
      refine lv_iadd hx hb dX8_isFor_51 ?_
      refine lv_ti (y := (nI (12 * kr + k2_1))) (nI_add (12 * kr) k2_1) ?_
      refine va_iald hx hb hK hP 3 1 rfl rfl (vp_in_nI (by omega) (by decide)) dX8_isFor_52 ?_
      refine lv_ti (y := (fbarFrom (12 * kr + k2_1))) (by rw [nI_clamp (by omega)]) ?_
      refine lv_goto (tgt := 58) hx hb dX8_isFor_53 (by decide) ?_
      refine lv_istore (lv' := [(4, .int (fbarFrom (12 * kr + k2_1))), (5, .int (nI k2_1)), (0, .ref (a 0)), (1, .int (nI kr)), (2, .int (nI i)), (3, .int (nI pq))]) hx hb dX8_isFor_58 hl (by decide) rfl (fun ls hl => ?_)
      refine lv_iinc (v := (nI (k2_1 + 1))) (lv' := [(5, .int (nI (k2_1 + 1))), (4, .int (fbarFrom (12 * kr + k2_1))), (0, .ref (a 0)), (1, .int (nI kr)), (2, .int (nI i)), (3, .int (nI pq))]) hx hb dX8_isFor_60 hl (k := 1) rfl (nI_add k2_1 1) (by decide) rfl (fun ls hl => ?_)
      refine lv_goto (tgt := 14) hx hb dX8_isFor_63 (by decide) ?_
      exact ih_1 _ (k2_1 + 1, (fbarFrom (12 * kr + k2_1))) _ _ _ (by omega) ⟨rfl, ⟨by omega, .inl (by omega), (by rw [(show k2_1 + 1 - 1 = (k2_1 - 1) + 1 by omega), pBa_y (sn := fun i => fbarSeen (12 * kr + 1 + i)) (k := k2_1 - 1) (show fbarSeen (12 * kr + 1 + (k2_1 - 1)) ≤ nI pq by rw [← (show 12 * kr + k2_1 = 12 * kr + 1 + (k2_1 - 1) by omega)]; exact Int32.not_lt.mp c_4), (show 12 * kr + k2_1 = 12 * kr + 1 + (k2_1 - 1) by omega)])⟩, hP, hS, (lv_sub hl [0, 1, 2, 3, 4, 5] rfl)⟩


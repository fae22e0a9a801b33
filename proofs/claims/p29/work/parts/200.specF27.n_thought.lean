
set_option maxHeartbeats 4000000 in
set_option maxRecDepth 100000 in
theorem n_thought (l : Launch) (D : va_G) (k : Nat → ClassId) (st : Nat → Nat) (lo : Nat) (a : Nat → Nat) (tx : Nat) (t0 : Nat) (we : Nat) (rd : Nat) (ru : Nat) (rw : Nat) (ca : Nat) (fp : Int32) (wd : Int64) (nu : Int32) (na : Int32) (ts : Int32) (df : Int32) (db : Int32) (sd : Int32) (dn : Nat → Nat) (se : Nat → Nat) (tm : Nat → Nat) (gs : Nat → Int32) (ffrees : Nat → Int32) (fprices : Nat → Int32) (frow : Nat → Int32) (p0 : Int32) (p1 : Int32) (hdn : ∀ j, dn j ≤ 24) (hrw : rw ≤ 24) (hfr : ∀ i, i < 24 → frow i = 0 ∨ frow i = 1) : CRi l D k st lo yX8_thought cX8_thought 13 (some .int) ({ frames := 2, cells := 0, slots := 0, locals := 47 }) [.ref (a 0), .int p0, .int p1] [((a 0), .inr (8, (fX8 a (nI tx) fp (nI t0) wd (nI we) nu na (nI rd) ts (nI ru) (nI rw) (nI ca) df db sd))), (aI k (a 1) 3 (nF dn)), (aI k (a 4) 27 (sg se tm gs)), (aI k (a 2) 72 ffrees), (aI k (a 3) 72 fprices), (aZ k (a 32) 24 frow)] (fun r => thP (sdM dn (sg se tm gs) ffrees fprices) p0 p1 frow rw r) := by
  intro sz
  refine Met.ofW (cc := cX8_thought) (maxL := 13) (ret := (some .int)) (by decide) rfl ?_
  intro p e s m args below meth c s₁ B hml hv
  obtain ⟨rfl, hsz, hlo, hP, hK, hDL, hZ⟩ := hv
  have hx := B.exec
  have hb := B.bytes
  have hr := B.returns
  have hts := WS_ts B.pre
  have hown : s.vm.findClass RX8 = some m.cls := findClass_of_methodNamed B.named
  have hlocks := B.notSynchronized
  subst hsz
  have hA : ∀ q : Nat, s.heap.size ≤ q → (fun q : Nat => s.heap.size ≤ q) q := fun _ h => h
  have hAlo : ∀ q : Nat, (fun q : Nat => s.heap.size ≤ q) q → lo ≤ q := fun q h => Nat.le_trans hlo h
  have hS : va_S (fun q : Nat => s.heap.size ≤ q) s.heap s.heap [] := va_S.rf
  have hl := lv_entry ([.ref (a 0), .int p0, .int p1]) (n := 13) (Nat.le_of_ble_eq_true rfl)
  rw [lg_entry_eq]
  generalize (lg_sl ([.ref (a 0), .int p0, .int p1]) ++ List.replicate (13 - (lg_sl ([.ref (a 0), .int p0, .int p1])).length) Slot.unset).toArray = ls at hl ⊢
  have hl : lv_has ls 13 [(0, .ref (a 0)), (1, .int p0), (2, .int p1)] := hl
  refine lv_aload_n hx hb dX8_thought_0 rfl (lv_at hl 0 rfl) ?_
  refine lv_iload_n hx hb dX8_thought_1 rfl (lv_at hl 1 rfl) ?_
  refine ro_i (D := D) (va_runV (As := [.int p0]) (rest := []) ⟨hx, hb, hml, hown, hts⟩ ((n_isStreet l D k st lo a tx t0 we rd ru rw ca fp wd nu na ts df db sd dn p0 hdn) s.heap.size) (cwV 1 hts (gV tw_1189 tw_1191 tw_38 tw_87 tw_1192) rfl rfl rfl (by decide +kernel) ⟨Nat.le_of_ble_eq_true rfl, Nat.le_of_ble_eq_true rfl⟩) (pV hS hAlo hlo hP hK hDL hZ [0, 1] (by decide) rfl (ci := 8) (q := (RX8, TX8, 44)) (q0 := 0) rfl rfl) rfl rfl hl.1 rfl (lv_room (Nat.le_of_ble_eq_true rfl)) dX8_thought_2 ⟨Nat.le_of_ble_eq_true rfl, Nat.le_of_ble_eq_true rfl⟩) hS hA hP (fun r_1 H locs hw_1 hP hS => ?_)
  try dsimp only at hw_1
  rcases hw_1 with ⟨rfl, j_2, hj_2, rfl, hw_1⟩ | ⟨rfl, hw_1⟩
  · have hdj_2 := hdn j_2
    refine lv_if_eq (tgt := 16) hx hb dX8_thought_5 (by decide) (fun h => absurd h (by decide)) (fun _ => ?_)
    refine lv_aload_n hx hb dX8_thought_8 rfl (lv_at hl 0 rfl) ?_
    refine lv_iload_n hx hb dX8_thought_9 rfl (lv_at hl 2 rfl) ?_
    refine ro_i (D := D) (va_runV (As := [.int p1]) (rest := []) ⟨hx, hb, hml, hown, hts⟩ ((n_isStreet l D k st lo a tx t0 we rd ru rw ca fp wd nu na ts df db sd dn p1 hdn) H.size) (cwV 1 hts (gV tw_1189 tw_1191 tw_38 tw_87 tw_1192) rfl rfl rfl (by decide +kernel) ⟨Nat.le_of_ble_eq_true rfl, Nat.le_of_ble_eq_true rfl⟩) (pV hS hAlo hlo hP hK hDL hZ [0, 1] (by decide) rfl (ci := 8) (q := (RX8, TX8, 44)) (q0 := 0) rfl rfl) rfl rfl hl.1 rfl (lv_room (Nat.le_of_ble_eq_true rfl)) dX8_thought_10 ⟨Nat.le_of_ble_eq_true rfl, Nat.le_of_ble_eq_true rfl⟩) hS hA hP (fun r_3 H locs hw_3 hP hS => ?_)
    try dsimp only at hw_3
    rcases hw_3 with ⟨rfl, j_4, hj_4, rfl, hw_3⟩ | ⟨rfl, hw_3⟩
    · have hdj_4 := hdn j_4
      refine lv_if_ne (tgt := 20) hx hb dX8_thought_13 (by decide) (fun _ => ?_) (fun h => absurd h (by decide))
      refine lv_ldc2 hx hb hown (hts _ tw_1362) dX8_thought_20 ?_
      refine lv_lstore_n (lv' := [(3, .long 500000), (0, .ref (a 0)), (1, .int (nI j_2)), (2, .int (nI j_4))]) hx hb dX8_thought_23 rfl hl (by decide) rfl (fun ls hl => ?_)
      refine lv_ldc2 hx hb hown (hts _ tw_1362) dX8_thought_24 ?_
      refine lv_lstore (lv' := [(5, .long 500000), (3, .long 500000), (0, .ref (a 0)), (1, .int (nI j_2)), (2, .int (nI j_4))]) hx hb dX8_thought_27 hl (by decide) rfl (fun ls hl => ?_)
      refine lv_iconst (v := 0) hx hb dX8_thought_29 (by decide) ?_
      refine lv_istore (lv' := [(7, .int 0), (5, .long 500000), (3, .long 500000), (0, .ref (a 0)), (1, .int (nI j_2)), (2, .int (nI j_4))]) hx hb dX8_thought_30 hl (by decide) rfl (fun ls hl => ?_)
      refine W_loop (σ := Nat × Int64 × Int64) (fun (n_ : Nat) (x_ : Nat × Int64 × Int64) (H : Heap) (locs : List Loc) (ls : Array Slot) => match x_ with | (ii_5, w2_5, v2_5) => n_ = 25 - ii_5 ∧ ((ii_5 ≤ rw ∧ ii_5 ≤ dn j_2 ∧ ii_5 ≤ dn j_4) ∧ w2_5 = (thN (sdM dn (sg se tm gs) ffrees fprices j_2) (sdM dn (sg se tm gs) ffrees fprices j_4) frow ii_5).1 ∧ v2_5 = (thN (sdM dn (sg se tm gs) ffrees fprices j_2) (sdM dn (sg se tm gs) ffrees fprices j_4) frow ii_5).2) ∧ va_P D classes [((a 0), .inr (8, (fX8 a (nI tx) fp (nI t0) wd (nI we) nu na (nI rd) ts (nI ru) (nI rw) (nI ca) df db sd))), (aI k (a 1) 3 (nF dn)), (aI k (a 4) 27 (sg se tm gs)), (aI k (a 2) 72 ffrees), (aI k (a 3) 72 fprices), (aZ k (a 32) 24 frow)] H ∧ va_S (fun q : Nat => s.heap.size ≤ q) s.heap H locs ∧ lv_has ls 13 [(7, .int (nI ii_5)), (5, .long v2_5), (3, .long w2_5), (0, .ref (a 0)), (1, .int (nI j_2)), (2, .int (nI j_4))]) (fun n_5 x_5 H locs ls hI ih_5 => ?_) _ (0, 500000, 500000) ⟨rfl, ⟨⟨by omega, by omega, by omega⟩, rfl, rfl⟩, hP, hS, (lv_sub hl [0, 1, 2, 3, 4, 5] rfl)⟩
      obtain ⟨ii_5, w2_5, v2_5⟩ := x_5
      obtain ⟨hm_5, hv_5, hP, hS, hl⟩ := hI
      subst hm_5
      refine lv_iload hx hb dX8_thought_32 (lv_at hl 0 rfl) ?_
      refine lv_aload_n hx hb dX8_thought_34 rfl (lv_at hl 3 rfl) ?_
      refine va_get (D := D) (ci := 8) (v := .int (nI rw)) (C := RX8) (T := TX8) (N := 44) hx hb hts inX8 hown hK hP 0 rfl rfl 30 (by decide) (hts _ tw_1003) (fun _ h9 => h9) rfl dX8_thought_35 ?_
      refine lv_icmp_ge (tgt := 224) hx hb dX8_thought_38 (by decide) (fun c_6 => ?_) (fun c_6 => ?_)
      · have c_6 := (nI_leI (a := rw) (b := ii_5) (by omega) (by omega)).mp c_6
        refine lv_lload_n hx hb dX8_thought_224 rfl (lv_at hl 2 rfl) ?_
        refine lv_lload hx hb dX8_thought_225 (lv_at hl 1 rfl) ?_
        refine lv_ladd hx hb dX8_thought_227 ?_
        refine lv_topl (fun x_7 ex_7 => ?_)
        refine lv_lconst (v := 0) hx hb dX8_thought_228 (by decide) ?_
        refine W.lcmp hx hb dX8_thought_229 ?_
        refine lv_if_ne (tgt := 237) hx hb dX8_thought_230 (by decide) (fun c_8 => ?_) (fun c_8 => ?_)
        · refine lv_lload_n hx hb dX8_thought_237 rfl (lv_at hl 2 rfl) ?_
          refine lv_ldc2 hx hb hown (hts _ tw_1363) dX8_thought_238 ?_
          refine lv_lmul hx hb dX8_thought_241 ?_
          refine lv_topl (fun x_9 ex_9 => ?_)
          refine lv_lload_n hx hb dX8_thought_242 rfl (lv_at hl 2 rfl) ?_
          refine lv_lload hx hb dX8_thought_243 (lv_at hl 1 rfl) ?_
          refine lv_ladd hx hb dX8_thought_245 ?_
          refine lv_topl (fun x_10 ex_10 => ?_)
          refine lv_ldiv hx hb dX8_thought_246 (fun h => c_8 (by rw [ex_7, ← ex_10, h]; decide)) ?_
          refine lv_topl (fun x_11 ex_11 => ?_)
          refine lv_l2i hx hb dX8_thought_247 rfl ?_
          refine lv_topi (fun x_12 ex_12 => ?_)
          exact W.iret (v := x_12) hx hb hr (fun t ht hW => ⟨⟨x_12, (), rfl, th_at (s := j_2) (t := j_4) (by omega) (by omega) (show 0 < dn j_2 by omega) (show 0 < dn j_4 by omega) (thM_1 (d := (sdM dn (sg se tm gs) ffrees fprices j_2)) (e := (sdM dn (sg se tm gs) ffrees fprices j_4)) (show ii_5 = min rw (min (dn j_2) (dn j_4)) by omega) hv_5.2.1 hv_5.2.2 ex_7 c_8 ex_10 ex_9 ex_11 ex_12), trivial⟩, hS.F ht⟩) hS.2.2 dX8_thought_248
        · refine lv_iconst (v := 0) hx hb dX8_thought_233 (by decide) ?_
          refine lv_goto (tgt := 248) hx hb dX8_thought_234 (by decide) ?_
          exact W.iret (v := 0) hx hb hr (fun t ht hW => ⟨⟨0, (), rfl, th_at (s := j_2) (t := j_4) (by omega) (by omega) (show 0 < dn j_2 by omega) (show 0 < dn j_4 by omega) (thM_0 (d := (sdM dn (sg se tm gs) ffrees fprices j_2)) (e := (sdM dn (sg se tm gs) ffrees fprices j_4)) (show ii_5 = min rw (min (dn j_2) (dn j_4)) by omega) hv_5.2.1 hv_5.2.2 ex_7 c_8), trivial⟩, hS.F ht⟩) hS.2.2 dX8_thought_248
      · have c_6 : ¬ (rw ≤ ii_5) := fun h => c_6 ((nI_leI (a := rw) (b := ii_5) (by omega) (by omega)).mpr h)
        refine lv_iload hx hb dX8_thought_41 (lv_at hl 0 rfl) ?_
        refine lv_aload_n hx hb dX8_thought_43 rfl (lv_at hl 3 rfl) ?_
        refine va_get (D := D) (ci := 8) (v := .ref (a 1)) (C := RX8) (T := TX8) (N := 44) hx hb hts inX8 hown hK hP 0 rfl rfl 0 (by decide) (hts _ tw_973) (fun _ h9 => h9) rfl dX8_thought_44 ?_
        refine lv_iload_n hx hb dX8_thought_47 rfl (lv_at hl 4 rfl) ?_
        refine va_iald hx hb hK hP 1 1 rfl rfl (vp_in_nI (by omega) (by decide)) dX8_thought_48 ?_
        refine lv_ti (y := (nI (dn j_2))) (by rw [nI_clamp (by omega)]; rfl) ?_
        refine lv_icmp_ge (tgt := 224) hx hb dX8_thought_49 (by decide) (fun c_13 => ?_) (fun c_13 => ?_)
        · have c_13 := (nI_leI (a := (dn j_2)) (b := ii_5) (by omega) (by omega)).mp c_13
          refine lv_lload_n hx hb dX8_thought_224 rfl (lv_at hl 2 rfl) ?_
          refine lv_lload hx hb dX8_thought_225 (lv_at hl 1 rfl) ?_
          refine lv_ladd hx hb dX8_thought_227 ?_
          refine lv_topl (fun x_14 ex_14 => ?_)
          refine lv_lconst (v := 0) hx hb dX8_thought_228 (by decide) ?_
          refine W.lcmp hx hb dX8_thought_229 ?_
          refine lv_if_ne (tgt := 237) hx hb dX8_thought_230 (by decide) (fun c_15 => ?_) (fun c_15 => ?_)
          · refine lv_lload_n hx hb dX8_thought_237 rfl (lv_at hl 2 rfl) ?_
            refine lv_ldc2 hx hb hown (hts _ tw_1363) dX8_thought_238 ?_
            refine lv_lmul hx hb dX8_thought_241 ?_
            refine lv_topl (fun x_16 ex_16 => ?_)
            refine lv_lload_n hx hb dX8_thought_242 rfl (lv_at hl 2 rfl) ?_
            refine lv_lload hx hb dX8_thought_243 (lv_at hl 1 rfl) ?_
            refine lv_ladd hx hb dX8_thought_245 ?_
            refine lv_topl (fun x_17 ex_17 => ?_)
            refine lv_ldiv hx hb dX8_thought_246 (fun h => c_15 (by rw [ex_14, ← ex_17, h]; decide)) ?_
            refine lv_topl (fun x_18 ex_18 => ?_)
            refine lv_l2i hx hb dX8_thought_247 rfl ?_
            refine lv_topi (fun x_19 ex_19 => ?_)
            exact W.iret (v := x_19) hx hb hr (fun t ht hW => ⟨⟨x_19, (), rfl, th_at (s := j_2) (t := j_4) (by omega) (by omega) (show 0 < dn j_2 by omega) (show 0 < dn j_4 by omega) (thM_1 (d := (sdM dn (sg se tm gs) ffrees fprices j_2)) (e := (sdM dn (sg se tm gs) ffrees fprices j_4)) (show ii_5 = min rw (min (dn j_2) (dn j_4)) by omega) hv_5.2.1 hv_5.2.2 ex_14 c_15 ex_17 ex_16 ex_18 ex_19), trivial⟩, hS.F ht⟩) hS.2.2 dX8_thought_248
          · refine lv_iconst (v := 0) hx hb dX8_thought_233 (by decide) ?_
            refine lv_goto (tgt := 248) hx hb dX8_thought_234 (by decide) ?_
            exact W.iret (v := 0) hx hb hr (fun t ht hW => ⟨⟨0, (), rfl, th_at (s := j_2) (t := j_4) (by omega) (by omega) (show 0 < dn j_2 by omega) (show 0 < dn j_4 by omega) (thM_0 (d := (sdM dn (sg se tm gs) ffrees fprices j_2)) (e := (sdM dn (sg se tm gs) ffrees fprices j_4)) (show ii_5 = min rw (min (dn j_2) (dn j_4)) by omega) hv_5.2.1 hv_5.2.2 ex_14 c_15), trivial⟩, hS.F ht⟩) hS.2.2 dX8_thought_248
        · have c_13 : ¬ ((dn j_2) ≤ ii_5) := fun h => c_13 ((nI_leI (a := (dn j_2)) (b := ii_5) (by omega) (by omega)).mpr h)
          refine lv_iload hx hb dX8_thought_52 (lv_at hl 0 rfl) ?_
          refine lv_aload_n hx hb dX8_thought_54 rfl (lv_at hl 3 rfl) ?_
          refine va_get (D := D) (ci := 8) (v := .ref (a 1)) (C := RX8) (T := TX8) (N := 44) hx hb hts inX8 hown hK hP 0 rfl rfl 0 (by decide) (hts _ tw_973) (fun _ h9 => h9) rfl dX8_thought_55 ?_
          refine lv_iload_n hx hb dX8_thought_58 rfl (lv_at hl 5 rfl) ?_
          refine va_iald hx hb hK hP 1 1 rfl rfl (vp_in_nI (by omega) (by decide)) dX8_thought_59 ?_
          refine lv_ti (y := (nI (dn j_4))) (by rw [nI_clamp (by omega)]; rfl) ?_
          refine lv_icmp_ge (tgt := 224) hx hb dX8_thought_60 (by decide) (fun c_20 => ?_) (fun c_20 => ?_)
          · have c_20 := (nI_leI (a := (dn j_4)) (b := ii_5) (by omega) (by omega)).mp c_20
            refine lv_lload_n hx hb dX8_thought_224 rfl (lv_at hl 2 rfl) ?_
            refine lv_lload hx hb dX8_thought_225 (lv_at hl 1 rfl) ?_
            refine lv_ladd hx hb dX8_thought_227 ?_
            refine lv_topl (fun x_21 ex_21 => ?_)
            refine lv_lconst (v := 0) hx hb dX8_thought_228 (by decide) ?_
            refine W.lcmp hx hb dX8_thought_229 ?_
            refine lv_if_ne (tgt := 237) hx hb dX8_thought_230 (by decide) (fun c_22 => ?_) (fun c_22 => ?_)
            · refine lv_lload_n hx hb dX8_thought_237 rfl (lv_at hl 2 rfl) ?_
              refine lv_ldc2 hx hb hown (hts _ tw_1363) dX8_thought_238 ?_
              refine lv_lmul hx hb dX8_thought_241 ?_
              refine lv_topl (fun x_23 ex_23 => ?_)
              refine lv_lload_n hx hb dX8_thought_242 rfl (lv_at hl 2 rfl) ?_
              refine lv_lload hx hb dX8_thought_243 (lv_at hl 1 rfl) ?_
              refine lv_ladd hx hb dX8_thought_245 ?_
              refine lv_topl (fun x_24 ex_24 => ?_)
              refine lv_ldiv hx hb dX8_thought_246 (fun h => c_22 (by rw [ex_21, ← ex_24, h]; decide)) ?_
              refine lv_topl (fun x_25 ex_25 => ?_)
              refine lv_l2i hx hb dX8_thought_247 rfl ?_
              refine lv_topi (fun x_26 ex_26 => ?_)
              exact W.iret (v := x_26) hx hb hr (fun t ht hW => ⟨⟨x_26, (), rfl, th_at (s := j_2) (t := j_4) (by omega) (by omega) (show 0 < dn j_2 by omega) (show 0 < dn j_4 by omega) (thM_1 (d := (sdM dn (sg se tm gs) ffrees fprices j_2)) (e := (sdM dn (sg se tm gs) ffrees fprices j_4)) (show ii_5 = min rw (min (dn j_2) (dn j_4)) by omega) hv_5.2.1 hv_5.2.2 ex_21 c_22 ex_24 ex_23 ex_25 ex_26), trivial⟩, hS.F ht⟩) hS.2.2 dX8_thought_248
            · refine lv_iconst (v := 0) hx hb dX8_thought_233 (by decide) ?_
              refine lv_goto (tgt := 248) hx hb dX8_thought_234 (by decide) ?_
              exact W.iret (v := 0) hx hb hr (fun t ht hW => ⟨⟨0, (), rfl, th_at (s := j_2) (t := j_4) (by omega) (by omega) (show 0 < dn j_2 by omega) (show 0 < dn j_4 by omega) (thM_0 (d := (sdM dn (sg se tm gs) ffrees fprices j_2)) (e := (sdM dn (sg se tm gs) ffrees fprices j_4)) (show ii_5 = min rw (min (dn j_2) (dn j_4)) by omega) hv_5.2.1 hv_5.2.2 ex_21 c_22), trivial⟩, hS.F ht⟩) hS.2.2 dX8_thought_248
          · have c_20 : ¬ ((dn j_4) ≤ ii_5) := fun h => c_20 ((nI_leI (a := (dn j_4)) (b := ii_5) (by omega) (by omega)).mpr h)
            refine lv_iload hx hb dX8_thought_63 (lv_at hl 0 rfl) ?_
            refine lv_if_le (tgt := 93) hx hb dX8_thought_65 (by decide) (fun c_27 => ?_) (fun c_27 => ?_)
            · have c_27 := (nI_leI (a := ii_5) (b := 0) (by omega) (by omega)).mp c_27
              refine lv_iconst (v := 0) hx hb dX8_thought_93 (by decide) ?_
              have hah_28 : (0 : Int32) = pAhd frow ii_5 := thh_z (by omega)
              refine lv_istore (lv' := [(8, .int 0), (7, .int (nI ii_5)), (5, .long v2_5), (3, .long w2_5), (0, .ref (a 0)), (1, .int (nI j_2)), (2, .int (nI j_4))]) hx hb dX8_thought_94 hl (by decide) rfl (fun ls hl => ?_)
              refine lv_aload_n hx hb dX8_thought_96 rfl (lv_at hl 4 rfl) ?_
              refine lv_iload_n hx hb dX8_thought_97 rfl (lv_at hl 5 rfl) ?_
              refine lv_iload hx hb dX8_thought_98 (lv_at hl 1 rfl) ?_
              refine lv_iload hx hb dX8_thought_100 (lv_at hl 0 rfl) ?_
              refine ro_i (D := D) (va_runV (As := [.int (nI j_2), .int (nI ii_5), .int 0]) (rest := []) ⟨hx, hb, hml, hown, hts⟩ ((n_chanceOf l D k st lo a tx t0 we rd ru rw ca fp wd nu na ts df db sd ffrees se tm gs j_2 ii_5 0 (by first | assumption | omega) (by first | assumption | omega)) H.size) (cwV 3 hts (gV tw_1210 tw_1212 tw_41 tw_87 tw_1213) rfl rfl rfl (by decide +kernel) ⟨Nat.le_of_ble_eq_true rfl, Nat.le_of_ble_eq_true rfl⟩) (pV hS hAlo hlo hP hK hDL hZ [0, 3, 2] (by decide) rfl (ci := 8) (q := (RX8, TX8, 44)) (q0 := 0) rfl rfl) rfl rfl hl.1 rfl (lv_room (Nat.le_of_ble_eq_true rfl)) dX8_thought_102 ⟨Nat.le_of_ble_eq_true rfl, Nat.le_of_ble_eq_true rfl⟩) hS hA hP (fun r_29 H locs hw_29 hP hS => ?_)
              try dsimp only at hw_29
              refine lv_istore (lv' := [(9, .int r_29), (8, .int 0), (7, .int (nI ii_5)), (5, .long v2_5), (3, .long w2_5), (0, .ref (a 0)), (1, .int (nI j_2)), (2, .int (nI j_4))]) hx hb dX8_thought_105 hl (by decide) rfl (fun ls hl => ?_)
              refine lv_aload_n hx hb dX8_thought_107 rfl (lv_at hl 5 rfl) ?_
              refine lv_iload_n hx hb dX8_thought_108 rfl (lv_at hl 7 rfl) ?_
              refine lv_iload hx hb dX8_thought_109 (lv_at hl 2 rfl) ?_
              refine lv_iload hx hb dX8_thought_111 (lv_at hl 1 rfl) ?_
              refine ro_i (D := D) (va_runV (As := [.int (nI j_4), .int (nI ii_5), .int 0]) (rest := []) ⟨hx, hb, hml, hown, hts⟩ ((n_chanceOf l D k st lo a tx t0 we rd ru rw ca fp wd nu na ts df db sd ffrees se tm gs j_4 ii_5 0 (by first | assumption | omega) (by first | assumption | omega)) H.size) (cwV 3 hts (gV tw_1210 tw_1212 tw_41 tw_87 tw_1213) rfl rfl rfl (by decide +kernel) ⟨Nat.le_of_ble_eq_true rfl, Nat.le_of_ble_eq_true rfl⟩) (pV hS hAlo hlo hP hK hDL hZ [0, 3, 2] (by decide) rfl (ci := 8) (q := (RX8, TX8, 44)) (q0 := 0) rfl rfl) rfl rfl hl.1 rfl (lv_room (Nat.le_of_ble_eq_true rfl)) dX8_thought_113 ⟨Nat.le_of_ble_eq_true rfl, Nat.le_of_ble_eq_true rfl⟩) hS hA hP (fun r_30 H locs hw_30 hP hS => ?_)
              try dsimp only at hw_30
              refine lv_istore (lv' := [(10, .int r_30), (9, .int r_29), (8, .int 0), (7, .int (nI ii_5)), (5, .long v2_5), (3, .long w2_5), (0, .ref (a 0)), (1, .int (nI j_2)), (2, .int (nI j_4))]) hx hb dX8_thought_116 hl (by decide) rfl (fun ls hl => ?_)
              refine lv_lload_n hx hb dX8_thought_118 rfl (lv_at hl 5 rfl) ?_
              refine lv_aload_n hx hb dX8_thought_119 rfl (lv_at hl 6 rfl) ?_
              refine va_get (D := D) (ci := 8) (v := .ref (a 32)) (C := RX8) (T := TX8) (N := 44) hx hb hts inX8 hown hK hP 0 rfl rfl 31 (by decide) (hts _ tw_1004) (fun _ h9 => h9) rfl dX8_thought_120 ?_
              refine lv_iload hx hb dX8_thought_123 (lv_at hl 3 rfl) ?_
              refine va_zald hx hb hK hP 5 2 rfl rfl (vp_in_nI (by omega) (by decide)) dX8_thought_125 ?_
              refine lv_ti (y := (frow ii_5)) (by rw [nI_clamp (by omega)]) ?_
              refine lv_if_eq (tgt := 134) hx hb dX8_thought_126 (by decide) (fun c_31 => ?_) (fun c_31 => ?_)
              · refine lv_bipush (v := 100) hx hb dX8_thought_134 (by decide) ?_
                refine lv_iload hx hb dX8_thought_136 (lv_at hl 1 rfl) ?_
                refine lv_isub hx hb dX8_thought_138 ?_
                refine lv_topi (fun x_32 ex_32 => ?_)
                refine lv_i2l (v := x_32.toInt64) hx hb dX8_thought_139 rfl ?_
                refine lv_lmul hx hb dX8_thought_140 ?_
                refine lv_topl (fun x_33 ex_33 => ?_)
                refine lv_ldc2 hx hb hown (hts _ tw_1272) dX8_thought_141 ?_
                refine lv_ldiv hx hb dX8_thought_144 (by decide) ?_
                refine lv_topl (fun x_34 ex_34 => ?_)
                have hta_35 : x_34 = thA (thN (sdM dn (sg se tm gs) ffrees fprices j_2) (sdM dn (sg se tm gs) ffrees fprices j_4) frow ii_5).1 (pLk (sdM dn (sg se tm gs) ffrees fprices j_2) ii_5 (pAhd frow ii_5) (frow ii_5)) := by unfold thA pLk; rw [if_neg (by rw [c_31]; decide), ← hah_28, ex_34, ex_33, ex_32, hw_29, mChance (dn := dn) (fpr := fprices) (show ii_5 < dn j_2 by omega), hv_5.2.1]
                refine lv_lstore_n (lv' := [(3, .long x_34), (10, .int r_30), (9, .int r_29), (8, .int 0), (7, .int (nI ii_5)), (5, .long v2_5), (0, .ref (a 0)), (1, .int (nI j_2)), (2, .int (nI j_4))]) hx hb dX8_thought_145 rfl hl (by decide) rfl (fun ls hl => ?_)
                refine lv_lload hx hb dX8_thought_146 (lv_at hl 5 rfl) ?_
                refine lv_aload_n hx hb dX8_thought_148 rfl (lv_at hl 6 rfl) ?_
                refine va_get (D := D) (ci := 8) (v := .ref (a 32)) (C := RX8) (T := TX8) (N := 44) hx hb hts inX8 hown hK hP 0 rfl rfl 31 (by decide) (hts _ tw_1004) (fun _ h9 => h9) rfl dX8_thought_149 ?_
                refine lv_iload hx hb dX8_thought_152 (lv_at hl 4 rfl) ?_
                refine va_zald hx hb hK hP 5 2 rfl rfl (vp_in_nI (by omega) (by decide)) dX8_thought_154 ?_
                refine lv_ti (y := (frow ii_5)) (by rw [nI_clamp (by omega)]) ?_
                refine lv_if_eq (tgt := 163) hx hb dX8_thought_155 (by decide) (fun c_36 => ?_) (fun c_36 => absurd c_36 (fun h => h c_31))
                refine lv_bipush (v := 100) hx hb dX8_thought_163 (by decide) ?_
                refine lv_iload hx hb dX8_thought_165 (lv_at hl 1 rfl) ?_
                refine lv_isub hx hb dX8_thought_167 ?_
                refine lv_topi (fun x_37 ex_37 => ?_)
                refine lv_i2l (v := x_37.toInt64) hx hb dX8_thought_168 rfl ?_
                refine lv_lmul hx hb dX8_thought_169 ?_
                refine lv_topl (fun x_38 ex_38 => ?_)
                refine lv_ldc2 hx hb hown (hts _ tw_1272) dX8_thought_170 ?_
                refine lv_ldiv hx hb dX8_thought_173 (by decide) ?_
                refine lv_topl (fun x_39 ex_39 => ?_)
                have hta_40 : x_39 = thA (thN (sdM dn (sg se tm gs) ffrees fprices j_2) (sdM dn (sg se tm gs) ffrees fprices j_4) frow ii_5).2 (pLk (sdM dn (sg se tm gs) ffrees fprices j_4) ii_5 (pAhd frow ii_5) (frow ii_5)) := by unfold thA pLk; rw [if_neg (by rw [c_31]; decide), ← hah_28, ex_39, ex_38, ex_37, hw_30, mChance (dn := dn) (fpr := fprices) (show ii_5 < dn j_4 by omega), hv_5.2.2]
                refine lv_lstore (lv' := [(5, .long x_39), (3, .long x_34), (10, .int r_30), (9, .int r_29), (8, .int 0), (7, .int (nI ii_5)), (0, .ref (a 0)), (1, .int (nI j_2)), (2, .int (nI j_4))]) hx hb dX8_thought_174 hl (by decide) rfl (fun ls hl => ?_)
                refine lv_lload_n hx hb dX8_thought_176 rfl (lv_at hl 1 rfl) ?_
                refine lv_lload hx hb dX8_thought_177 (lv_at hl 0 rfl) ?_
                refine W.lcmp hx hb dX8_thought_179 ?_
                refine lv_if_le (tgt := 187) hx hb dX8_thought_180 (by decide) (fun c_41 => ?_) (fun c_41 => ?_)
                · refine lv_lload hx hb dX8_thought_187 (lv_at hl 0 rfl) ?_
                  refine lv_lstore (lv' := [(11, .long x_39), (5, .long x_39), (3, .long x_34), (10, .int r_30), (9, .int r_29), (8, .int 0), (7, .int (nI ii_5)), (0, .ref (a 0)), (1, .int (nI j_2)), (2, .int (nI j_4))]) hx hb dX8_thought_189 hl (by decide) rfl (fun ls hl => ?_)
                  refine lv_lload hx hb dX8_thought_191 (lv_at hl 0 rfl) ?_
                  refine lv_lconst (v := 0) hx hb dX8_thought_193 (by decide) ?_
                  refine W.lcmp hx hb dX8_thought_194 ?_
                  refine lv_if_le (tgt := 218) hx hb dX8_thought_195 (by decide) (fun c_42 => ?_) (fun c_42 => ?_)
                  · have hth_43 := th_neg hta_35 hta_40 (thg_le c_41) c_42
                    refine lv_iinc (v := (nI (ii_5 + 1))) (lv' := [(7, .int (nI (ii_5 + 1))), (11, .long x_39), (5, .long x_39), (3, .long x_34), (10, .int r_30), (9, .int r_29), (8, .int 0), (0, .ref (a 0)), (1, .int (nI j_2)), (2, .int (nI j_4))]) hx hb dX8_thought_218 hl (k := 6) rfl (nI_add ii_5 1) (by decide) rfl (fun ls hl => ?_)
                    refine lv_goto (tgt := 32) hx hb dX8_thought_221 (by decide) ?_
                    exact ih_5 _ (ii_5 + 1, x_34, x_39) _ _ _ (by omega) ⟨rfl, ⟨⟨by omega, by omega, by omega⟩, hth_43.1, hth_43.2⟩, hP, hS, (lv_sub hl [0, 2, 3, 7, 8, 9] rfl)⟩
                  · refine lv_lload_n hx hb dX8_thought_198 rfl (lv_at hl 2 rfl) ?_
                    refine lv_ldc2 hx hb hown (hts _ tw_1363) dX8_thought_199 ?_
                    refine lv_lmul hx hb dX8_thought_202 ?_
                    refine lv_topl (fun x_44 ex_44 => ?_)
                    refine lv_lload hx hb dX8_thought_203 (lv_at hl 0 rfl) ?_
                    refine lv_ldiv hx hb dX8_thought_205 (fun h => c_42 (by rw [h]; decide)) ?_
                    refine lv_topl (fun x_45 ex_45 => ?_)
                    refine lv_lstore_n (lv' := [(3, .long x_45), (11, .long x_39), (5, .long x_39), (10, .int r_30), (9, .int r_29), (8, .int 0), (7, .int (nI ii_5)), (0, .ref (a 0)), (1, .int (nI j_2)), (2, .int (nI j_4))]) hx hb dX8_thought_206 rfl hl (by decide) rfl (fun ls hl => ?_)
                    refine lv_lload hx hb dX8_thought_207 (lv_at hl 2 rfl) ?_
                    refine lv_ldc2 hx hb hown (hts _ tw_1363) dX8_thought_209 ?_
                    refine lv_lmul hx hb dX8_thought_212 ?_
                    refine lv_topl (fun x_46 ex_46 => ?_)
                    refine lv_lload hx hb dX8_thought_213 (lv_at hl 1 rfl) ?_
                    refine lv_ldiv hx hb dX8_thought_215 (fun h => c_42 (by rw [h]; decide)) ?_
                    refine lv_topl (fun x_47 ex_47 => ?_)
                    refine lv_lstore (lv' := [(5, .long x_47), (3, .long x_45), (11, .long x_39), (10, .int r_30), (9, .int r_29), (8, .int 0), (7, .int (nI ii_5)), (0, .ref (a 0)), (1, .int (nI j_2)), (2, .int (nI j_4))]) hx hb dX8_thought_216 hl (by decide) rfl (fun ls hl => ?_)
                    have hth_48 := th_pos hta_35 hta_40 (thg_le c_41) c_42 ex_44 ex_45 ex_46 ex_47
                    refine lv_iinc (v := (nI (ii_5 + 1))) (lv' := [(7, .int (nI (ii_5 + 1))), (5, .long x_47), (3, .long x_45), (11, .long x_39), (10, .int r_30), (9, .int r_29), (8, .int 0), (0, .ref (a 0)), (1, .int (nI j_2)), (2, .int (nI j_4))]) hx hb dX8_thought_218 hl (k := 6) rfl (nI_add ii_5 1) (by decide) rfl (fun ls hl => ?_)
                    refine lv_goto (tgt := 32) hx hb dX8_thought_221 (by decide) ?_
                    exact ih_5 _ (ii_5 + 1, x_45, x_47) _ _ _ (by omega) ⟨rfl, ⟨⟨by omega, by omega, by omega⟩, hth_48.1, hth_48.2⟩, hP, hS, (lv_sub hl [0, 1, 2, 7, 8, 9] rfl)⟩
                · refine lv_lload_n hx hb dX8_thought_183 rfl (lv_at hl 1 rfl) ?_
                  refine lv_goto (tgt := 189) hx hb dX8_thought_184 (by decide) ?_
                  refine lv_lstore (lv' := [(11, .long x_34), (5, .long x_39), (3, .long x_34), (10, .int r_30), (9, .int r_29), (8, .int 0), (7, .int (nI ii_5)), (0, .ref (a 0)), (1, .int (nI j_2)), (2, .int (nI j_4))]) hx hb dX8_thought_189 hl (by decide) rfl (fun ls hl => ?_)
                  refine lv_lload hx hb dX8_thought_191 (lv_at hl 0 rfl) ?_
                  refine lv_lconst (v := 0) hx hb dX8_thought_193 (by decide) ?_
                  refine W.lcmp hx hb dX8_thought_194 ?_
                  refine lv_if_le (tgt := 218) hx hb dX8_thought_195 (by decide) (fun c_49 => ?_) (fun c_49 => ?_)
                  · have hth_50 := th_neg hta_35 hta_40 (thg_gt c_41) c_49
                    refine lv_iinc (v := (nI (ii_5 + 1))) (lv' := [(7, .int (nI (ii_5 + 1))), (11, .long x_34), (5, .long x_39), (3, .long x_34), (10, .int r_30), (9, .int r_29), (8, .int 0), (0, .ref (a 0)), (1, .int (nI j_2)), (2, .int (nI j_4))]) hx hb dX8_thought_218 hl (k := 6) rfl (nI_add ii_5 1) (by decide) rfl (fun ls hl => ?_)
                    refine lv_goto (tgt := 32) hx hb dX8_thought_221 (by decide) ?_
                    exact ih_5 _ (ii_5 + 1, x_34, x_39) _ _ _ (by omega) ⟨rfl, ⟨⟨by omega, by omega, by omega⟩, hth_50.1, hth_50.2⟩, hP, hS, (lv_sub hl [0, 2, 3, 7, 8, 9] rfl)⟩
                  · refine lv_lload_n hx hb dX8_thought_198 rfl (lv_at hl 2 rfl) ?_
                    refine lv_ldc2 hx hb hown (hts _ tw_1363) dX8_thought_199 ?_
                    refine lv_lmul hx hb dX8_thought_202 ?_
                    refine lv_topl (fun x_51 ex_51 => ?_)
                    refine lv_lload hx hb dX8_thought_203 (lv_at hl 0 rfl) ?_
                    refine lv_ldiv hx hb dX8_thought_205 (fun h => c_49 (by rw [h]; decide)) ?_
                    refine lv_topl (fun x_52 ex_52 => ?_)
                    refine lv_lstore_n (lv' := [(3, .long x_52), (11, .long x_34), (5, .long x_39), (10, .int r_30), (9, .int r_29), (8, .int 0), (7, .int (nI ii_5)), (0, .ref (a 0)), (1, .int (nI j_2)), (2, .int (nI j_4))]) hx hb dX8_thought_206 rfl hl (by decide) rfl (fun ls hl => ?_)
                    refine lv_lload hx hb dX8_thought_207 (lv_at hl 2 rfl) ?_
                    refine lv_ldc2 hx hb hown (hts _ tw_1363) dX8_thought_209 ?_
                    refine lv_lmul hx hb dX8_thought_212 ?_
                    refine lv_topl (fun x_53 ex_53 => ?_)
                    refine lv_lload hx hb dX8_thought_213 (lv_at hl 1 rfl) ?_
                    refine lv_ldiv hx hb dX8_thought_215 (fun h => c_49 (by rw [h]; decide)) ?_
                    refine lv_topl (fun x_54 ex_54 => ?_)
                    refine lv_lstore (lv' := [(5, .long x_54), (3, .long x_52), (11, .long x_34), (10, .int r_30), (9, .int r_29), (8, .int 0), (7, .int (nI ii_5)), (0, .ref (a 0)), (1, .int (nI j_2)), (2, .int (nI j_4))]) hx hb dX8_thought_216 hl (by decide) rfl (fun ls hl => ?_)
                    have hth_55 := th_pos hta_35 hta_40 (thg_gt c_41) c_49 ex_51 ex_52 ex_53 ex_54
                    refine lv_iinc (v := (nI (ii_5 + 1))) (lv' := [(7, .int (nI (ii_5 + 1))), (5, .long x_54), (3, .long x_52), (11, .long x_34), (10, .int r_30), (9, .int r_29), (8, .int 0), (0, .ref (a 0)), (1, .int (nI j_2)), (2, .int (nI j_4))]) hx hb dX8_thought_218 hl (k := 6) rfl (nI_add ii_5 1) (by decide) rfl (fun ls hl => ?_)
                    refine lv_goto (tgt := 32) hx hb dX8_thought_221 (by decide) ?_
                    exact ih_5 _ (ii_5 + 1, x_52, x_54) _ _ _ (by omega) ⟨rfl, ⟨⟨by omega, by omega, by omega⟩, hth_55.1, hth_55.2⟩, hP, hS, (lv_sub hl [0, 1, 2, 7, 8, 9] rfl)⟩
              · refine lv_iload hx hb dX8_thought_129 (lv_at hl 1 rfl) ?_
                refine lv_goto (tgt := 139) hx hb dX8_thought_131 (by decide) ?_
                refine lv_i2l (v := r_29.toInt64) hx hb dX8_thought_139 rfl ?_
                refine lv_lmul hx hb dX8_thought_140 ?_
                refine lv_topl (fun x_56 ex_56 => ?_)
                refine lv_ldc2 hx hb hown (hts _ tw_1272) dX8_thought_141 ?_
                refine lv_ldiv hx hb dX8_thought_144 (by decide) ?_
                refine lv_topl (fun x_57 ex_57 => ?_)
                have hta_58 : x_57 = thA (thN (sdM dn (sg se tm gs) ffrees fprices j_2) (sdM dn (sg se tm gs) ffrees fprices j_4) frow ii_5).1 (pLk (sdM dn (sg se tm gs) ffrees fprices j_2) ii_5 (pAhd frow ii_5) (frow ii_5)) := by unfold thA pLk; rw [if_pos ((hfr _ (by omega)).resolve_left c_31), ← hah_28, ex_57, ex_56, hw_29, mChance (dn := dn) (fpr := fprices) (show ii_5 < dn j_2 by omega), hv_5.2.1]
                refine lv_lstore_n (lv' := [(3, .long x_57), (10, .int r_30), (9, .int r_29), (8, .int 0), (7, .int (nI ii_5)), (5, .long v2_5), (0, .ref (a 0)), (1, .int (nI j_2)), (2, .int (nI j_4))]) hx hb dX8_thought_145 rfl hl (by decide) rfl (fun ls hl => ?_)
                refine lv_lload hx hb dX8_thought_146 (lv_at hl 5 rfl) ?_
                refine lv_aload_n hx hb dX8_thought_148 rfl (lv_at hl 6 rfl) ?_
                refine va_get (D := D) (ci := 8) (v := .ref (a 32)) (C := RX8) (T := TX8) (N := 44) hx hb hts inX8 hown hK hP 0 rfl rfl 31 (by decide) (hts _ tw_1004) (fun _ h9 => h9) rfl dX8_thought_149 ?_
                refine lv_iload hx hb dX8_thought_152 (lv_at hl 4 rfl) ?_
                refine va_zald hx hb hK hP 5 2 rfl rfl (vp_in_nI (by omega) (by decide)) dX8_thought_154 ?_
                refine lv_ti (y := (frow ii_5)) (by rw [nI_clamp (by omega)]) ?_
                refine lv_if_eq (tgt := 163) hx hb dX8_thought_155 (by decide) (fun c_59 => absurd c_59 (c_31)) (fun c_59 => ?_)
                refine lv_iload hx hb dX8_thought_158 (lv_at hl 1 rfl) ?_
                refine lv_goto (tgt := 168) hx hb dX8_thought_160 (by decide) ?_
                refine lv_i2l (v := r_30.toInt64) hx hb dX8_thought_168 rfl ?_
                refine lv_lmul hx hb dX8_thought_169 ?_
                refine lv_topl (fun x_60 ex_60 => ?_)
                refine lv_ldc2 hx hb hown (hts _ tw_1272) dX8_thought_170 ?_
                refine lv_ldiv hx hb dX8_thought_173 (by decide) ?_
                refine lv_topl (fun x_61 ex_61 => ?_)
                have hta_62 : x_61 = thA (thN (sdM dn (sg se tm gs) ffrees fprices j_2) (sdM dn (sg se tm gs) ffrees fprices j_4) frow ii_5).2 (pLk (sdM dn (sg se tm gs) ffrees fprices j_4) ii_5 (pAhd frow ii_5) (frow ii_5)) := by unfold thA pLk; rw [if_pos ((hfr _ (by omega)).resolve_left c_31), ← hah_28, ex_61, ex_60, hw_30, mChance (dn := dn) (fpr := fprices) (show ii_5 < dn j_4 by omega), hv_5.2.2]
                refine lv_lstore (lv' := [(5, .long x_61), (3, .long x_57), (10, .int r_30), (9, .int r_29), (8, .int 0), (7, .int (nI ii_5)), (0, .ref (a 0)), (1, .int (nI j_2)), (2, .int (nI j_4))]) hx hb dX8_thought_174 hl (by decide) rfl (fun ls hl => ?_)
                refine lv_lload_n hx hb dX8_thought_176 rfl (lv_at hl 1 rfl) ?_
                refine lv_lload hx hb dX8_thought_177 (lv_at hl 0 rfl) ?_
                refine W.lcmp hx hb dX8_thought_179 ?_
                refine lv_if_le (tgt := 187) hx hb dX8_thought_180 (by decide) (fun c_63 => ?_) (fun c_63 => ?_)
                · refine lv_lload hx hb dX8_thought_187 (lv_at hl 0 rfl) ?_
                  refine lv_lstore (lv' := [(11, .long x_61), (5, .long x_61), (3, .long x_57), (10, .int r_30), (9, .int r_29), (8, .int 0), (7, .int (nI ii_5)), (0, .ref (a 0)), (1, .int (nI j_2)), (2, .int (nI j_4))]) hx hb dX8_thought_189 hl (by decide) rfl (fun ls hl => ?_)
                  refine lv_lload hx hb dX8_thought_191 (lv_at hl 0 rfl) ?_
                  refine lv_lconst (v := 0) hx hb dX8_thought_193 (by decide) ?_
                  refine W.lcmp hx hb dX8_thought_194 ?_
                  refine lv_if_le (tgt := 218) hx hb dX8_thought_195 (by decide) (fun c_64 => ?_) (fun c_64 => ?_)
                  · have hth_65 := th_neg hta_58 hta_62 (thg_le c_63) c_64
                    refine lv_iinc (v := (nI (ii_5 + 1))) (lv' := [(7, .int (nI (ii_5 + 1))), (11, .long x_61), (5, .long x_61), (3, .long x_57), (10, .int r_30), (9, .int r_29), (8, .int 0), (0, .ref (a 0)), (1, .int (nI j_2)), (2, .int (nI j_4))]) hx hb dX8_thought_218 hl (k := 6) rfl (nI_add ii_5 1) (by decide) rfl (fun ls hl => ?_)
                    refine lv_goto (tgt := 32) hx hb dX8_thought_221 (by decide) ?_
                    exact ih_5 _ (ii_5 + 1, x_57, x_61) _ _ _ (by omega) ⟨rfl, ⟨⟨by omega, by omega, by omega⟩, hth_65.1, hth_65.2⟩, hP, hS, (lv_sub hl [0, 2, 3, 7, 8, 9] rfl)⟩
                  · refine lv_lload_n hx hb dX8_thought_198 rfl (lv_at hl 2 rfl) ?_
                    refine lv_ldc2 hx hb hown (hts _ tw_1363) dX8_thought_199 ?_
                    refine lv_lmul hx hb dX8_thought_202 ?_
                    refine lv_topl (fun x_66 ex_66 => ?_)
                    refine lv_lload hx hb dX8_thought_203 (lv_at hl 0 rfl) ?_
                    refine lv_ldiv hx hb dX8_thought_205 (fun h => c_64 (by rw [h]; decide)) ?_
                    refine lv_topl (fun x_67 ex_67 => ?_)
                    refine lv_lstore_n (lv' := [(3, .long x_67), (11, .long x_61), (5, .long x_61), (10, .int r_30), (9, .int r_29), (8, .int 0), (7, .int (nI ii_5)), (0, .ref (a 0)), (1, .int (nI j_2)), (2, .int (nI j_4))]) hx hb dX8_thought_206 rfl hl (by decide) rfl (fun ls hl => ?_)
                    refine lv_lload hx hb dX8_thought_207 (lv_at hl 2 rfl) ?_
                    refine lv_ldc2 hx hb hown (hts _ tw_1363) dX8_thought_209 ?_
                    refine lv_lmul hx hb dX8_thought_212 ?_
                    refine lv_topl (fun x_68 ex_68 => ?_)
                    refine lv_lload hx hb dX8_thought_213 (lv_at hl 1 rfl) ?_
                    refine lv_ldiv hx hb dX8_thought_215 (fun h => c_64 (by rw [h]; decide)) ?_
                    refine lv_topl (fun x_69 ex_69 => ?_)
                    refine lv_lstore (lv' := [(5, .long x_69), (3, .long x_67), (11, .long x_61), (10, .int r_30), (9, .int r_29), (8, .int 0), (7, .int (nI ii_5)), (0, .ref (a 0)), (1, .int (nI j_2)), (2, .int (nI j_4))]) hx hb dX8_thought_216 hl (by decide) rfl (fun ls hl => ?_)
                    have hth_70 := th_pos hta_58 hta_62 (thg_le c_63) c_64 ex_66 ex_67 ex_68 ex_69
                    refine lv_iinc (v := (nI (ii_5 + 1))) (lv' := [(7, .int (nI (ii_5 + 1))), (5, .long x_69), (3, .long x_67), (11, .long x_61), (10, .int r_30), (9, .int r_29), (8, .int 0), (0, .ref (a 0)), (1, .int (nI j_2)), (2, .int (nI j_4))]) hx hb dX8_thought_218 hl (k := 6) rfl (nI_add ii_5 1) (by decide) rfl (fun ls hl => ?_)
                    refine lv_goto (tgt := 32) hx hb dX8_thought_221 (by decide) ?_
                    exact ih_5 _ (ii_5 + 1, x_67, x_69) _ _ _ (by omega) ⟨rfl, ⟨⟨by omega, by omega, by omega⟩, hth_70.1, hth_70.2⟩, hP, hS, (lv_sub hl [0, 1, 2, 7, 8, 9] rfl)⟩
                · refine lv_lload_n hx hb dX8_thought_183 rfl (lv_at hl 1 rfl) ?_
                  refine lv_goto (tgt := 189) hx hb dX8_thought_184 (by decide) ?_
                  refine lv_lstore (lv' := [(11, .long x_57), (5, .long x_61), (3, .long x_57), (10, .int r_30), (9, .int r_29), (8, .int 0), (7, .int (nI ii_5)), (0, .ref (a 0)), (1, .int (nI j_2)), (2, .int (nI j_4))]) hx hb dX8_thought_189 hl (by decide) rfl (fun ls hl => ?_)
                  refine lv_lload hx hb dX8_thought_191 (lv_at hl 0 rfl) ?_
                  refine lv_lconst (v := 0) hx hb dX8_thought_193 (by decide) ?_
                  refine W.lcmp hx hb dX8_thought_194 ?_
                  refine lv_if_le (tgt := 218) hx hb dX8_thought_195 (by decide) (fun c_71 => ?_) (fun c_71 => ?_)
                  · have hth_72 := th_neg hta_58 hta_62 (thg_gt c_63) c_71
                    refine lv_iinc (v := (nI (ii_5 + 1))) (lv' := [(7, .int (nI (ii_5 + 1))), (11, .long x_57), (5, .long x_61), (3, .long x_57), (10, .int r_30), (9, .int r_29), (8, .int 0), (0, .ref (a 0)), (1, .int (nI j_2)), (2, .int (nI j_4))]) hx hb dX8_thought_218 hl (k := 6) rfl (nI_add ii_5 1) (by decide) rfl (fun ls hl => ?_)
                    refine lv_goto (tgt := 32) hx hb dX8_thought_221 (by decide) ?_
                    exact ih_5 _ (ii_5 + 1, x_57, x_61) _ _ _ (by omega) ⟨rfl, ⟨⟨by omega, by omega, by omega⟩, hth_72.1, hth_72.2⟩, hP, hS, (lv_sub hl [0, 2, 3, 7, 8, 9] rfl)⟩
                  · refine lv_lload_n hx hb dX8_thought_198 rfl (lv_at hl 2 rfl) ?_
                    refine lv_ldc2 hx hb hown (hts _ tw_1363) dX8_thought_199 ?_
                    refine lv_lmul hx hb dX8_thought_202 ?_
                    refine lv_topl (fun x_73 ex_73 => ?_)
                    refine lv_lload hx hb dX8_thought_203 (lv_at hl 0 rfl) ?_
                    refine lv_ldiv hx hb dX8_thought_205 (fun h => c_71 (by rw [h]; decide)) ?_
                    refine lv_topl (fun x_74 ex_74 => ?_)
                    refine lv_lstore_n (lv' := [(3, .long x_74), (11, .long x_57), (5, .long x_61), (10, .int r_30), (9, .int r_29), (8, .int 0), (7, .int (nI ii_5)), (0, .ref (a 0)), (1, .int (nI j_2)), (2, .int (nI j_4))]) hx hb dX8_thought_206 rfl hl (by decide) rfl (fun ls hl => ?_)
                    refine lv_lload hx hb dX8_thought_207 (lv_at hl 2 rfl) ?_
                    refine lv_ldc2 hx hb hown (hts _ tw_1363) dX8_thought_209 ?_
                    refine lv_lmul hx hb dX8_thought_212 ?_
                    refine lv_topl (fun x_75 ex_75 => ?_)
                    refine lv_lload hx hb dX8_thought_213 (lv_at hl 1 rfl) ?_
                    refine lv_ldiv hx hb dX8_thought_215 (fun h => c_71 (by rw [h]; decide)) ?_
                    refine lv_topl (fun x_76 ex_76 => ?_)
                    refine lv_lstore (lv' := [(5, .long x_76), (3, .long x_74), (11, .long x_57), (10, .int r_30), (9, .int r_29), (8, .int 0), (7, .int (nI ii_5)), (0, .ref (a 0)), (1, .int (nI j_2)), (2, .int (nI j_4))]) hx hb dX8_thought_216 hl (by decide) rfl (fun ls hl => ?_)
                    have hth_77 := th_pos hta_58 hta_62 (thg_gt c_63) c_71 ex_73 ex_74 ex_75 ex_76
                    refine lv_iinc (v := (nI (ii_5 + 1))) (lv' := [(7, .int (nI (ii_5 + 1))), (5, .long x_76), (3, .long x_74), (11, .long x_57), (10, .int r_30), (9, .int r_29), (8, .int 0), (0, .ref (a 0)), (1, .int (nI j_2)), (2, .int (nI j_4))]) hx hb dX8_thought_218 hl (k := 6) rfl (nI_add ii_5 1) (by decide) rfl (fun ls hl => ?_)
                    refine lv_goto (tgt := 32) hx hb dX8_thought_221 (by decide) ?_
                    exact ih_5 _ (ii_5 + 1, x_74, x_76) _ _ _ (by omega) ⟨rfl, ⟨⟨by omega, by omega, by omega⟩, hth_77.1, hth_77.2⟩, hP, hS, (lv_sub hl [0, 1, 2, 7, 8, 9] rfl)⟩
            · have c_27 : ¬ (ii_5 ≤ 0) := fun h => c_27 ((nI_leI (a := ii_5) (b := 0) (by omega) (by omega)).mpr h)
              refine lv_aload_n hx hb dX8_thought_68 rfl (lv_at hl 3 rfl) ?_
              refine va_get (D := D) (ci := 8) (v := .ref (a 32)) (C := RX8) (T := TX8) (N := 44) hx hb hts inX8 hown hK hP 0 rfl rfl 31 (by decide) (hts _ tw_1004) (fun _ h9 => h9) rfl dX8_thought_69 ?_
              refine lv_iload hx hb dX8_thought_72 (lv_at hl 0 rfl) ?_
              refine lv_if_le (tgt := 84) hx hb dX8_thought_74 (by decide) (fun h => absurd ((nI_leI (a := ii_5) (b := 0) (by omega) (by omega)).mp h) (by omega)) (fun _ => ?_)
              refine lv_iload hx hb dX8_thought_77 (lv_at hl 0 rfl) ?_
              refine lv_iconst (v := 1) hx hb dX8_thought_79 (by decide) ?_
              refine lv_isub hx hb dX8_thought_80 ?_
              refine lv_ti (y := (nI (ii_5 - 1))) (pk_sub (a := ii_5) (b := 1) (by omega)) ?_
              refine lv_goto (tgt := 85) hx hb dX8_thought_81 (by decide) ?_
              refine va_zald hx hb hK hP 5 2 rfl rfl (vp_in_nI (by omega) (by decide)) dX8_thought_85 ?_
              refine lv_ti (y := (frow (ii_5 - 1))) (by rw [nI_clamp (by omega)]) ?_
              refine lv_if_eq (tgt := 93) hx hb dX8_thought_86 (by decide) (fun c_79 => ?_) (fun c_79 => ?_)
              · refine lv_iconst (v := 0) hx hb dX8_thought_93 (by decide) ?_
                have hah_80 : (0 : Int32) = pAhd frow ii_5 := thh_0 (by omega) c_79
                refine lv_istore (lv' := [(8, .int 0), (7, .int (nI ii_5)), (5, .long v2_5), (3, .long w2_5), (0, .ref (a 0)), (1, .int (nI j_2)), (2, .int (nI j_4))]) hx hb dX8_thought_94 hl (by decide) rfl (fun ls hl => ?_)
                refine lv_aload_n hx hb dX8_thought_96 rfl (lv_at hl 4 rfl) ?_
                refine lv_iload_n hx hb dX8_thought_97 rfl (lv_at hl 5 rfl) ?_
                refine lv_iload hx hb dX8_thought_98 (lv_at hl 1 rfl) ?_
                refine lv_iload hx hb dX8_thought_100 (lv_at hl 0 rfl) ?_
                refine ro_i (D := D) (va_runV (As := [.int (nI j_2), .int (nI ii_5), .int 0]) (rest := []) ⟨hx, hb, hml, hown, hts⟩ ((n_chanceOf l D k st lo a tx t0 we rd ru rw ca fp wd nu na ts df db sd ffrees se tm gs j_2 ii_5 0 (by first | assumption | omega) (by first | assumption | omega)) H.size) (cwV 3 hts (gV tw_1210 tw_1212 tw_41 tw_87 tw_1213) rfl rfl rfl (by decide +kernel) ⟨Nat.le_of_ble_eq_true rfl, Nat.le_of_ble_eq_true rfl⟩) (pV hS hAlo hlo hP hK hDL hZ [0, 3, 2] (by decide) rfl (ci := 8) (q := (RX8, TX8, 44)) (q0 := 0) rfl rfl) rfl rfl hl.1 rfl (lv_room (Nat.le_of_ble_eq_true rfl)) dX8_thought_102 ⟨Nat.le_of_ble_eq_true rfl, Nat.le_of_ble_eq_true rfl⟩) hS hA hP (fun r_81 H locs hw_81 hP hS => ?_)
                try dsimp only at hw_81
                refine lv_istore (lv' := [(9, .int r_81), (8, .int 0), (7, .int (nI ii_5)), (5, .long v2_5), (3, .long w2_5), (0, .ref (a 0)), (1, .int (nI j_2)), (2, .int (nI j_4))]) hx hb dX8_thought_105 hl (by decide) rfl (fun ls hl => ?_)
                refine lv_aload_n hx hb dX8_thought_107 rfl (lv_at hl 5 rfl) ?_
                refine lv_iload_n hx hb dX8_thought_108 rfl (lv_at hl 7 rfl) ?_
                refine lv_iload hx hb dX8_thought_109 (lv_at hl 2 rfl) ?_
                refine lv_iload hx hb dX8_thought_111 (lv_at hl 1 rfl) ?_
                refine ro_i (D := D) (va_runV (As := [.int (nI j_4), .int (nI ii_5), .int 0]) (rest := []) ⟨hx, hb, hml, hown, hts⟩ ((n_chanceOf l D k st lo a tx t0 we rd ru rw ca fp wd nu na ts df db sd ffrees se tm gs j_4 ii_5 0 (by first | assumption | omega) (by first | assumption | omega)) H.size) (cwV 3 hts (gV tw_1210 tw_1212 tw_41 tw_87 tw_1213) rfl rfl rfl (by decide +kernel) ⟨Nat.le_of_ble_eq_true rfl, Nat.le_of_ble_eq_true rfl⟩) (pV hS hAlo hlo hP hK hDL hZ [0, 3, 2] (by decide) rfl (ci := 8) (q := (RX8, TX8, 44)) (q0 := 0) rfl rfl) rfl rfl hl.1 rfl (lv_room (Nat.le_of_ble_eq_true rfl)) dX8_thought_113 ⟨Nat.le_of_ble_eq_true rfl, Nat.le_of_ble_eq_true rfl⟩) hS hA hP (fun r_82 H locs hw_82 hP hS => ?_)
                try dsimp only at hw_82
                refine lv_istore (lv' := [(10, .int r_82), (9, .int r_81), (8, .int 0), (7, .int (nI ii_5)), (5, .long v2_5), (3, .long w2_5), (0, .ref (a 0)), (1, .int (nI j_2)), (2, .int (nI j_4))]) hx hb dX8_thought_116 hl (by decide) rfl (fun ls hl => ?_)
                refine lv_lload_n hx hb dX8_thought_118 rfl (lv_at hl 5 rfl) ?_
                refine lv_aload_n hx hb dX8_thought_119 rfl (lv_at hl 6 rfl) ?_
                refine va_get (D := D) (ci := 8) (v := .ref (a 32)) (C := RX8) (T := TX8) (N := 44) hx hb hts inX8 hown hK hP 0 rfl rfl 31 (by decide) (hts _ tw_1004) (fun _ h9 => h9) rfl dX8_thought_120 ?_
                refine lv_iload hx hb dX8_thought_123 (lv_at hl 3 rfl) ?_
                refine va_zald hx hb hK hP 5 2 rfl rfl (vp_in_nI (by omega) (by decide)) dX8_thought_125 ?_
                refine lv_ti (y := (frow ii_5)) (by rw [nI_clamp (by omega)]) ?_
                refine lv_if_eq (tgt := 134) hx hb dX8_thought_126 (by decide) (fun c_83 => ?_) (fun c_83 => ?_)
                · refine lv_bipush (v := 100) hx hb dX8_thought_134 (by decide) ?_
                  refine lv_iload hx hb dX8_thought_136 (lv_at hl 1 rfl) ?_
                  refine lv_isub hx hb dX8_thought_138 ?_
                  refine lv_topi (fun x_84 ex_84 => ?_)
                  refine lv_i2l (v := x_84.toInt64) hx hb dX8_thought_139 rfl ?_
                  refine lv_lmul hx hb dX8_thought_140 ?_
                  refine lv_topl (fun x_85 ex_85 => ?_)
                  refine lv_ldc2 hx hb hown (hts _ tw_1272) dX8_thought_141 ?_
                  refine lv_ldiv hx hb dX8_thought_144 (by decide) ?_
                  refine lv_topl (fun x_86 ex_86 => ?_)
                  have hta_87 : x_86 = thA (thN (sdM dn (sg se tm gs) ffrees fprices j_2) (sdM dn (sg se tm gs) ffrees fprices j_4) frow ii_5).1 (pLk (sdM dn (sg se tm gs) ffrees fprices j_2) ii_5 (pAhd frow ii_5) (frow ii_5)) := by unfold thA pLk; rw [if_neg (by rw [c_83]; decide), ← hah_80, ex_86, ex_85, ex_84, hw_81, mChance (dn := dn) (fpr := fprices) (show ii_5 < dn j_2 by omega), hv_5.2.1]
                  refine lv_lstore_n (lv' := [(3, .long x_86), (10, .int r_82), (9, .int r_81), (8, .int 0), (7, .int (nI ii_5)), (5, .long v2_5), (0, .ref (a 0)), (1, .int (nI j_2)), (2, .int (nI j_4))]) hx hb dX8_thought_145 rfl hl (by decide) rfl (fun ls hl => ?_)
                  refine lv_lload hx hb dX8_thought_146 (lv_at hl 5 rfl) ?_
                  refine lv_aload_n hx hb dX8_thought_148 rfl (lv_at hl 6 rfl) ?_
                  refine va_get (D := D) (ci := 8) (v := .ref (a 32)) (C := RX8) (T := TX8) (N := 44) hx hb hts inX8 hown hK hP 0 rfl rfl 31 (by decide) (hts _ tw_1004) (fun _ h9 => h9) rfl dX8_thought_149 ?_
                  refine lv_iload hx hb dX8_thought_152 (lv_at hl 4 rfl) ?_
                  refine va_zald hx hb hK hP 5 2 rfl rfl (vp_in_nI (by omega) (by decide)) dX8_thought_154 ?_
                  refine lv_ti (y := (frow ii_5)) (by rw [nI_clamp (by omega)]) ?_
                  refine lv_if_eq (tgt := 163) hx hb dX8_thought_155 (by decide) (fun c_88 => ?_) (fun c_88 => absurd c_88 (fun h => h c_83))
                  refine lv_bipush (v := 100) hx hb dX8_thought_163 (by decide) ?_
                  refine lv_iload hx hb dX8_thought_165 (lv_at hl 1 rfl) ?_
                  refine lv_isub hx hb dX8_thought_167 ?_
                  refine lv_topi (fun x_89 ex_89 => ?_)
                  refine lv_i2l (v := x_89.toInt64) hx hb dX8_thought_168 rfl ?_
                  refine lv_lmul hx hb dX8_thought_169 ?_
                  refine lv_topl (fun x_90 ex_90 => ?_)
                  refine lv_ldc2 hx hb hown (hts _ tw_1272) dX8_thought_170 ?_
                  refine lv_ldiv hx hb dX8_thought_173 (by decide) ?_
                  refine lv_topl (fun x_91 ex_91 => ?_)
                  have hta_92 : x_91 = thA (thN (sdM dn (sg se tm gs) ffrees fprices j_2) (sdM dn (sg se tm gs) ffrees fprices j_4) frow ii_5).2 (pLk (sdM dn (sg se tm gs) ffrees fprices j_4) ii_5 (pAhd frow ii_5) (frow ii_5)) := by unfold thA pLk; rw [if_neg (by rw [c_83]; decide), ← hah_80, ex_91, ex_90, ex_89, hw_82, mChance (dn := dn) (fpr := fprices) (show ii_5 < dn j_4 by omega), hv_5.2.2]
                  refine lv_lstore (lv' := [(5, .long x_91), (3, .long x_86), (10, .int r_82), (9, .int r_81), (8, .int 0), (7, .int (nI ii_5)), (0, .ref (a 0)), (1, .int (nI j_2)), (2, .int (nI j_4))]) hx hb dX8_thought_174 hl (by decide) rfl (fun ls hl => ?_)
                  refine lv_lload_n hx hb dX8_thought_176 rfl (lv_at hl 1 rfl) ?_
                  refine lv_lload hx hb dX8_thought_177 (lv_at hl 0 rfl) ?_
                  refine W.lcmp hx hb dX8_thought_179 ?_
                  refine lv_if_le (tgt := 187) hx hb dX8_thought_180 (by decide) (fun c_93 => ?_) (fun c_93 => ?_)
                  · refine lv_lload hx hb dX8_thought_187 (lv_at hl 0 rfl) ?_
                    refine lv_lstore (lv' := [(11, .long x_91), (5, .long x_91), (3, .long x_86), (10, .int r_82), (9, .int r_81), (8, .int 0), (7, .int (nI ii_5)), (0, .ref (a 0)), (1, .int (nI j_2)), (2, .int (nI j_4))]) hx hb dX8_thought_189 hl (by decide) rfl (fun ls hl => ?_)
                    refine lv_lload hx hb dX8_thought_191 (lv_at hl 0 rfl) ?_
                    refine lv_lconst (v := 0) hx hb dX8_thought_193 (by decide) ?_
                    refine W.lcmp hx hb dX8_thought_194 ?_
                    refine lv_if_le (tgt := 218) hx hb dX8_thought_195 (by decide) (fun c_94 => ?_) (fun c_94 => ?_)
                    · have hth_95 := th_neg hta_87 hta_92 (thg_le c_93) c_94
                      refine lv_iinc (v := (nI (ii_5 + 1))) (lv' := [(7, .int (nI (ii_5 + 1))), (11, .long x_91), (5, .long x_91), (3, .long x_86), (10, .int r_82), (9, .int r_81), (8, .int 0), (0, .ref (a 0)), (1, .int (nI j_2)), (2, .int (nI j_4))]) hx hb dX8_thought_218 hl (k := 6) rfl (nI_add ii_5 1) (by decide) rfl (fun ls hl => ?_)
                      refine lv_goto (tgt := 32) hx hb dX8_thought_221 (by decide) ?_
                      exact ih_5 _ (ii_5 + 1, x_86, x_91) _ _ _ (by omega) ⟨rfl, ⟨⟨by omega, by omega, by omega⟩, hth_95.1, hth_95.2⟩, hP, hS, (lv_sub hl [0, 2, 3, 7, 8, 9] rfl)⟩
                    · refine lv_lload_n hx hb dX8_thought_198 rfl (lv_at hl 2 rfl) ?_
                      refine lv_ldc2 hx hb hown (hts _ tw_1363) dX8_thought_199 ?_
                      refine lv_lmul hx hb dX8_thought_202 ?_
                      refine lv_topl (fun x_96 ex_96 => ?_)
                      refine lv_lload hx hb dX8_thought_203 (lv_at hl 0 rfl) ?_
                      refine lv_ldiv hx hb dX8_thought_205 (fun h => c_94 (by rw [h]; decide)) ?_
                      refine lv_topl (fun x_97 ex_97 => ?_)
                      refine lv_lstore_n (lv' := [(3, .long x_97), (11, .long x_91), (5, .long x_91), (10, .int r_82), (9, .int r_81), (8, .int 0), (7, .int (nI ii_5)), (0, .ref (a 0)), (1, .int (nI j_2)), (2, .int (nI j_4))]) hx hb dX8_thought_206 rfl hl (by decide) rfl (fun ls hl => ?_)
                      refine lv_lload hx hb dX8_thought_207 (lv_at hl 2 rfl) ?_
                      refine lv_ldc2 hx hb hown (hts _ tw_1363) dX8_thought_209 ?_
                      refine lv_lmul hx hb dX8_thought_212 ?_
                      refine lv_topl (fun x_98 ex_98 => ?_)
                      refine lv_lload hx hb dX8_thought_213 (lv_at hl 1 rfl) ?_
                      refine lv_ldiv hx hb dX8_thought_215 (fun h => c_94 (by rw [h]; decide)) ?_
                      refine lv_topl (fun x_99 ex_99 => ?_)
                      refine lv_lstore (lv' := [(5, .long x_99), (3, .long x_97), (11, .long x_91), (10, .int r_82), (9, .int r_81), (8, .int 0), (7, .int (nI ii_5)), (0, .ref (a 0)), (1, .int (nI j_2)), (2, .int (nI j_4))]) hx hb dX8_thought_216 hl (by decide) rfl (fun ls hl => ?_)
                      have hth_100 := th_pos hta_87 hta_92 (thg_le c_93) c_94 ex_96 ex_97 ex_98 ex_99
                      refine lv_iinc (v := (nI (ii_5 + 1))) (lv' := [(7, .int (nI (ii_5 + 1))), (5, .long x_99), (3, .long x_97), (11, .long x_91), (10, .int r_82), (9, .int r_81), (8, .int 0), (0, .ref (a 0)), (1, .int (nI j_2)), (2, .int (nI j_4))]) hx hb dX8_thought_218 hl (k := 6) rfl (nI_add ii_5 1) (by decide) rfl (fun ls hl => ?_)
                      refine lv_goto (tgt := 32) hx hb dX8_thought_221 (by decide) ?_
                      exact ih_5 _ (ii_5 + 1, x_97, x_99) _ _ _ (by omega) ⟨rfl, ⟨⟨by omega, by omega, by omega⟩, hth_100.1, hth_100.2⟩, hP, hS, (lv_sub hl [0, 1, 2, 7, 8, 9] rfl)⟩
                  · refine lv_lload_n hx hb dX8_thought_183 rfl (lv_at hl 1 rfl) ?_
                    refine lv_goto (tgt := 189) hx hb dX8_thought_184 (by decide) ?_
                    refine lv_lstore (lv' := [(11, .long x_86), (5, .long x_91), (3, .long x_86), (10, .int r_82), (9, .int r_81), (8, .int 0), (7, .int (nI ii_5)), (0, .ref (a 0)), (1, .int (nI j_2)), (2, .int (nI j_4))]) hx hb dX8_thought_189 hl (by decide) rfl (fun ls hl => ?_)
                    refine lv_lload hx hb dX8_thought_191 (lv_at hl 0 rfl) ?_
                    refine lv_lconst (v := 0) hx hb dX8_thought_193 (by decide) ?_
                    refine W.lcmp hx hb dX8_thought_194 ?_
                    refine lv_if_le (tgt := 218) hx hb dX8_thought_195 (by decide) (fun c_101 => ?_) (fun c_101 => ?_)
                    · have hth_102 := th_neg hta_87 hta_92 (thg_gt c_93) c_101
                      refine lv_iinc (v := (nI (ii_5 + 1))) (lv' := [(7, .int (nI (ii_5 + 1))), (11, .long x_86), (5, .long x_91), (3, .long x_86), (10, .int r_82), (9, .int r_81), (8, .int 0), (0, .ref (a 0)), (1, .int (nI j_2)), (2, .int (nI j_4))]) hx hb dX8_thought_218 hl (k := 6) rfl (nI_add ii_5 1) (by decide) rfl (fun ls hl => ?_)
                      refine lv_goto (tgt := 32) hx hb dX8_thought_221 (by decide) ?_
                      exact ih_5 _ (ii_5 + 1, x_86, x_91) _ _ _ (by omega) ⟨rfl, ⟨⟨by omega, by omega, by omega⟩, hth_102.1, hth_102.2⟩, hP, hS, (lv_sub hl [0, 2, 3, 7, 8, 9] rfl)⟩
                    · refine lv_lload_n hx hb dX8_thought_198 rfl (lv_at hl 2 rfl) ?_
                      refine lv_ldc2 hx hb hown (hts _ tw_1363) dX8_thought_199 ?_
                      refine lv_lmul hx hb dX8_thought_202 ?_
                      refine lv_topl (fun x_103 ex_103 => ?_)
                      refine lv_lload hx hb dX8_thought_203 (lv_at hl 0 rfl) ?_
                      refine lv_ldiv hx hb dX8_thought_205 (fun h => c_101 (by rw [h]; decide)) ?_
                      refine lv_topl (fun x_104 ex_104 => ?_)
                      refine lv_lstore_n (lv' := [(3, .long x_104), (11, .long x_86), (5, .long x_91), (10, .int r_82), (9, .int r_81), (8, .int 0), (7, .int (nI ii_5)), (0, .ref (a 0)), (1, .int (nI j_2)), (2, .int (nI j_4))]) hx hb dX8_thought_206 rfl hl (by decide) rfl (fun ls hl => ?_)
                      refine lv_lload hx hb dX8_thought_207 (lv_at hl 2 rfl) ?_
                      refine lv_ldc2 hx hb hown (hts _ tw_1363) dX8_thought_209 ?_
                      refine lv_lmul hx hb dX8_thought_212 ?_
                      refine lv_topl (fun x_105 ex_105 => ?_)
                      refine lv_lload hx hb dX8_thought_213 (lv_at hl 1 rfl) ?_
                      refine lv_ldiv hx hb dX8_thought_215 (fun h => c_101 (by rw [h]; decide)) ?_
                      refine lv_topl (fun x_106 ex_106 => ?_)
                      refine lv_lstore (lv' := [(5, .long x_106), (3, .long x_104), (11, .long x_86), (10, .int r_82), (9, .int r_81), (8, .int 0), (7, .int (nI ii_5)), (0, .ref (a 0)), (1, .int (nI j_2)), (2, .int (nI j_4))]) hx hb dX8_thought_216 hl (by decide) rfl (fun ls hl => ?_)
                      have hth_107 := th_pos hta_87 hta_92 (thg_gt c_93) c_101 ex_103 ex_104 ex_105 ex_106
                      refine lv_iinc (v := (nI (ii_5 + 1))) (lv' := [(7, .int (nI (ii_5 + 1))), (5, .long x_106), (3, .long x_104), (11, .long x_86), (10, .int r_82), (9, .int r_81), (8, .int 0), (0, .ref (a 0)), (1, .int (nI j_2)), (2, .int (nI j_4))]) hx hb dX8_thought_218 hl (k := 6) rfl (nI_add ii_5 1) (by decide) rfl (fun ls hl => ?_)
                      refine lv_goto (tgt := 32) hx hb dX8_thought_221 (by decide) ?_
                      exact ih_5 _ (ii_5 + 1, x_104, x_106) _ _ _ (by omega) ⟨rfl, ⟨⟨by omega, by omega, by omega⟩, hth_107.1, hth_107.2⟩, hP, hS, (lv_sub hl [0, 1, 2, 7, 8, 9] rfl)⟩
                · refine lv_iload hx hb dX8_thought_129 (lv_at hl 1 rfl) ?_
                  refine lv_goto (tgt := 139) hx hb dX8_thought_131 (by decide) ?_
                  refine lv_i2l (v := r_81.toInt64) hx hb dX8_thought_139 rfl ?_
                  refine lv_lmul hx hb dX8_thought_140 ?_
                  refine lv_topl (fun x_108 ex_108 => ?_)
                  refine lv_ldc2 hx hb hown (hts _ tw_1272) dX8_thought_141 ?_
                  refine lv_ldiv hx hb dX8_thought_144 (by decide) ?_
                  refine lv_topl (fun x_109 ex_109 => ?_)
                  have hta_110 : x_109 = thA (thN (sdM dn (sg se tm gs) ffrees fprices j_2) (sdM dn (sg se tm gs) ffrees fprices j_4) frow ii_5).1 (pLk (sdM dn (sg se tm gs) ffrees fprices j_2) ii_5 (pAhd frow ii_5) (frow ii_5)) := by unfold thA pLk; rw [if_pos ((hfr _ (by omega)).resolve_left c_83), ← hah_80, ex_109, ex_108, hw_81, mChance (dn := dn) (fpr := fprices) (show ii_5 < dn j_2 by omega), hv_5.2.1]
                  refine lv_lstore_n (lv' := [(3, .long x_109), (10, .int r_82), (9, .int r_81), (8, .int 0), (7, .int (nI ii_5)), (5, .long v2_5), (0, .ref (a 0)), (1, .int (nI j_2)), (2, .int (nI j_4))]) hx hb dX8_thought_145 rfl hl (by decide) rfl (fun ls hl => ?_)
                  refine lv_lload hx hb dX8_thought_146 (lv_at hl 5 rfl) ?_
                  refine lv_aload_n hx hb dX8_thought_148 rfl (lv_at hl 6 rfl) ?_
                  refine va_get (D := D) (ci := 8) (v := .ref (a 32)) (C := RX8) (T := TX8) (N := 44) hx hb hts inX8 hown hK hP 0 rfl rfl 31 (by decide) (hts _ tw_1004) (fun _ h9 => h9) rfl dX8_thought_149 ?_
                  refine lv_iload hx hb dX8_thought_152 (lv_at hl 4 rfl) ?_
                  refine va_zald hx hb hK hP 5 2 rfl rfl (vp_in_nI (by omega) (by decide)) dX8_thought_154 ?_
                  refine lv_ti (y := (frow ii_5)) (by rw [nI_clamp (by omega)]) ?_
                  refine lv_if_eq (tgt := 163) hx hb dX8_thought_155 (by decide) (fun c_111 => absurd c_111 (c_83)) (fun c_111 => ?_)
                  refine lv_iload hx hb dX8_thought_158 (lv_at hl 1 rfl) ?_
                  refine lv_goto (tgt := 168) hx hb dX8_thought_160 (by decide) ?_
                  refine lv_i2l (v := r_82.toInt64) hx hb dX8_thought_168 rfl ?_
                  refine lv_lmul hx hb dX8_thought_169 ?_
                  refine lv_topl (fun x_112 ex_112 => ?_)
                  refine lv_ldc2 hx hb hown (hts _ tw_1272) dX8_thought_170 ?_
                  refine lv_ldiv hx hb dX8_thought_173 (by decide) ?_
                  refine lv_topl (fun x_113 ex_113 => ?_)
                  have hta_114 : x_113 = thA (thN (sdM dn (sg se tm gs) ffrees fprices j_2) (sdM dn (sg se tm gs) ffrees fprices j_4) frow ii_5).2 (pLk (sdM dn (sg se tm gs) ffrees fprices j_4) ii_5 (pAhd frow ii_5) (frow ii_5)) := by unfold thA pLk; rw [if_pos ((hfr _ (by omega)).resolve_left c_83), ← hah_80, ex_113, ex_112, hw_82, mChance (dn := dn) (fpr := fprices) (show ii_5 < dn j_4 by omega), hv_5.2.2]
                  refine lv_lstore (lv' := [(5, .long x_113), (3, .long x_109), (10, .int r_82), (9, .int r_81), (8, .int 0), (7, .int (nI ii_5)), (0, .ref (a 0)), (1, .int (nI j_2)), (2, .int (nI j_4))]) hx hb dX8_thought_174 hl (by decide) rfl (fun ls hl => ?_)
                  refine lv_lload_n hx hb dX8_thought_176 rfl (lv_at hl 1 rfl) ?_
                  refine lv_lload hx hb dX8_thought_177 (lv_at hl 0 rfl) ?_
                  refine W.lcmp hx hb dX8_thought_179 ?_
                  refine lv_if_le (tgt := 187) hx hb dX8_thought_180 (by decide) (fun c_115 => ?_) (fun c_115 => ?_)
                  · refine lv_lload hx hb dX8_thought_187 (lv_at hl 0 rfl) ?_
                    refine lv_lstore (lv' := [(11, .long x_113), (5, .long x_113), (3, .long x_109), (10, .int r_82), (9, .int r_81), (8, .int 0), (7, .int (nI ii_5)), (0, .ref (a 0)), (1, .int (nI j_2)), (2, .int (nI j_4))]) hx hb dX8_thought_189 hl (by decide) rfl (fun ls hl => ?_)
                    refine lv_lload hx hb dX8_thought_191 (lv_at hl 0 rfl) ?_
                    refine lv_lconst (v := 0) hx hb dX8_thought_193 (by decide) ?_
                    refine W.lcmp hx hb dX8_thought_194 ?_
                    refine lv_if_le (tgt := 218) hx hb dX8_thought_195 (by decide) (fun c_116 => ?_) (fun c_116 => ?_)
                    · have hth_117 := th_neg hta_110 hta_114 (thg_le c_115) c_116
                      refine lv_iinc (v := (nI (ii_5 + 1))) (lv' := [(7, .int (nI (ii_5 + 1))), (11, .long x_113), (5, .long x_113), (3, .long x_109), (10, .int r_82), (9, .int r_81), (8, .int 0), (0, .ref (a 0)), (1, .int (nI j_2)), (2, .int (nI j_4))]) hx hb dX8_thought_218 hl (k := 6) rfl (nI_add ii_5 1) (by decide) rfl (fun ls hl => ?_)
                      refine lv_goto (tgt := 32) hx hb dX8_thought_221 (by decide) ?_
                      exact ih_5 _ (ii_5 + 1, x_109, x_113) _ _ _ (by omega) ⟨rfl, ⟨⟨by omega, by omega, by omega⟩, hth_117.1, hth_117.2⟩, hP, hS, (lv_sub hl [0, 2, 3, 7, 8, 9] rfl)⟩
                    · refine lv_lload_n hx hb dX8_thought_198 rfl (lv_at hl 2 rfl) ?_
                      refine lv_ldc2 hx hb hown (hts _ tw_1363) dX8_thought_199 ?_
                      refine lv_lmul hx hb dX8_thought_202 ?_
                      refine lv_topl (fun x_118 ex_118 => ?_)
                      refine lv_lload hx hb dX8_thought_203 (lv_at hl 0 rfl) ?_
                      refine lv_ldiv hx hb dX8_thought_205 (fun h => c_116 (by rw [h]; decide)) ?_
                      refine lv_topl (fun x_119 ex_119 => ?_)
                      refine lv_lstore_n (lv' := [(3, .long x_119), (11, .long x_113), (5, .long x_113), (10, .int r_82), (9, .int r_81), (8, .int 0), (7, .int (nI ii_5)), (0, .ref (a 0)), (1, .int (nI j_2)), (2, .int (nI j_4))]) hx hb dX8_thought_206 rfl hl (by decide) rfl (fun ls hl => ?_)
                      refine lv_lload hx hb dX8_thought_207 (lv_at hl 2 rfl) ?_
                      refine lv_ldc2 hx hb hown (hts _ tw_1363) dX8_thought_209 ?_
                      refine lv_lmul hx hb dX8_thought_212 ?_
                      refine lv_topl (fun x_120 ex_120 => ?_)
                      refine lv_lload hx hb dX8_thought_213 (lv_at hl 1 rfl) ?_
                      refine lv_ldiv hx hb dX8_thought_215 (fun h => c_116 (by rw [h]; decide)) ?_
                      refine lv_topl (fun x_121 ex_121 => ?_)
                      refine lv_lstore (lv' := [(5, .long x_121), (3, .long x_119), (11, .long x_113), (10, .int r_82), (9, .int r_81), (8, .int 0), (7, .int (nI ii_5)), (0, .ref (a 0)), (1, .int (nI j_2)), (2, .int (nI j_4))]) hx hb dX8_thought_216 hl (by decide) rfl (fun ls hl => ?_)
                      have hth_122 := th_pos hta_110 hta_114 (thg_le c_115) c_116 ex_118 ex_119 ex_120 ex_121
                      refine lv_iinc (v := (nI (ii_5 + 1))) (lv' := [(7, .int (nI (ii_5 + 1))), (5, .long x_121), (3, .long x_119), (11, .long x_113), (10, .int r_82), (9, .int r_81), (8, .int 0), (0, .ref (a 0)), (1, .int (nI j_2)), (2, .int (nI j_4))]) hx hb dX8_thought_218 hl (k := 6) rfl (nI_add ii_5 1) (by decide) rfl (fun ls hl => ?_)
                      refine lv_goto (tgt := 32) hx hb dX8_thought_221 (by decide) ?_
                      exact ih_5 _ (ii_5 + 1, x_119, x_121) _ _ _ (by omega) ⟨rfl, ⟨⟨by omega, by omega, by omega⟩, hth_122.1, hth_122.2⟩, hP, hS, (lv_sub hl [0, 1, 2, 7, 8, 9] rfl)⟩
                  · refine lv_lload_n hx hb dX8_thought_183 rfl (lv_at hl 1 rfl) ?_
                    refine lv_goto (tgt := 189) hx hb dX8_thought_184 (by decide) ?_
                    refine lv_lstore (lv' := [(11, .long x_109), (5, .long x_113), (3, .long x_109), (10, .int r_82), (9, .int r_81), (8, .int 0), (7, .int (nI ii_5)), (0, .ref (a 0)), (1, .int (nI j_2)), (2, .int (nI j_4))]) hx hb dX8_thought_189 hl (by decide) rfl (fun ls hl => ?_)
                    refine lv_lload hx hb dX8_thought_191 (lv_at hl 0 rfl) ?_
                    refine lv_lconst (v := 0) hx hb dX8_thought_193 (by decide) ?_
                    refine W.lcmp hx hb dX8_thought_194 ?_
                    refine lv_if_le (tgt := 218) hx hb dX8_thought_195 (by decide) (fun c_123 => ?_) (fun c_123 => ?_)
                    · have hth_124 := th_neg hta_110 hta_114 (thg_gt c_115) c_123
                      refine lv_iinc (v := (nI (ii_5 + 1))) (lv' := [(7, .int (nI (ii_5 + 1))), (11, .long x_109), (5, .long x_113), (3, .long x_109), (10, .int r_82), (9, .int r_81), (8, .int 0), (0, .ref (a 0)), (1, .int (nI j_2)), (2, .int (nI j_4))]) hx hb dX8_thought_218 hl (k := 6) rfl (nI_add ii_5 1) (by decide) rfl (fun ls hl => ?_)
                      refine lv_goto (tgt := 32) hx hb dX8_thought_221 (by decide) ?_
                      exact ih_5 _ (ii_5 + 1, x_109, x_113) _ _ _ (by omega) ⟨rfl, ⟨⟨by omega, by omega, by omega⟩, hth_124.1, hth_124.2⟩, hP, hS, (lv_sub hl [0, 2, 3, 7, 8, 9] rfl)⟩
                    · refine lv_lload_n hx hb dX8_thought_198 rfl (lv_at hl 2 rfl) ?_
                      refine lv_ldc2 hx hb hown (hts _ tw_1363) dX8_thought_199 ?_
                      refine lv_lmul hx hb dX8_thought_202 ?_
                      refine lv_topl (fun x_125 ex_125 => ?_)
                      refine lv_lload hx hb dX8_thought_203 (lv_at hl 0 rfl) ?_
                      refine lv_ldiv hx hb dX8_thought_205 (fun h => c_123 (by rw [h]; decide)) ?_
                      refine lv_topl (fun x_126 ex_126 => ?_)
                      refine lv_lstore_n (lv' := [(3, .long x_126), (11, .long x_109), (5, .long x_113), (10, .int r_82), (9, .int r_81), (8, .int 0), (7, .int (nI ii_5)), (0, .ref (a 0)), (1, .int (nI j_2)), (2, .int (nI j_4))]) hx hb dX8_thought_206 rfl hl (by decide) rfl (fun ls hl => ?_)
                      refine lv_lload hx hb dX8_thought_207 (lv_at hl 2 rfl) ?_
                      refine lv_ldc2 hx hb hown (hts _ tw_1363) dX8_thought_209 ?_
                      refine lv_lmul hx hb dX8_thought_212 ?_
                      refine lv_topl (fun x_127 ex_127 => ?_)
                      refine lv_lload hx hb dX8_thought_213 (lv_at hl 1 rfl) ?_
                      refine lv_ldiv hx hb dX8_thought_215 (fun h => c_123 (by rw [h]; decide)) ?_
                      refine lv_topl (fun x_128 ex_128 => ?_)
                      refine lv_lstore (lv' := [(5, .long x_128), (3, .long x_126), (11, .long x_109), (10, .int r_82), (9, .int r_81), (8, .int 0), (7, .int (nI ii_5)), (0, .ref (a 0)), (1, .int (nI j_2)), (2, .int (nI j_4))]) hx hb dX8_thought_216 hl (by decide) rfl (fun ls hl => ?_)
                      have hth_129 := th_pos hta_110 hta_114 (thg_gt c_115) c_123 ex_125 ex_126 ex_127 ex_128
                      refine lv_iinc (v := (nI (ii_5 + 1))) (lv' := [(7, .int (nI (ii_5 + 1))), (5, .long x_128), (3, .long x_126), (11, .long x_109), (10, .int r_82), (9, .int r_81), (8, .int 0), (0, .ref (a 0)), (1, .int (nI j_2)), (2, .int (nI j_4))]) hx hb dX8_thought_218 hl (k := 6) rfl (nI_add ii_5 1) (by decide) rfl (fun ls hl => ?_)
                      refine lv_goto (tgt := 32) hx hb dX8_thought_221 (by decide) ?_
                      exact ih_5 _ (ii_5 + 1, x_126, x_128) _ _ _ (by omega) ⟨rfl, ⟨⟨by omega, by omega, by omega⟩, hth_129.1, hth_129.2⟩, hP, hS, (lv_sub hl [0, 1, 2, 7, 8, 9] rfl)⟩
              · refine lv_iconst (v := 1) hx hb dX8_thought_89 (by decide) ?_
                refine lv_goto (tgt := 94) hx hb dX8_thought_90 (by decide) ?_
                have hah_130 : (1 : Int32) = pAhd frow ii_5 := thh_1 (by omega) ((hfr _ (by omega)).resolve_left c_79)
                refine lv_istore (lv' := [(8, .int 1), (7, .int (nI ii_5)), (5, .long v2_5), (3, .long w2_5), (0, .ref (a 0)), (1, .int (nI j_2)), (2, .int (nI j_4))]) hx hb dX8_thought_94 hl (by decide) rfl (fun ls hl => ?_)
                refine lv_aload_n hx hb dX8_thought_96 rfl (lv_at hl 4 rfl) ?_
                refine lv_iload_n hx hb dX8_thought_97 rfl (lv_at hl 5 rfl) ?_
                refine lv_iload hx hb dX8_thought_98 (lv_at hl 1 rfl) ?_
                refine lv_iload hx hb dX8_thought_100 (lv_at hl 0 rfl) ?_
                refine ro_i (D := D) (va_runV (As := [.int (nI j_2), .int (nI ii_5), .int 1]) (rest := []) ⟨hx, hb, hml, hown, hts⟩ ((n_chanceOf l D k st lo a tx t0 we rd ru rw ca fp wd nu na ts df db sd ffrees se tm gs j_2 ii_5 1 (by first | assumption | omega) (by first | assumption | omega)) H.size) (cwV 3 hts (gV tw_1210 tw_1212 tw_41 tw_87 tw_1213) rfl rfl rfl (by decide +kernel) ⟨Nat.le_of_ble_eq_true rfl, Nat.le_of_ble_eq_true rfl⟩) (pV hS hAlo hlo hP hK hDL hZ [0, 3, 2] (by decide) rfl (ci := 8) (q := (RX8, TX8, 44)) (q0 := 0) rfl rfl) rfl rfl hl.1 rfl (lv_room (Nat.le_of_ble_eq_true rfl)) dX8_thought_102 ⟨Nat.le_of_ble_eq_true rfl, Nat.le_of_ble_eq_true rfl⟩) hS hA hP (fun r_131 H locs hw_131 hP hS => ?_)
                try dsimp only at hw_131
                refine lv_istore (lv' := [(9, .int r_131), (8, .int 1), (7, .int (nI ii_5)), (5, .long v2_5), (3, .long w2_5), (0, .ref (a 0)), (1, .int (nI j_2)), (2, .int (nI j_4))]) hx hb dX8_thought_105 hl (by decide) rfl (fun ls hl => ?_)
                refine lv_aload_n hx hb dX8_thought_107 rfl (lv_at hl 5 rfl) ?_
                refine lv_iload_n hx hb dX8_thought_108 rfl (lv_at hl 7 rfl) ?_
                refine lv_iload hx hb dX8_thought_109 (lv_at hl 2 rfl) ?_
                refine lv_iload hx hb dX8_thought_111 (lv_at hl 1 rfl) ?_
                refine ro_i (D := D) (va_runV (As := [.int (nI j_4), .int (nI ii_5), .int 1]) (rest := []) ⟨hx, hb, hml, hown, hts⟩ ((n_chanceOf l D k st lo a tx t0 we rd ru rw ca fp wd nu na ts df db sd ffrees se tm gs j_4 ii_5 1 (by first | assumption | omega) (by first | assumption | omega)) H.size) (cwV 3 hts (gV tw_1210 tw_1212 tw_41 tw_87 tw_1213) rfl rfl rfl (by decide +kernel) ⟨Nat.le_of_ble_eq_true rfl, Nat.le_of_ble_eq_true rfl⟩) (pV hS hAlo hlo hP hK hDL hZ [0, 3, 2] (by decide) rfl (ci := 8) (q := (RX8, TX8, 44)) (q0 := 0) rfl rfl) rfl rfl hl.1 rfl (lv_room (Nat.le_of_ble_eq_true rfl)) dX8_thought_113 ⟨Nat.le_of_ble_eq_true rfl, Nat.le_of_ble_eq_true rfl⟩) hS hA hP (fun r_132 H locs hw_132 hP hS => ?_)
                try dsimp only at hw_132
                refine lv_istore (lv' := [(10, .int r_132), (9, .int r_131), (8, .int 1), (7, .int (nI ii_5)), (5, .long v2_5), (3, .long w2_5), (0, .ref (a 0)), (1, .int (nI j_2)), (2, .int (nI j_4))]) hx hb dX8_thought_116 hl (by decide) rfl (fun ls hl => ?_)
                refine lv_lload_n hx hb dX8_thought_118 rfl (lv_at hl 5 rfl) ?_
                refine lv_aload_n hx hb dX8_thought_119 rfl (lv_at hl 6 rfl) ?_
                refine va_get (D := D) (ci := 8) (v := .ref (a 32)) (C := RX8) (T := TX8) (N := 44) hx hb hts inX8 hown hK hP 0 rfl rfl 31 (by decide) (hts _ tw_1004) (fun _ h9 => h9) rfl dX8_thought_120 ?_
                refine lv_iload hx hb dX8_thought_123 (lv_at hl 3 rfl) ?_
                refine va_zald hx hb hK hP 5 2 rfl rfl (vp_in_nI (by omega) (by decide)) dX8_thought_125 ?_
                refine lv_ti (y := (frow ii_5)) (by rw [nI_clamp (by omega)]) ?_
                refine lv_if_eq (tgt := 134) hx hb dX8_thought_126 (by decide) (fun c_133 => ?_) (fun c_133 => ?_)
                · refine lv_bipush (v := 100) hx hb dX8_thought_134 (by decide) ?_
                  refine lv_iload hx hb dX8_thought_136 (lv_at hl 1 rfl) ?_
                  refine lv_isub hx hb dX8_thought_138 ?_
                  refine lv_topi (fun x_134 ex_134 => ?_)
                  refine lv_i2l (v := x_134.toInt64) hx hb dX8_thought_139 rfl ?_
                  refine lv_lmul hx hb dX8_thought_140 ?_
                  refine lv_topl (fun x_135 ex_135 => ?_)
                  refine lv_ldc2 hx hb hown (hts _ tw_1272) dX8_thought_141 ?_
                  refine lv_ldiv hx hb dX8_thought_144 (by decide) ?_
                  refine lv_topl (fun x_136 ex_136 => ?_)
                  have hta_137 : x_136 = thA (thN (sdM dn (sg se tm gs) ffrees fprices j_2) (sdM dn (sg se tm gs) ffrees fprices j_4) frow ii_5).1 (pLk (sdM dn (sg se tm gs) ffrees fprices j_2) ii_5 (pAhd frow ii_5) (frow ii_5)) := by unfold thA pLk; rw [if_neg (by rw [c_133]; decide), ← hah_130, ex_136, ex_135, ex_134, hw_131, mChance (dn := dn) (fpr := fprices) (show ii_5 < dn j_2 by omega), hv_5.2.1]
                  refine lv_lstore_n (lv' := [(3, .long x_136), (10, .int r_132), (9, .int r_131), (8, .int 1), (7, .int (nI ii_5)), (5, .long v2_5), (0, .ref (a 0)), (1, .int (nI j_2)), (2, .int (nI j_4))]) hx hb dX8_thought_145 rfl hl (by decide) rfl (fun ls hl => ?_)
                  refine lv_lload hx hb dX8_thought_146 (lv_at hl 5 rfl) ?_
                  refine lv_aload_n hx hb dX8_thought_148 rfl (lv_at hl 6 rfl) ?_
                  refine va_get (D := D) (ci := 8) (v := .ref (a 32)) (C := RX8) (T := TX8) (N := 44) hx hb hts inX8 hown hK hP 0 rfl rfl 31 (by decide) (hts _ tw_1004) (fun _ h9 => h9) rfl dX8_thought_149 ?_
                  refine lv_iload hx hb dX8_thought_152 (lv_at hl 4 rfl) ?_
                  refine va_zald hx hb hK hP 5 2 rfl rfl (vp_in_nI (by omega) (by decide)) dX8_thought_154 ?_
                  refine lv_ti (y := (frow ii_5)) (by rw [nI_clamp (by omega)]) ?_
                  refine lv_if_eq (tgt := 163) hx hb dX8_thought_155 (by decide) (fun c_138 => ?_) (fun c_138 => absurd c_138 (fun h => h c_133))
                  refine lv_bipush (v := 100) hx hb dX8_thought_163 (by decide) ?_
                  refine lv_iload hx hb dX8_thought_165 (lv_at hl 1 rfl) ?_
                  refine lv_isub hx hb dX8_thought_167 ?_
                  refine lv_topi (fun x_139 ex_139 => ?_)
                  refine lv_i2l (v := x_139.toInt64) hx hb dX8_thought_168 rfl ?_
                  refine lv_lmul hx hb dX8_thought_169 ?_
                  refine lv_topl (fun x_140 ex_140 => ?_)
                  refine lv_ldc2 hx hb hown (hts _ tw_1272) dX8_thought_170 ?_
                  refine lv_ldiv hx hb dX8_thought_173 (by decide) ?_
                  refine lv_topl (fun x_141 ex_141 => ?_)
                  have hta_142 : x_141 = thA (thN (sdM dn (sg se tm gs) ffrees fprices j_2) (sdM dn (sg se tm gs) ffrees fprices j_4) frow ii_5).2 (pLk (sdM dn (sg se tm gs) ffrees fprices j_4) ii_5 (pAhd frow ii_5) (frow ii_5)) := by unfold thA pLk; rw [if_neg (by rw [c_133]; decide), ← hah_130, ex_141, ex_140, ex_139, hw_132, mChance (dn := dn) (fpr := fprices) (show ii_5 < dn j_4 by omega), hv_5.2.2]
                  refine lv_lstore (lv' := [(5, .long x_141), (3, .long x_136), (10, .int r_132), (9, .int r_131), (8, .int 1), (7, .int (nI ii_5)), (0, .ref (a 0)), (1, .int (nI j_2)), (2, .int (nI j_4))]) hx hb dX8_thought_174 hl (by decide) rfl (fun ls hl => ?_)
                  refine lv_lload_n hx hb dX8_thought_176 rfl (lv_at hl 1 rfl) ?_
                  refine lv_lload hx hb dX8_thought_177 (lv_at hl 0 rfl) ?_
                  refine W.lcmp hx hb dX8_thought_179 ?_
                  refine lv_if_le (tgt := 187) hx hb dX8_thought_180 (by decide) (fun c_143 => ?_) (fun c_143 => ?_)
                  · refine lv_lload hx hb dX8_thought_187 (lv_at hl 0 rfl) ?_
                    refine lv_lstore (lv' := [(11, .long x_141), (5, .long x_141), (3, .long x_136), (10, .int r_132), (9, .int r_131), (8, .int 1), (7, .int (nI ii_5)), (0, .ref (a 0)), (1, .int (nI j_2)), (2, .int (nI j_4))]) hx hb dX8_thought_189 hl (by decide) rfl (fun ls hl => ?_)
                    refine lv_lload hx hb dX8_thought_191 (lv_at hl 0 rfl) ?_
                    refine lv_lconst (v := 0) hx hb dX8_thought_193 (by decide) ?_
                    refine W.lcmp hx hb dX8_thought_194 ?_
                    refine lv_if_le (tgt := 218) hx hb dX8_thought_195 (by decide) (fun c_144 => ?_) (fun c_144 => ?_)
                    · have hth_145 := th_neg hta_137 hta_142 (thg_le c_143) c_144
                      refine lv_iinc (v := (nI (ii_5 + 1))) (lv' := [(7, .int (nI (ii_5 + 1))), (11, .long x_141), (5, .long x_141), (3, .long x_136), (10, .int r_132), (9, .int r_131), (8, .int 1), (0, .ref (a 0)), (1, .int (nI j_2)), (2, .int (nI j_4))]) hx hb dX8_thought_218 hl (k := 6) rfl (nI_add ii_5 1) (by decide) rfl (fun ls hl => ?_)
                      refine lv_goto (tgt := 32) hx hb dX8_thought_221 (by decide) ?_
                      exact ih_5 _ (ii_5 + 1, x_136, x_141) _ _ _ (by omega) ⟨rfl, ⟨⟨by omega, by omega, by omega⟩, hth_145.1, hth_145.2⟩, hP, hS, (lv_sub hl [0, 2, 3, 7, 8, 9] rfl)⟩
                    · refine lv_lload_n hx hb dX8_thought_198 rfl (lv_at hl 2 rfl) ?_
                      refine lv_ldc2 hx hb hown (hts _ tw_1363) dX8_thought_199 ?_
                      refine lv_lmul hx hb dX8_thought_202 ?_
                      refine lv_topl (fun x_146 ex_146 => ?_)
                      refine lv_lload hx hb dX8_thought_203 (lv_at hl 0 rfl) ?_
                      refine lv_ldiv hx hb dX8_thought_205 (fun h => c_144 (by rw [h]; decide)) ?_
                      refine lv_topl (fun x_147 ex_147 => ?_)
                      refine lv_lstore_n (lv' := [(3, .long x_147), (11, .long x_141), (5, .long x_141), (10, .int r_132), (9, .int r_131), (8, .int 1), (7, .int (nI ii_5)), (0, .ref (a 0)), (1, .int (nI j_2)), (2, .int (nI j_4))]) hx hb dX8_thought_206 rfl hl (by decide) rfl (fun ls hl => ?_)
                      refine lv_lload hx hb dX8_thought_207 (lv_at hl 2 rfl) ?_
                      refine lv_ldc2 hx hb hown (hts _ tw_1363) dX8_thought_209 ?_
                      refine lv_lmul hx hb dX8_thought_212 ?_
                      refine lv_topl (fun x_148 ex_148 => ?_)
                      refine lv_lload hx hb dX8_thought_213 (lv_at hl 1 rfl) ?_
                      refine lv_ldiv hx hb dX8_thought_215 (fun h => c_144 (by rw [h]; decide)) ?_
                      refine lv_topl (fun x_149 ex_149 => ?_)
                      refine lv_lstore (lv' := [(5, .long x_149), (3, .long x_147), (11, .long x_141), (10, .int r_132), (9, .int r_131), (8, .int 1), (7, .int (nI ii_5)), (0, .ref (a 0)), (1, .int (nI j_2)), (2, .int (nI j_4))]) hx hb dX8_thought_216 hl (by decide) rfl (fun ls hl => ?_)
                      have hth_150 := th_pos hta_137 hta_142 (thg_le c_143) c_144 ex_146 ex_147 ex_148 ex_149
                      refine lv_iinc (v := (nI (ii_5 + 1))) (lv' := [(7, .int (nI (ii_5 + 1))), (5, .long x_149), (3, .long x_147), (11, .long x_141), (10, .int r_132), (9, .int r_131), (8, .int 1), (0, .ref (a 0)), (1, .int (nI j_2)), (2, .int (nI j_4))]) hx hb dX8_thought_218 hl (k := 6) rfl (nI_add ii_5 1) (by decide) rfl (fun ls hl => ?_)
                      refine lv_goto (tgt := 32) hx hb dX8_thought_221 (by decide) ?_
                      exact ih_5 _ (ii_5 + 1, x_147, x_149) _ _ _ (by omega) ⟨rfl, ⟨⟨by omega, by omega, by omega⟩, hth_150.1, hth_150.2⟩, hP, hS, (lv_sub hl [0, 1, 2, 7, 8, 9] rfl)⟩
                  · refine lv_lload_n hx hb dX8_thought_183 rfl (lv_at hl 1 rfl) ?_
                    refine lv_goto (tgt := 189) hx hb dX8_thought_184 (by decide) ?_
                    refine lv_lstore (lv' := [(11, .long x_136), (5, .long x_141), (3, .long x_136), (10, .int r_132), (9, .int r_131), (8, .int 1), (7, .int (nI ii_5)), (0, .ref (a 0)), (1, .int (nI j_2)), (2, .int (nI j_4))]) hx hb dX8_thought_189 hl (by decide) rfl (fun ls hl => ?_)
                    refine lv_lload hx hb dX8_thought_191 (lv_at hl 0 rfl) ?_
                    refine lv_lconst (v := 0) hx hb dX8_thought_193 (by decide) ?_
                    refine W.lcmp hx hb dX8_thought_194 ?_
                    refine lv_if_le (tgt := 218) hx hb dX8_thought_195 (by decide) (fun c_151 => ?_) (fun c_151 => ?_)
                    · have hth_152 := th_neg hta_137 hta_142 (thg_gt c_143) c_151
                      refine lv_iinc (v := (nI (ii_5 + 1))) (lv' := [(7, .int (nI (ii_5 + 1))), (11, .long x_136), (5, .long x_141), (3, .long x_136), (10, .int r_132), (9, .int r_131), (8, .int 1), (0, .ref (a 0)), (1, .int (nI j_2)), (2, .int (nI j_4))]) hx hb dX8_thought_218 hl (k := 6) rfl (nI_add ii_5 1) (by decide) rfl (fun ls hl => ?_)
                      refine lv_goto (tgt := 32) hx hb dX8_thought_221 (by decide) ?_
                      exact ih_5 _ (ii_5 + 1, x_136, x_141) _ _ _ (by omega) ⟨rfl, ⟨⟨by omega, by omega, by omega⟩, hth_152.1, hth_152.2⟩, hP, hS, (lv_sub hl [0, 2, 3, 7, 8, 9] rfl)⟩
                    · refine lv_lload_n hx hb dX8_thought_198 rfl (lv_at hl 2 rfl) ?_
                      refine lv_ldc2 hx hb hown (hts _ tw_1363) dX8_thought_199 ?_
                      refine lv_lmul hx hb dX8_thought_202 ?_
                      refine lv_topl (fun x_153 ex_153 => ?_)
                      refine lv_lload hx hb dX8_thought_203 (lv_at hl 0 rfl) ?_
                      refine lv_ldiv hx hb dX8_thought_205 (fun h => c_151 (by rw [h]; decide)) ?_
                      refine lv_topl (fun x_154 ex_154 => ?_)
                      refine lv_lstore_n (lv' := [(3, .long x_154), (11, .long x_136), (5, .long x_141), (10, .int r_132), (9, .int r_131), (8, .int 1), (7, .int (nI ii_5)), (0, .ref (a 0)), (1, .int (nI j_2)), (2, .int (nI j_4))]) hx hb dX8_thought_206 rfl hl (by decide) rfl (fun ls hl => ?_)
                      refine lv_lload hx hb dX8_thought_207 (lv_at hl 2 rfl) ?_
                      refine lv_ldc2 hx hb hown (hts _ tw_1363) dX8_thought_209 ?_
                      refine lv_lmul hx hb dX8_thought_212 ?_
                      refine lv_topl (fun x_155 ex_155 => ?_)
                      refine lv_lload hx hb dX8_thought_213 (lv_at hl 1 rfl) ?_
                      refine lv_ldiv hx hb dX8_thought_215 (fun h => c_151 (by rw [h]; decide)) ?_
                      refine lv_topl (fun x_156 ex_156 => ?_)
                      refine lv_lstore (lv' := [(5, .long x_156), (3, .long x_154), (11, .long x_136), (10, .int r_132), (9, .int r_131), (8, .int 1), (7, .int (nI ii_5)), (0, .ref (a 0)), (1, .int (nI j_2)), (2, .int (nI j_4))]) hx hb dX8_thought_216 hl (by decide) rfl (fun ls hl => ?_)
                      have hth_157 := th_pos hta_137 hta_142 (thg_gt c_143) c_151 ex_153 ex_154 ex_155 ex_156
                      refine lv_iinc (v := (nI (ii_5 + 1))) (lv' := [(7, .int (nI (ii_5 + 1))), (5, .long x_156), (3, .long x_154), (11, .long x_136), (10, .int r_132), (9, .int r_131), (8, .int 1), (0, .ref (a 0)), (1, .int (nI j_2)), (2, .int (nI j_4))]) hx hb dX8_thought_218 hl (k := 6) rfl (nI_add ii_5 1) (by decide) rfl (fun ls hl => ?_)
                      refine lv_goto (tgt := 32) hx hb dX8_thought_221 (by decide) ?_
                      exact ih_5 _ (ii_5 + 1, x_154, x_156) _ _ _ (by omega) ⟨rfl, ⟨⟨by omega, by omega, by omega⟩, hth_157.1, hth_157.2⟩, hP, hS, (lv_sub hl [0, 1, 2, 7, 8, 9] rfl)⟩
                · refine lv_iload hx hb dX8_thought_129 (lv_at hl 1 rfl) ?_
                  refine lv_goto (tgt := 139) hx hb dX8_thought_131 (by decide) ?_
                  refine lv_i2l (v := r_131.toInt64) hx hb dX8_thought_139 rfl ?_
                  refine lv_lmul hx hb dX8_thought_140 ?_
                  refine lv_topl (fun x_158 ex_158 => ?_)
                  refine lv_ldc2 hx hb hown (hts _ tw_1272) dX8_thought_141 ?_
                  refine lv_ldiv hx hb dX8_thought_144 (by decide) ?_
                  refine lv_topl (fun x_159 ex_159 => ?_)
                  have hta_160 : x_159 = thA (thN (sdM dn (sg se tm gs) ffrees fprices j_2) (sdM dn (sg se tm gs) ffrees fprices j_4) frow ii_5).1 (pLk (sdM dn (sg se tm gs) ffrees fprices j_2) ii_5 (pAhd frow ii_5) (frow ii_5)) := by unfold thA pLk; rw [if_pos ((hfr _ (by omega)).resolve_left c_133), ← hah_130, ex_159, ex_158, hw_131, mChance (dn := dn) (fpr := fprices) (show ii_5 < dn j_2 by omega), hv_5.2.1]
                  refine lv_lstore_n (lv' := [(3, .long x_159), (10, .int r_132), (9, .int r_131), (8, .int 1), (7, .int (nI ii_5)), (5, .long v2_5), (0, .ref (a 0)), (1, .int (nI j_2)), (2, .int (nI j_4))]) hx hb dX8_thought_145 rfl hl (by decide) rfl (fun ls hl => ?_)
                  refine lv_lload hx hb dX8_thought_146 (lv_at hl 5 rfl) ?_
                  refine lv_aload_n hx hb dX8_thought_148 rfl (lv_at hl 6 rfl) ?_
                  refine va_get (D := D) (ci := 8) (v := .ref (a 32)) (C := RX8) (T := TX8) (N := 44) hx hb hts inX8 hown hK hP 0 rfl rfl 31 (by decide) (hts _ tw_1004) (fun _ h9 => h9) rfl dX8_thought_149 ?_
                  refine lv_iload hx hb dX8_thought_152 (lv_at hl 4 rfl) ?_
                  refine va_zald hx hb hK hP 5 2 rfl rfl (vp_in_nI (by omega) (by decide)) dX8_thought_154 ?_
                  refine lv_ti (y := (frow ii_5)) (by rw [nI_clamp (by omega)]) ?_
                  refine lv_if_eq (tgt := 163) hx hb dX8_thought_155 (by decide) (fun c_161 => absurd c_161 (c_133)) (fun c_161 => ?_)
                  refine lv_iload hx hb dX8_thought_158 (lv_at hl 1 rfl) ?_
                  refine lv_goto (tgt := 168) hx hb dX8_thought_160 (by decide) ?_
                  refine lv_i2l (v := r_132.toInt64) hx hb dX8_thought_168 rfl ?_
                  refine lv_lmul hx hb dX8_thought_169 ?_
                  refine lv_topl (fun x_162 ex_162 => ?_)
                  refine lv_ldc2 hx hb hown (hts _ tw_1272) dX8_thought_170 ?_
                  refine lv_ldiv hx hb dX8_thought_173 (by decide) ?_
                  refine lv_topl (fun x_163 ex_163 => ?_)
                  have hta_164 : x_163 = thA (thN (sdM dn (sg se tm gs) ffrees fprices j_2) (sdM dn (sg se tm gs) ffrees fprices j_4) frow ii_5).2 (pLk (sdM dn (sg se tm gs) ffrees fprices j_4) ii_5 (pAhd frow ii_5) (frow ii_5)) := by unfold thA pLk; rw [if_pos ((hfr _ (by omega)).resolve_left c_133), ← hah_130, ex_163, ex_162, hw_132, mChance (dn := dn) (fpr := fprices) (show ii_5 < dn j_4 by omega), hv_5.2.2]
                  refine lv_lstore (lv' := [(5, .long x_163), (3, .long x_159), (10, .int r_132), (9, .int r_131), (8, .int 1), (7, .int (nI ii_5)), (0, .ref (a 0)), (1, .int (nI j_2)), (2, .int (nI j_4))]) hx hb dX8_thought_174 hl (by decide) rfl (fun ls hl => ?_)
                  refine lv_lload_n hx hb dX8_thought_176 rfl (lv_at hl 1 rfl) ?_
                  refine lv_lload hx hb dX8_thought_177 (lv_at hl 0 rfl) ?_
                  refine W.lcmp hx hb dX8_thought_179 ?_
                  refine lv_if_le (tgt := 187) hx hb dX8_thought_180 (by decide) (fun c_165 => ?_) (fun c_165 => ?_)
                  · refine lv_lload hx hb dX8_thought_187 (lv_at hl 0 rfl) ?_
                    refine lv_lstore (lv' := [(11, .long x_163), (5, .long x_163), (3, .long x_159), (10, .int r_132), (9, .int r_131), (8, .int 1), (7, .int (nI ii_5)), (0, .ref (a 0)), (1, .int (nI j_2)), (2, .int (nI j_4))]) hx hb dX8_thought_189 hl (by decide) rfl (fun ls hl => ?_)
                    refine lv_lload hx hb dX8_thought_191 (lv_at hl 0 rfl) ?_
                    refine lv_lconst (v := 0) hx hb dX8_thought_193 (by decide) ?_
                    refine W.lcmp hx hb dX8_thought_194 ?_
                    refine lv_if_le (tgt := 218) hx hb dX8_thought_195 (by decide) (fun c_166 => ?_) (fun c_166 => ?_)
                    · have hth_167 := th_neg hta_160 hta_164 (thg_le c_165) c_166
                      refine lv_iinc (v := (nI (ii_5 + 1))) (lv' := [(7, .int (nI (ii_5 + 1))), (11, .long x_163), (5, .long x_163), (3, .long x_159), (10, .int r_132), (9, .int r_131), (8, .int 1), (0, .ref (a 0)), (1, .int (nI j_2)), (2, .int (nI j_4))]) hx hb dX8_thought_218 hl (k := 6) rfl (nI_add ii_5 1) (by decide) rfl (fun ls hl => ?_)
                      refine lv_goto (tgt := 32) hx hb dX8_thought_221 (by decide) ?_
                      exact ih_5 _ (ii_5 + 1, x_159, x_163) _ _ _ (by omega) ⟨rfl, ⟨⟨by omega, by omega, by omega⟩, hth_167.1, hth_167.2⟩, hP, hS, (lv_sub hl [0, 2, 3, 7, 8, 9] rfl)⟩
                    · refine lv_lload_n hx hb dX8_thought_198 rfl (lv_at hl 2 rfl) ?_
                      refine lv_ldc2 hx hb hown (hts _ tw_1363) dX8_thought_199 ?_
                      refine lv_lmul hx hb dX8_thought_202 ?_
                      refine lv_topl (fun x_168 ex_168 => ?_)
                      refine lv_lload hx hb dX8_thought_203 (lv_at hl 0 rfl) ?_
                      refine lv_ldiv hx hb dX8_thought_205 (fun h => c_166 (by rw [h]; decide)) ?_
                      refine lv_topl (fun x_169 ex_169 => ?_)
                      refine lv_lstore_n (lv' := [(3, .long x_169), (11, .long x_163), (5, .long x_163), (10, .int r_132), (9, .int r_131), (8, .int 1), (7, .int (nI ii_5)), (0, .ref (a 0)), (1, .int (nI j_2)), (2, .int (nI j_4))]) hx hb dX8_thought_206 rfl hl (by decide) rfl (fun ls hl => ?_)
                      refine lv_lload hx hb dX8_thought_207 (lv_at hl 2 rfl) ?_
                      refine lv_ldc2 hx hb hown (hts _ tw_1363) dX8_thought_209 ?_
                      refine lv_lmul hx hb dX8_thought_212 ?_
                      refine lv_topl (fun x_170 ex_170 => ?_)
                      refine lv_lload hx hb dX8_thought_213 (lv_at hl 1 rfl) ?_
                      refine lv_ldiv hx hb dX8_thought_215 (fun h => c_166 (by rw [h]; decide)) ?_
                      refine lv_topl (fun x_171 ex_171 => ?_)
                      refine lv_lstore (lv' := [(5, .long x_171), (3, .long x_169), (11, .long x_163), (10, .int r_132), (9, .int r_131), (8, .int 1), (7, .int (nI ii_5)), (0, .ref (a 0)), (1, .int (nI j_2)), (2, .int (nI j_4))]) hx hb dX8_thought_216 hl (by decide) rfl (fun ls hl => ?_)
                      have hth_172 := th_pos hta_160 hta_164 (thg_le c_165) c_166 ex_168 ex_169 ex_170 ex_171
                      refine lv_iinc (v := (nI (ii_5 + 1))) (lv' := [(7, .int (nI (ii_5 + 1))), (5, .long x_171), (3, .long x_169), (11, .long x_163), (10, .int r_132), (9, .int r_131), (8, .int 1), (0, .ref (a 0)), (1, .int (nI j_2)), (2, .int (nI j_4))]) hx hb dX8_thought_218 hl (k := 6) rfl (nI_add ii_5 1) (by decide) rfl (fun ls hl => ?_)
                      refine lv_goto (tgt := 32) hx hb dX8_thought_221 (by decide) ?_
                      exact ih_5 _ (ii_5 + 1, x_169, x_171) _ _ _ (by omega) ⟨rfl, ⟨⟨by omega, by omega, by omega⟩, hth_172.1, hth_172.2⟩, hP, hS, (lv_sub hl [0, 1, 2, 7, 8, 9] rfl)⟩
                  · refine lv_lload_n hx hb dX8_thought_183 rfl (lv_at hl 1 rfl) ?_
                    refine lv_goto (tgt := 189) hx hb dX8_thought_184 (by decide) ?_
                    refine lv_lstore (lv' := [(11, .long x_159), (5, .long x_163), (3, .long x_159), (10, .int r_132), (9, .int r_131), (8, .int 1), (7, .int (nI ii_5)), (0, .ref (a 0)), (1, .int (nI j_2)), (2, .int (nI j_4))]) hx hb dX8_thought_189 hl (by decide) rfl (fun ls hl => ?_)
                    refine lv_lload hx hb dX8_thought_191 (lv_at hl 0 rfl) ?_
                    refine lv_lconst (v := 0) hx hb dX8_thought_193 (by decide) ?_
                    refine W.lcmp hx hb dX8_thought_194 ?_
                    refine lv_if_le (tgt := 218) hx hb dX8_thought_195 (by decide) (fun c_173 => ?_) (fun c_173 => ?_)
                    · have hth_174 := th_neg hta_160 hta_164 (thg_gt c_165) c_173
                      refine lv_iinc (v := (nI (ii_5 + 1))) (lv' := [(7, .int (nI (ii_5 + 1))), (11, .long x_159), (5, .long x_163), (3, .long x_159), (10, .int r_132), (9, .int r_131), (8, .int 1), (0, .ref (a 0)), (1, .int (nI j_2)), (2, .int (nI j_4))]) hx hb dX8_thought_218 hl (k := 6) rfl (nI_add ii_5 1) (by decide) rfl (fun ls hl => ?_)
                      refine lv_goto (tgt := 32) hx hb dX8_thought_221 (by decide) ?_
                      exact ih_5 _ (ii_5 + 1, x_159, x_163) _ _ _ (by omega) ⟨rfl, ⟨⟨by omega, by omega, by omega⟩, hth_174.1, hth_174.2⟩, hP, hS, (lv_sub hl [0, 2, 3, 7, 8, 9] rfl)⟩
                    · refine lv_lload_n hx hb dX8_thought_198 rfl (lv_at hl 2 rfl) ?_
                      refine lv_ldc2 hx hb hown (hts _ tw_1363) dX8_thought_199 ?_
                      refine lv_lmul hx hb dX8_thought_202 ?_
                      refine lv_topl (fun x_175 ex_175 => ?_)
                      refine lv_lload hx hb dX8_thought_203 (lv_at hl 0 rfl) ?_
                      refine lv_ldiv hx hb dX8_thought_205 (fun h => c_173 (by rw [h]; decide)) ?_
                      refine lv_topl (fun x_176 ex_176 => ?_)
                      refine lv_lstore_n (lv' := [(3, .long x_176), (11, .long x_159), (5, .long x_163), (10, .int r_132), (9, .int r_131), (8, .int 1), (7, .int (nI ii_5)), (0, .ref (a 0)), (1, .int (nI j_2)), (2, .int (nI j_4))]) hx hb dX8_thought_206 rfl hl (by decide) rfl (fun ls hl => ?_)
                      refine lv_lload hx hb dX8_thought_207 (lv_at hl 2 rfl) ?_
                      refine lv_ldc2 hx hb hown (hts _ tw_1363) dX8_thought_209 ?_
                      refine lv_lmul hx hb dX8_thought_212 ?_
                      refine lv_topl (fun x_177 ex_177 => ?_)
                      refine lv_lload hx hb dX8_thought_213 (lv_at hl 1 rfl) ?_
                      refine lv_ldiv hx hb dX8_thought_215 (fun h => c_173 (by rw [h]; decide)) ?_
                      refine lv_topl (fun x_178 ex_178 => ?_)
                      refine lv_lstore (lv' := [(5, .long x_178), (3, .long x_176), (11, .long x_159), (10, .int r_132), (9, .int r_131), (8, .int 1), (7, .int (nI ii_5)), (0, .ref (a 0)), (1, .int (nI j_2)), (2, .int (nI j_4))]) hx hb dX8_thought_216 hl (by decide) rfl (fun ls hl => ?_)
                      have hth_179 := th_pos hta_160 hta_164 (thg_gt c_165) c_173 ex_175 ex_176 ex_177 ex_178
                      refine lv_iinc (v := (nI (ii_5 + 1))) (lv' := [(7, .int (nI (ii_5 + 1))), (5, .long x_178), (3, .long x_176), (11, .long x_159), (10, .int r_132), (9, .int r_131), (8, .int 1), (0, .ref (a 0)), (1, .int (nI j_2)), (2, .int (nI j_4))]) hx hb dX8_thought_218 hl (k := 6) rfl (nI_add ii_5 1) (by decide) rfl (fun ls hl => ?_)
                      refine lv_goto (tgt := 32) hx hb dX8_thought_221 (by decide) ?_
                      exact ih_5 _ (ii_5 + 1, x_176, x_178) _ _ _ (by omega) ⟨rfl, ⟨⟨by omega, by omega, by omega⟩, hth_179.1, hth_179.2⟩, hP, hS, (lv_sub hl [0, 1, 2, 7, 8, 9] rfl)⟩
    · refine lv_if_ne (tgt := 20) hx hb dX8_thought_13 (by decide) (fun h => absurd (by decide) h) (fun _ => ?_)
      refine lv_sipush (v := (-1001)) hx hb dX8_thought_16 (by decide) ?_
      exact W.iret (v := (-1001)) hx hb hr (fun t ht hW => ⟨⟨(-1001), (), rfl, th_no1 (fun s h1 h2 h3 => hw_3 s h1 h2 h3), trivial⟩, hS.F ht⟩) hS.2.2 dX8_thought_19
  · refine lv_if_eq (tgt := 16) hx hb dX8_thought_5 (by decide) (fun _ => ?_) (fun h => absurd (by decide) h)
    refine lv_sipush (v := (-1001)) hx hb dX8_thought_16 (by decide) ?_
    exact W.iret (v := (-1001)) hx hb hr (fun t ht hW => ⟨⟨(-1001), (), rfl, th_no0 (fun s h1 h2 h3 => hw_1 s h1 h2 h3), trivial⟩, hS.F ht⟩) hS.2.2 dX8_thought_19


theorem f_glueP3 : True := trivial
theorem rw_far {w : Int64} {c : Int32} (h : ¬ lg_cmp w 1000000000000 ≤ 0) : stW w c = 2000000000000 := by
  unfold stW
  exact if_pos ((lg_cmp_gt _ _).mp (Int32.not_le.mp h))
theorem rw_near {w : Int64} {c : Int32} (h : lg_cmp w 1000000000000 ≤ 0) : stW w c = ((27 : Int32).toInt64) * w + c.toInt64 - ((96 : Int32).toInt64) := by
  unfold stW
  exact if_neg (fun q => absurd h (Int32.not_le.mpr ((lg_cmp_gt _ _).mpr q)))
theorem rw_step {b : Nat → Int32} {n T e : Nat} {w V : Int64} (he : e < n) (hc : inB (b e) 97 122) (hl : e + (letA b n e).length = T + (letA b n T).length) (hv : (letA b n e).foldl stW w = V) : e + 1 + (letA b n (e + 1)).length = T + (letA b n T).length ∧ (letA b n (e + 1)).foldl stW (stW w (b e)) = V := by
  have g := letA_go he hc
  rw [g, List.length_cons] at hl
  rw [g] at hv
  exact ⟨by omega, hv⟩
theorem rw_out {b : Nat → Int32} {n T e : Nat} {w V : Int64} (h : letA b n e = []) (hl : e + (letA b n e).length = T + (letA b n T).length) (hv : (letA b n e).foldl stW w = V) : e = T + (letA b n T).length ∧ w = V := by
  rw [h] at hl hv
  exact ⟨hl, hv⟩
theorem nd_1 {b : Nat → Int32} {n t T we wi : Nat} {wd q : Int64} (hwi : wi < 14) (h1 : T = skA b n t) (h2 : we = T + (letA b n T).length) (h3 : wd = wval (letA b n T)) (hq : q = wval (sByt.getD wi [])) (c : lg_cmp wd q = 0) : wdR b n (sByt.getD wi []) t = (0, 0, we) := by
  have e := lgc0 c
  rw [h3, hq] at e
  have hL := (wval_inj (sKa wi hwi) letA_all (sKs wi hwi)).mp e
  unfold wdR
  rw [← h1, if_pos hL, h2, hL]
theorem nd_0 {b : Nat → Int32} {n t T wi : Nat} {wd q : Int64} (hwi : wi < 14) (h1 : T = skA b n t) (h3 : wd = wval (letA b n T)) (hq : q = wval (sByt.getD wi [])) (c : ¬ lg_cmp wd q = 0) : wdR b n (sByt.getD wi []) t = (1, T, T) := by
  have hL : ¬ letA b n T = sByt.getD wi [] := fun hL => c (by rw [h3, hq, hL]; unfold lg_cmp; rw [if_neg (fun h => absurd h (Int64.lt_irrefl)), if_pos rfl])
  unfold wdR
  rw [← h1, if_neg hL]
theorem fg_step {b : Nat → Int32} {n F t : Nat} {v V : Int32} (h : t < n) (hc : inB (b t) 48 57) (hl : t + (figA b n t).length = F + (figA b n F).length) (hv : (figA b n t).foldl stN v = V) : t + 1 + (figA b n (t + 1)).length = F + (figA b n F).length ∧ (¬ v ≤ 10000 → (figA b n (t + 1)).foldl stN v = V) ∧ (v ≤ 10000 → (figA b n (t + 1)).foldl stN (10 * v + b t - 48) = V) := by
  have g := figA_go h hc
  rw [g, List.length_cons] at hl
  rw [g] at hv
  have hv2 : (figA b n (t + 1)).foldl stN (stN v (b t)) = V := hv
  unfold stN at hv2
  refine ⟨by omega, fun c => ?_, fun c => ?_⟩
  · rw [if_pos (Int32.not_le.mp c)] at hv2
    exact hv2
  · rw [if_neg (Int32.not_lt.mpr c)] at hv2
    exact hv2
theorem fg_out {b : Nat → Int32} {n F t : Nat} {v V : Int32} (h : figA b n t = []) (hl : t + (figA b n t).length = F + (figA b n F).length) (hv : (figA b n t).foldl stN v = V) : F + (figA b n F).length = t ∧ v = V := by
  rw [h] at hl hv
  exact ⟨hl.symm, hv⟩
theorem v_len {L : List Int32} (h : ∀ c ∈ L, inB c 48 57) (hl : ¬ 3 < L.length) : vM L = vX L := by
  obtain ⟨m, -, h1, h2⟩ := v_same L h (by omega)
  rw [h1, h2]
theorem vS_fm {b : Nat → Int32} {n f t : Nat} {v : Int32} (hl : f + (figA b n f).length = t) (h3 : ¬ 3 < t - f) (hv : v = vM (figA b n f)) : vS false (figA b n f) = v := by
  rw [hv, v_len figA_all (by omega)]
  rfl
theorem vS_tm {b : Nat → Int32} {n f t : Nat} {v w : Int32} (hl : f + (figA b n f).length = t) (h3 : ¬ 3 < t - f) (hv : v = vM (figA b n f)) (hw : w = -v) : vS true (figA b n f) = w := by
  rw [hw, hv, v_len figA_all (by omega)]
  rfl
theorem nuR_F {b : Nat → Int32} {n t a : Nat} {lo hi : Int32} (e : a = skA b n t) : nuR b n false lo hi t = nuS b n false lo hi a a := by
  unfold nuR
  rw [if_neg (fun q => absurd q.1 (by decide)), e]
theorem nuR_T {b : Nat → Int32} {n t a : Nat} {lo hi r : Int32} (hr : r = byF b n a) (h : r = 45) (e : a = skA b n t) : nuR b n true lo hi t = nuS b n true lo hi a (a + 1) := by
  unfold nuR
  rw [if_pos ⟨rfl, by rw [← e]; exact hr.symm.trans h⟩, e]


set_option maxHeartbeats 4000000 in
set_option maxRecDepth 100000 in
theorem n_fails (l : Launch) (D : va_G) (k : Nat → ClassId) (st : Nat → Nat) (lo : Nat) (a : Nat → Nat) (tx : Nat) (t0 : Nat) (we : Nat) (rd : Nat) (ru : Nat) (rw : Nat) (ca : Nat) (fp : Int32) (wd : Int64) (nu : Int32) (na : Int32) (ts : Int32) (df : Int32) (db : Int32) (sd : Int32) (fn : Nat) (p1 : Int32)  : CWi l D k st lo yX8_fails cX8_fails 3 (some .int) ({ frames := 0, cells := 0, slots := 0, locals := 0 }) 0 0 [.ref (a 0), .int (nI fn), .int p1] [((a 0), .inr (8, (fX8 a (nI tx) fp (nI t0) wd (nI we) nu na (nI rd) ts (nI ru) (nI rw) (nI ca) df db sd)))] (fun (r : Int32) (fp_ : Int32) => r = nI fn ∧ fp_ = p1) (fun (fp_ : Int32) => [((a 0), .inr (8, (fX8 a (nI tx) fp_ (nI t0) wd (nI we) nu na (nI rd) ts (nI ru) (nI rw) (nI ca) df db sd)))]) := by
  intro sz
  refine Met.ofW (cc := cX8_fails) (maxL := 3) (ret := (some .int)) (by decide) rfl ?_
  intro p e s m args below meth c s₁ B hml hv
  obtain ⟨rfl, hsz, hlo, hP, hK, hDL, hZ⟩ := hv
  have hx := B.exec
  have hb := B.bytes
  have hr := B.returns
  have hts := WS_ts B.pre
  have hown : s.vm.findClass RX8 = some m.cls := findClass_of_methodNamed B.named
  have hlocks := B.notSynchronized
  subst hsz
  have hD := hDL.self (sz := s.heap.size)
  have hAlo := A_lo hDL hlo
  generalize hAe : va_A [((a 0), .inr (8, (fX8 a (nI tx) fp (nI t0) wd (nI we) nu na (nI rd) ts (nI ru) (nI rw) (nI ca) df db sd)))] s.heap.size = A at hD hAlo ⊢
  have hA : ∀ q : Nat, s.heap.size ≤ q → A q := fun q h => by rw [← hAe]; exact Or.inr h
  have hS : va_S A s.heap s.heap [] := va_S.rf
  have hl := lv_entry ([.ref (a 0), .int (nI fn), .int p1]) (n := 3) (Nat.le_of_ble_eq_true rfl)
  rw [lg_entry_eq]
  generalize (lg_sl ([.ref (a 0), .int (nI fn), .int p1]) ++ List.replicate (3 - (lg_sl ([.ref (a 0), .int (nI fn), .int p1])).length) Slot.unset).toArray = ls at hl ⊢
  have hl : lv_has ls 3 [(0, .ref (a 0)), (1, .int (nI fn)), (2, .int p1)] := hl
  refine lv_aload_n hx hb dX8_fails_0 rfl (lv_at hl 0 rfl) ?_
  refine lv_iload_n hx hb dX8_fails_1 rfl (lv_at hl 2 rfl) ?_
  refine va_put (D := D) (ci := 8) (v := .int p1) (ty := .int) (C := RX8) (T := TX8) (N := 44) hx hb hts inX8 tyX8 tyX8_ok nmX8 hown hK hP hD hS 0 rfl rfl 6 (by decide) (hts _ tw_979) (fun _ h9 => h9) rfl (by decide +kernel) rfl rfl (Nat.le_of_ble_eq_true rfl) dX8_fails_2 (fun H locs hP hD hS => ?_)
  replace hP : va_P D classes [((a 0), .inr (8, (fX8 a (nI tx) p1 (nI t0) wd (nI we) nu na (nI rd) ts (nI ru) (nI rw) (nI ca) df db sd)))] H := hP
  replace hD : va_D A [((a 0), .inr (8, (fX8 a (nI tx) p1 (nI t0) wd (nI we) nu na (nI rd) ts (nI ru) (nI rw) (nI ca) df db sd)))] := hD
  refine lv_iload_n hx hb dX8_fails_5 rfl (lv_at hl 1 rfl) ?_
  have hP9 := hP.sub (ws' := [((a 0), .inr (8, (fX8 a (nI tx) p1 (nI t0) wd (nI we) nu na (nI rd) ts (nI ru) (nI rw) (nI ca) df db sd)))]) [0] rfl
  have hD9 := hD.sub (ws' := [((a 0), .inr (8, (fX8 a (nI tx) p1 (nI t0) wd (nI we) nu na (nI rd) ts (nI ru) (nI rw) (nI ca) df db sd)))]) [0] (by decide) rfl
  exact W.iret (v := (nI fn)) hx hb hr (fun t ht hW => ⟨⟨(nI fn), p1, rfl, ⟨rfl, rfl⟩, by rw [ht]; exact hP9, hD9⟩, hS.F ht⟩) hS.2.2 dX8_fails_6


set_option maxHeartbeats 4000000 in
set_option maxRecDepth 100000 in
theorem n_here (l : Launch) (D : va_G) (k : Nat → ClassId) (st : Nat → Nat) (lo : Nat) (a : Nat → Nat) (tx : Nat) (t0 : Nat) (we : Nat) (rd : Nat) (ru : Nat) (rw : Nat) (ca : Nat) (fp : Int32) (wd : Int64) (nu : Int32) (na : Int32) (ts : Int32) (df : Int32) (db : Int32) (sd : Int32) (ftext : Nat → Int32) (ht : t0 ≤ tx) (htx : tx ≤ 240) : CWi l D k st lo yX8_here cX8_here 1 (some .int) ({ frames := 0, cells := 0, slots := 0, locals := 0 }) 0 0 [.ref (a 0)] [((a 0), .inr (8, (fX8 a (nI tx) fp (nI t0) wd (nI we) nu na (nI rd) ts (nI ru) (nI rw) (nI ca) df db sd))), (aI k (a 5) 240 ftext)] (fun (r : Int32) (t0_ : Nat) => t0_ = skA ftext tx t0 ∧ r = byF ftext tx t0_ ∧ t0 ≤ t0_ ∧ t0_ ≤ tx) (fun (t0_ : Nat) => [((a 0), .inr (8, (fX8 a (nI tx) fp (nI t0_) wd (nI we) nu na (nI rd) ts (nI ru) (nI rw) (nI ca) df db sd))), (aI k (a 5) 240 ftext)]) := by
  intro sz
  refine Met.ofW (cc := cX8_here) (maxL := 1) (ret := (some .int)) (by decide) rfl ?_
  intro p e s m args below meth c s₁ B hml hv
  obtain ⟨rfl, hsz, hlo, hP, hK, hDL, hZ⟩ := hv
  have hx := B.exec
  have hb := B.bytes
  have hr := B.returns
  have hts := WS_ts B.pre
  have hown : s.vm.findClass RX8 = some m.cls := findClass_of_methodNamed B.named
  have hlocks := B.notSynchronized
  subst hsz
  have hD := hDL.self (sz := s.heap.size)
  have hAlo := A_lo hDL hlo
  generalize hAe : va_A [((a 0), .inr (8, (fX8 a (nI tx) fp (nI t0) wd (nI we) nu na (nI rd) ts (nI ru) (nI rw) (nI ca) df db sd))), (aI k (a 5) 240 ftext)] s.heap.size = A at hD hAlo ⊢
  have hA : ∀ q : Nat, s.heap.size ≤ q → A q := fun q h => by rw [← hAe]; exact Or.inr h
  have hS : va_S A s.heap s.heap [] := va_S.rf
  have hl := lv_entry ([.ref (a 0)]) (n := 1) (Nat.le_of_ble_eq_true rfl)
  rw [lg_entry_eq]
  generalize (lg_sl ([.ref (a 0)]) ++ List.replicate (1 - (lg_sl ([.ref (a 0)])).length) Slot.unset).toArray = ls at hl ⊢
  have hl : lv_has ls 1 [(0, .ref (a 0))] := hl
  refine W_loop (σ := Nat) (fun (n_ : Nat) (t_1 : Nat) (H : Heap) (locs : List Loc) (ls : Array Slot) => n_ = tx - t_1 ∧ (skA ftext tx t_1 = skA ftext tx t0 ∧ t0 ≤ t_1 ∧ t_1 ≤ tx) ∧ va_P D classes [((a 0), .inr (8, (fX8 a (nI tx) fp (nI t_1) wd (nI we) nu na (nI rd) ts (nI ru) (nI rw) (nI ca) df db sd))), (aI k (a 5) 240 ftext)] H ∧ va_D A [((a 0), .inr (8, (fX8 a (nI tx) fp (nI t_1) wd (nI we) nu na (nI rd) ts (nI ru) (nI rw) (nI ca) df db sd))), (aI k (a 5) 240 ftext)] ∧ va_S A s.heap H locs ∧ lv_has ls 1 [(0, .ref (a 0))]) (fun n_1 x_1 H locs ls hI ih_1 => ?_) _ t0 ⟨rfl, ⟨rfl, by omega, by omega⟩, hP, hD, hS, (lv_sub hl [0] rfl)⟩
  obtain ⟨t_1, rfl⟩ : ∃ z, z = x_1 := ⟨_, rfl⟩
  obtain ⟨hm_1, hv_1, hP, hD, hS, hl⟩ := hI
  subst hm_1
  refine lv_aload_n hx hb dX8_here_0 rfl (lv_at hl 0 rfl) ?_
  refine va_get (D := D) (ci := 8) (v := .int (nI t_1)) (C := RX8) (T := TX8) (N := 44) hx hb hts inX8 hown hK hP 0 rfl rfl 7 (by decide) (hts _ tw_980) (fun _ h9 => h9) rfl dX8_here_1 ?_
  refine lv_aload_n hx hb dX8_here_4 rfl (lv_at hl 0 rfl) ?_
  refine va_get (D := D) (ci := 8) (v := .int (nI tx)) (C := RX8) (T := TX8) (N := 44) hx hb hts inX8 hown hK hP 0 rfl rfl 5 (by decide) (hts _ tw_978) (fun _ h9 => h9) rfl dX8_here_5 ?_
  refine lv_icmp_ge (tgt := 38) hx hb dX8_here_8 (by decide) (fun c_2 => ?_) (fun c_2 => ?_)
  · have c_2 := (nI_leI (a := tx) (b := t_1) (by omega) (by omega)).mp c_2
    refine lv_aload_n hx hb dX8_here_38 rfl (lv_at hl 0 rfl) ?_
    refine va_get (D := D) (ci := 8) (v := .int (nI t_1)) (C := RX8) (T := TX8) (N := 44) hx hb hts inX8 hown hK hP 0 rfl rfl 7 (by decide) (hts _ tw_980) (fun _ h9 => h9) rfl dX8_here_39 ?_
    refine lv_aload_n hx hb dX8_here_42 rfl (lv_at hl 0 rfl) ?_
    refine va_get (D := D) (ci := 8) (v := .int (nI tx)) (C := RX8) (T := TX8) (N := 44) hx hb hts inX8 hown hK hP 0 rfl rfl 5 (by decide) (hts _ tw_978) (fun _ h9 => h9) rfl dX8_here_43 ?_
    refine lv_icmp_ge (tgt := 61) hx hb dX8_here_46 (by decide) (fun _ => ?_) (fun h => absurd ((nI_leI (a := tx) (b := t_1) (by omega) (by omega)).mpr (by omega)) h)
    refine lv_iconst (v := (-1)) hx hb dX8_here_61 (by decide) ?_
    have hP9 := hP.sub (ws' := [((a 0), .inr (8, (fX8 a (nI tx) fp (nI t_1) wd (nI we) nu na (nI rd) ts (nI ru) (nI rw) (nI ca) df db sd))), (aI k (a 5) 240 ftext)]) [0, 1] rfl
    have hD9 := hD.sub (ws' := [((a 0), .inr (8, (fX8 a (nI tx) fp (nI t_1) wd (nI we) nu na (nI rd) ts (nI ru) (nI rw) (nI ca) df db sd))), (aI k (a 5) 240 ftext)]) [0, 1] (by decide) rfl
    exact W.iret (v := (-1)) hx hb hr (fun t ht hW => ⟨⟨(-1), t_1, rfl, ⟨(skA_end (by omega)).symm.trans hv_1.1, (byF_out (by omega)).symm, by omega, by omega⟩, by rw [ht]; exact hP9, hD9⟩, hS.F ht⟩) hS.2.2 dX8_here_62
  · have c_2 : ¬ (tx ≤ t_1) := fun h => c_2 ((nI_leI (a := tx) (b := t_1) (by omega) (by omega)).mpr h)
    refine lv_aload_n hx hb dX8_here_11 rfl (lv_at hl 0 rfl) ?_
    refine va_get (D := D) (ci := 8) (v := .ref (a 5)) (C := RX8) (T := TX8) (N := 44) hx hb hts inX8 hown hK hP 0 rfl rfl 4 (by decide) (hts _ tw_977) (fun _ h9 => h9) rfl dX8_here_12 ?_
    refine lv_aload_n hx hb dX8_here_15 rfl (lv_at hl 0 rfl) ?_
    refine va_get (D := D) (ci := 8) (v := .int (nI t_1)) (C := RX8) (T := TX8) (N := 44) hx hb hts inX8 hown hK hP 0 rfl rfl 7 (by decide) (hts _ tw_980) (fun _ h9 => h9) rfl dX8_here_16 ?_
    refine va_iald hx hb hK hP 1 1 rfl rfl (vp_in_nI (by omega) (by decide)) dX8_here_19 ?_
    refine lv_ti (y := (ftext t_1)) (by rw [nI_clamp (by omega)]) ?_
    refine lv_bipush (v := 32) hx hb dX8_here_20 (by decide) ?_
    refine lv_icmp_ne (tgt := 38) hx hb dX8_here_22 (by decide) (fun c_4 => ?_) (fun c_4 => ?_)
    · refine lv_aload_n hx hb dX8_here_38 rfl (lv_at hl 0 rfl) ?_
      refine va_get (D := D) (ci := 8) (v := .int (nI t_1)) (C := RX8) (T := TX8) (N := 44) hx hb hts inX8 hown hK hP 0 rfl rfl 7 (by decide) (hts _ tw_980) (fun _ h9 => h9) rfl dX8_here_39 ?_
      refine lv_aload_n hx hb dX8_here_42 rfl (lv_at hl 0 rfl) ?_
      refine va_get (D := D) (ci := 8) (v := .int (nI tx)) (C := RX8) (T := TX8) (N := 44) hx hb hts inX8 hown hK hP 0 rfl rfl 5 (by decide) (hts _ tw_978) (fun _ h9 => h9) rfl dX8_here_43 ?_
      refine lv_icmp_ge (tgt := 61) hx hb dX8_here_46 (by decide) (fun h => absurd ((nI_leI (a := tx) (b := t_1) (by omega) (by omega)).mp h) (by omega)) (fun _ => ?_)
      refine lv_aload_n hx hb dX8_here_49 rfl (lv_at hl 0 rfl) ?_
      refine va_get (D := D) (ci := 8) (v := .ref (a 5)) (C := RX8) (T := TX8) (N := 44) hx hb hts inX8 hown hK hP 0 rfl rfl 4 (by decide) (hts _ tw_977) (fun _ h9 => h9) rfl dX8_here_50 ?_
      refine lv_aload_n hx hb dX8_here_53 rfl (lv_at hl 0 rfl) ?_
      refine va_get (D := D) (ci := 8) (v := .int (nI t_1)) (C := RX8) (T := TX8) (N := 44) hx hb hts inX8 hown hK hP 0 rfl rfl 7 (by decide) (hts _ tw_980) (fun _ h9 => h9) rfl dX8_here_54 ?_
      refine va_iald hx hb hK hP 1 1 rfl rfl (vp_in_nI (by omega) (by decide)) dX8_here_57 ?_
      refine lv_ti (y := (ftext t_1)) (by rw [nI_clamp (by omega)]) ?_
      refine lv_goto (tgt := 62) hx hb dX8_here_58 (by decide) ?_
      have hP9 := hP.sub (ws' := [((a 0), .inr (8, (fX8 a (nI tx) fp (nI t_1) wd (nI we) nu na (nI rd) ts (nI ru) (nI rw) (nI ca) df db sd))), (aI k (a 5) 240 ftext)]) [0, 1] rfl
      have hD9 := hD.sub (ws' := [((a 0), .inr (8, (fX8 a (nI tx) fp (nI t_1) wd (nI we) nu na (nI rd) ts (nI ru) (nI rw) (nI ca) df db sd))), (aI k (a 5) 240 ftext)]) [0, 1] (by decide) rfl
      exact W.iret (v := (ftext t_1)) hx hb hr (fun t ht hW => ⟨⟨(ftext t_1), t_1, rfl, ⟨(skA_no c_4).symm.trans hv_1.1, (byF_in (by omega)).symm, by omega, by omega⟩, by rw [ht]; exact hP9, hD9⟩, hS.F ht⟩) hS.2.2 dX8_here_62
    · refine lv_aload_n hx hb dX8_here_25 rfl (lv_at hl 0 rfl) ?_
      refine lv_dup hx hb dX8_here_26 rfl ?_
      refine va_get (D := D) (ci := 8) (v := .int (nI t_1)) (C := RX8) (T := TX8) (N := 44) hx hb hts inX8 hown hK hP 0 rfl rfl 7 (by decide) (hts _ tw_980) (fun _ h9 => h9) rfl dX8_here_27 ?_
      refine lv_iconst (v := 1) hx hb dX8_here_30 (by decide) ?_
      refine lv_iadd hx hb dX8_here_31 ?_
      refine lv_ti (y := (nI (t_1 + 1))) (nI_add t_1 1) ?_
      refine va_put (D := D) (ci := 8) (v := .int (nI (t_1 + 1))) (ty := .int) (C := RX8) (T := TX8) (N := 44) hx hb hts inX8 tyX8 tyX8_ok nmX8 hown hK hP hD hS 0 rfl rfl 7 (by decide) (hts _ tw_980) (fun _ h9 => h9) rfl (by decide +kernel) rfl rfl (Nat.le_of_ble_eq_true rfl) dX8_here_32 (fun H locs hP hD hS => ?_)
      replace hP : va_P D classes [((a 0), .inr (8, (fX8 a (nI tx) fp (nI (t_1 + 1)) wd (nI we) nu na (nI rd) ts (nI ru) (nI rw) (nI ca) df db sd))), (aI k (a 5) 240 ftext)] H := hP
      replace hD : va_D A [((a 0), .inr (8, (fX8 a (nI tx) fp (nI (t_1 + 1)) wd (nI we) nu na (nI rd) ts (nI ru) (nI rw) (nI ca) df db sd))), (aI k (a 5) 240 ftext)] := hD
      refine lv_goto (tgt := 0) hx hb dX8_here_35 (by decide) ?_
      exact ih_1 _ (t_1 + 1) _ _ _ (by omega) ⟨rfl, ⟨(skA_go (by omega) c_4).trans hv_1.1, by omega, by omega⟩, hP, hD, hS, (lv_sub hl [0] rfl)⟩


set_option maxHeartbeats 4000000 in
set_option maxRecDepth 100000 in
theorem n_readWord (l : Launch) (D : va_G) (k : Nat → ClassId) (st : Nat → Nat) (lo : Nat) (a : Nat → Nat) (tx : Nat) (t0 : Nat) (we : Nat) (rd : Nat) (ru : Nat) (rw : Nat) (ca : Nat) (fp : Int32) (wd : Int64) (nu : Int32) (na : Int32) (ts : Int32) (df : Int32) (db : Int32) (sd : Int32) (ftext : Nat → Int32) (ht : t0 ≤ tx) (htx : tx ≤ 240) : CWv l D k st lo yX8_readWord cX8_readWord 2 none ({ frames := 1, cells := 0, slots := 0, locals := 25 }) 0 0 [.ref (a 0)] [((a 0), .inr (8, (fX8 a (nI tx) fp (nI t0) wd (nI we) nu na (nI rd) ts (nI ru) (nI rw) (nI ca) df db sd))), (aI k (a 5) 240 ftext)] (fun (u : Nat × Int64 × Nat) => match u with | (t0_, wd_, we_) => t0_ = skA ftext tx t0 ∧ we_ = t0_ + (letA ftext tx t0_).length ∧ wd_ = wval (letA ftext tx t0_) ∧ t0 ≤ t0_ ∧ t0_ ≤ we_ ∧ we_ ≤ tx) (fun (u : Nat × Int64 × Nat) => match u with | (t0_, wd_, we_) => [((a 0), .inr (8, (fX8 a (nI tx) fp (nI t0_) wd_ (nI we_) nu na (nI rd) ts (nI ru) (nI rw) (nI ca) df db sd))), (aI k (a 5) 240 ftext)]) := by
  intro sz
  refine Met.ofW (cc := cX8_readWord) (maxL := 2) (ret := none) (by decide) rfl ?_
  intro p e s m args below meth c s₁ B hml hv
  obtain ⟨rfl, hsz, hlo, hP, hK, hDL, hZ⟩ := hv
  have hx := B.exec
  have hb := B.bytes
  have hr := B.returns
  have hts := WS_ts B.pre
  have hown : s.vm.findClass RX8 = some m.cls := findClass_of_methodNamed B.named
  have hlocks := B.notSynchronized
  subst hsz
  have hD := hDL.self (sz := s.heap.size)
  have hAlo := A_lo hDL hlo
  generalize hAe : va_A [((a 0), .inr (8, (fX8 a (nI tx) fp (nI t0) wd (nI we) nu na (nI rd) ts (nI ru) (nI rw) (nI ca) df db sd))), (aI k (a 5) 240 ftext)] s.heap.size = A at hD hAlo ⊢
  have hA : ∀ q : Nat, s.heap.size ≤ q → A q := fun q h => by rw [← hAe]; exact Or.inr h
  have hS : va_S A s.heap s.heap [] := va_S.rf
  have hl := lv_entry ([.ref (a 0)]) (n := 2) (Nat.le_of_ble_eq_true rfl)
  rw [lg_entry_eq]
  generalize (lg_sl ([.ref (a 0)]) ++ List.replicate (2 - (lg_sl ([.ref (a 0)])).length) Slot.unset).toArray = ls at hl ⊢
  have hl : lv_has ls 2 [(0, .ref (a 0))] := hl
  refine lv_aload_n hx hb dX8_readWord_0 rfl (lv_at hl 0 rfl) ?_
  refine rw_i (D := D) (wr := []) (va_runV (As := []) (rest := []) ⟨hx, hb, hml, hown, hts⟩ ((n_here l D k st lo a tx t0 we rd ru rw ca fp wd nu na ts df db sd ftext (by first | assumption | omega) (by first | assumption | omega)) s.heap.size) (cwV 0 hts (gV tw_1120 tw_1122 tw_27 tw_87 tw_1123) rfl rfl rfl (by decide +kernel) ⟨Nat.le_of_ble_eq_true rfl, Nat.le_of_ble_eq_true rfl⟩) (pV hS hAlo hlo hP hK (va_Dlo hD hAlo) hZ [0, 1] (by decide) rfl (ci := 8) (q := (RX8, TX8, 44)) (q0 := 0) rfl rfl) rfl rfl hl.1 rfl (lv_room (Nat.le_of_ble_eq_true rfl)) dX8_readWord_1 ⟨Nat.le_of_ble_eq_true rfl, Nat.le_of_ble_eq_true rfl⟩) hS hA hP hD [0, 1] [] rfl rfl (by decide) (by decide) (fun r_1 u H locs hw_1 hP hD hS => ?_)
  obtain ⟨t0__1, rfl⟩ : ∃ z, z = u := ⟨_, rfl⟩
  replace hP : va_P D classes [((a 0), .inr (8, (fX8 a (nI tx) fp (nI t0__1) wd (nI we) nu na (nI rd) ts (nI ru) (nI rw) (nI ca) df db sd))), (aI k (a 5) 240 ftext)] H := hP
  replace hD : va_D A [((a 0), .inr (8, (fX8 a (nI tx) fp (nI t0__1) wd (nI we) nu na (nI rd) ts (nI ru) (nI rw) (nI ca) df db sd))), (aI k (a 5) 240 ftext)] := hD
  try dsimp only at hw_1
  refine lv_istore_n (lv' := [(1, .int r_1), (0, .ref (a 0))]) hx hb dX8_readWord_4 rfl hl (by decide) rfl (fun ls hl => ?_)
  refine lv_aload_n hx hb dX8_readWord_5 rfl (lv_at hl 1 rfl) ?_
  refine lv_lconst (v := (0 : Int32).toInt64) hx hb dX8_readWord_6 (by decide) ?_
  refine va_put (D := D) (ci := 8) (v := .long ((0 : Int32).toInt64)) (ty := .long) (C := RX8) (T := TX8) (N := 44) hx hb hts inX8 tyX8 tyX8_ok nmX8 hown hK hP hD hS 0 rfl rfl 8 (by decide) (hts _ tw_981) (fun _ h9 => h9) rfl (by decide +kernel) rfl rfl (Nat.le_of_ble_eq_true rfl) dX8_readWord_7 (fun H locs hP hD hS => ?_)
  replace hP : va_P D classes [((a 0), .inr (8, (fX8 a (nI tx) fp (nI t0__1) ((0 : Int32).toInt64) (nI we) nu na (nI rd) ts (nI ru) (nI rw) (nI ca) df db sd))), (aI k (a 5) 240 ftext)] H := hP
  replace hD : va_D A [((a 0), .inr (8, (fX8 a (nI tx) fp (nI t0__1) ((0 : Int32).toInt64) (nI we) nu na (nI rd) ts (nI ru) (nI rw) (nI ca) df db sd))), (aI k (a 5) 240 ftext)] := hD
  refine lv_aload_n hx hb dX8_readWord_10 rfl (lv_at hl 1 rfl) ?_
  refine lv_aload_n hx hb dX8_readWord_11 rfl (lv_at hl 1 rfl) ?_
  refine va_get (D := D) (ci := 8) (v := .int (nI t0__1)) (C := RX8) (T := TX8) (N := 44) hx hb hts inX8 hown hK hP 0 rfl rfl 7 (by decide) (hts _ tw_980) (fun _ h9 => h9) rfl dX8_readWord_12 ?_
  refine va_put (D := D) (ci := 8) (v := .int (nI t0__1)) (ty := .int) (C := RX8) (T := TX8) (N := 44) hx hb hts inX8 tyX8 tyX8_ok nmX8 hown hK hP hD hS 0 rfl rfl 9 (by decide) (hts _ tw_982) (fun _ h9 => h9) rfl (by decide +kernel) rfl rfl (Nat.le_of_ble_eq_true rfl) dX8_readWord_15 (fun H locs hP hD hS => ?_)
  replace hP : va_P D classes [((a 0), .inr (8, (fX8 a (nI tx) fp (nI t0__1) ((0 : Int32).toInt64) (nI t0__1) nu na (nI rd) ts (nI ru) (nI rw) (nI ca) df db sd))), (aI k (a 5) 240 ftext)] H := hP
  replace hD : va_D A [((a 0), .inr (8, (fX8 a (nI tx) fp (nI t0__1) ((0 : Int32).toInt64) (nI t0__1) nu na (nI rd) ts (nI ru) (nI rw) (nI ca) df db sd))), (aI k (a 5) 240 ftext)] := hD
  refine W_loop (σ := Int64 × Nat) (fun (n_ : Nat) (x_ : Int64 × Nat) (H : Heap) (locs : List Loc) (ls : Array Slot) => match x_ with | (wd2_2, e2_2) => n_ = tx - e2_2 ∧ (t0__1 ≤ e2_2 ∧ e2_2 ≤ tx ∧ e2_2 + (letA ftext tx e2_2).length = t0__1 + (letA ftext tx t0__1).length ∧ (letA ftext tx e2_2).foldl stW wd2_2 = wval (letA ftext tx t0__1)) ∧ va_P D classes [((a 0), .inr (8, (fX8 a (nI tx) fp (nI t0__1) wd2_2 (nI e2_2) nu na (nI rd) ts (nI ru) (nI rw) (nI ca) df db sd))), (aI k (a 5) 240 ftext)] H ∧ va_D A [((a 0), .inr (8, (fX8 a (nI tx) fp (nI t0__1) wd2_2 (nI e2_2) nu na (nI rd) ts (nI ru) (nI rw) (nI ca) df db sd))), (aI k (a 5) 240 ftext)] ∧ va_S A s.heap H locs ∧ lv_has ls 2 [(0, .ref (a 0))]) (fun n_2 x_2 H locs ls hI ih_2 => ?_) _ (((0 : Int32).toInt64), t0__1) ⟨rfl, ⟨by omega, by omega, rfl, rfl⟩, hP, hD, hS, (lv_sub hl [1] rfl)⟩
  obtain ⟨wd2_2, e2_2⟩ := x_2
  obtain ⟨hm_2, hv_2, hP, hD, hS, hl⟩ := hI
  subst hm_2
  refine lv_aload_n hx hb dX8_readWord_18 rfl (lv_at hl 0 rfl) ?_
  refine va_get (D := D) (ci := 8) (v := .int (nI e2_2)) (C := RX8) (T := TX8) (N := 44) hx hb hts inX8 hown hK hP 0 rfl rfl 9 (by decide) (hts _ tw_982) (fun _ h9 => h9) rfl dX8_readWord_19 ?_
  refine lv_aload_n hx hb dX8_readWord_22 rfl (lv_at hl 0 rfl) ?_
  refine va_get (D := D) (ci := 8) (v := .int (nI tx)) (C := RX8) (T := TX8) (N := 44) hx hb hts inX8 hown hK hP 0 rfl rfl 5 (by decide) (hts _ tw_978) (fun _ h9 => h9) rfl dX8_readWord_23 ?_
  refine lv_icmp_ge (tgt := 108) hx hb dX8_readWord_26 (by decide) (fun c_3 => ?_) (fun c_3 => ?_)
  · have c_3 := (nI_leI (a := tx) (b := e2_2) (by omega) (by omega)).mp c_3
    have hP9 := hP.sub (ws' := [((a 0), .inr (8, (fX8 a (nI tx) fp (nI t0__1) wd2_2 (nI e2_2) nu na (nI rd) ts (nI ru) (nI rw) (nI ca) df db sd))), (aI k (a 5) 240 ftext)]) [0, 1] rfl
    have hD9 := hD.sub (ws' := [((a 0), .inr (8, (fX8 a (nI tx) fp (nI t0__1) wd2_2 (nI e2_2) nu na (nI rd) ts (nI ru) (nI rw) (nI ca) df db sd))), (aI k (a 5) 240 ftext)]) [0, 1] (by decide) rfl
    exact W.vret hx hb hr (fun t ht hW => ⟨⟨(t0__1, wd2_2, e2_2), rfl, ⟨hw_1.1, (rw_out (letA_end (by omega)) hv_2.2.2.1 hv_2.2.2.2).1, (rw_out (letA_end (by omega)) hv_2.2.2.1 hv_2.2.2.2).2, by omega, by omega, by omega⟩, by rw [ht]; exact hP9, hD9⟩, hS.F ht⟩) hS.2.2 dX8_readWord_108
  · have c_3 : ¬ (tx ≤ e2_2) := fun h => c_3 ((nI_leI (a := tx) (b := e2_2) (by omega) (by omega)).mpr h)
    refine lv_aload_n hx hb dX8_readWord_29 rfl (lv_at hl 0 rfl) ?_
    refine va_get (D := D) (ci := 8) (v := .ref (a 5)) (C := RX8) (T := TX8) (N := 44) hx hb hts inX8 hown hK hP 0 rfl rfl 4 (by decide) (hts _ tw_977) (fun _ h9 => h9) rfl dX8_readWord_30 ?_
    refine lv_aload_n hx hb dX8_readWord_33 rfl (lv_at hl 0 rfl) ?_
    refine va_get (D := D) (ci := 8) (v := .int (nI e2_2)) (C := RX8) (T := TX8) (N := 44) hx hb hts inX8 hown hK hP 0 rfl rfl 9 (by decide) (hts _ tw_982) (fun _ h9 => h9) rfl dX8_readWord_34 ?_
    refine va_iald hx hb hK hP 1 1 rfl rfl (vp_in_nI (by omega) (by decide)) dX8_readWord_37 ?_
    refine lv_ti (y := (ftext e2_2)) (by rw [nI_clamp (by omega)]) ?_
    refine lv_i2l (v := (ftext e2_2).toInt64) hx hb dX8_readWord_38 rfl ?_
    refine lv_ldc2 hx hb hown (hts _ tw_1132) dX8_readWord_39 ?_
    refine lv_tl (y := ((97 : Int32).toInt64)) (by decide) ?_
    refine lv_ldc2 hx hb hown (hts _ tw_1133) dX8_readWord_42 ?_
    refine lv_tl (y := ((122 : Int32).toInt64)) (by decide) ?_
    refine ro_i (D := D) (va_runS (As := [.long ((ftext e2_2).toInt64), .long ((97 : Int32).toInt64), .long ((122 : Int32).toInt64)]) (rest := []) ⟨hx, hb, hml, hown, hts⟩ ((k_in l D k st lo (ftext e2_2) (97 : Int32) (122 : Int32)) H.size) (va_cwS 3 hts (gS tw_1111 tw_1112 tw_87 tw_1113) rfl rfl rfl (by decide +kernel) ⟨Nat.le_of_ble_eq_true rfl, Nat.le_of_ble_eq_true rfl⟩) (pS hS hAlo hlo hP hK (va_Dlo hD hAlo) hZ [] (by decide) rfl) rfl rfl hl.1 rfl (lv_room (Nat.le_of_ble_eq_true rfl)) dX8_readWord_45 ⟨Nat.le_of_ble_eq_true rfl, Nat.le_of_ble_eq_true rfl⟩) hS hA hP (fun r_4 H locs hw_4 hP hS => ?_)
    try dsimp only at hw_4
    rcases hw_4 with ⟨rfl, hw_4⟩ | ⟨rfl, hw_4⟩
    · refine lv_if_eq (tgt := 108) hx hb dX8_readWord_48 (by decide) (fun h => absurd h (by decide)) (fun _ => ?_)
      refine lv_aload_n hx hb dX8_readWord_51 rfl (lv_at hl 0 rfl) ?_
      refine lv_aload_n hx hb dX8_readWord_52 rfl (lv_at hl 0 rfl) ?_
      refine va_get (D := D) (ci := 8) (v := .long wd2_2) (C := RX8) (T := TX8) (N := 44) hx hb hts inX8 hown hK hP 0 rfl rfl 8 (by decide) (hts _ tw_981) (fun _ h9 => h9) rfl dX8_readWord_53 ?_
      refine lv_ldc2 hx hb hown (hts _ tw_1134) dX8_readWord_56 ?_
      refine W.lcmp hx hb dX8_readWord_59 ?_
      refine lv_if_le (tgt := 69) hx hb dX8_readWord_60 (by decide) (fun c_5 => ?_) (fun c_5 => ?_)
      · refine lv_ldc2 hx hb hown (hts _ tw_1136) dX8_readWord_69 ?_
        refine lv_tl (y := ((27 : Int32).toInt64)) (by decide) ?_
        refine lv_aload_n hx hb dX8_readWord_72 rfl (lv_at hl 0 rfl) ?_
        refine va_get (D := D) (ci := 8) (v := .long wd2_2) (C := RX8) (T := TX8) (N := 44) hx hb hts inX8 hown hK hP 0 rfl rfl 8 (by decide) (hts _ tw_981) (fun _ h9 => h9) rfl dX8_readWord_73 ?_
        refine lv_lmul hx hb dX8_readWord_76 ?_
        refine lv_topl (fun x_6 ex_6 => ?_)
        refine lv_aload_n hx hb dX8_readWord_77 rfl (lv_at hl 0 rfl) ?_
        refine va_get (D := D) (ci := 8) (v := .ref (a 5)) (C := RX8) (T := TX8) (N := 44) hx hb hts inX8 hown hK hP 0 rfl rfl 4 (by decide) (hts _ tw_977) (fun _ h9 => h9) rfl dX8_readWord_78 ?_
        refine lv_aload_n hx hb dX8_readWord_81 rfl (lv_at hl 0 rfl) ?_
        refine va_get (D := D) (ci := 8) (v := .int (nI e2_2)) (C := RX8) (T := TX8) (N := 44) hx hb hts inX8 hown hK hP 0 rfl rfl 9 (by decide) (hts _ tw_982) (fun _ h9 => h9) rfl dX8_readWord_82 ?_
        refine va_iald hx hb hK hP 1 1 rfl rfl (vp_in_nI (by omega) (by decide)) dX8_readWord_85 ?_
        refine lv_ti (y := (ftext e2_2)) (by rw [nI_clamp (by omega)]) ?_
        refine lv_i2l (v := (ftext e2_2).toInt64) hx hb dX8_readWord_86 rfl ?_
        refine lv_ladd hx hb dX8_readWord_87 ?_
        refine lv_topl (fun x_7 ex_7 => ?_)
        refine lv_ldc2 hx hb hown (hts _ tw_1137) dX8_readWord_88 ?_
        refine lv_tl (y := ((96 : Int32).toInt64)) (by decide) ?_
        refine lv_lsub hx hb dX8_readWord_91 ?_
        refine lv_topl (fun x_8 ex_8 => ?_)
        refine va_put (D := D) (ci := 8) (v := .long x_8) (ty := .long) (C := RX8) (T := TX8) (N := 44) hx hb hts inX8 tyX8 tyX8_ok nmX8 hown hK hP hD hS 0 rfl rfl 8 (by decide) (hts _ tw_981) (fun _ h9 => h9) rfl (by decide +kernel) rfl rfl (Nat.le_of_ble_eq_true rfl) dX8_readWord_92 (fun H locs hP hD hS => ?_)
        replace hP : va_P D classes [((a 0), .inr (8, (fX8 a (nI tx) fp (nI t0__1) x_8 (nI e2_2) nu na (nI rd) ts (nI ru) (nI rw) (nI ca) df db sd))), (aI k (a 5) 240 ftext)] H := hP
        replace hD : va_D A [((a 0), .inr (8, (fX8 a (nI tx) fp (nI t0__1) x_8 (nI e2_2) nu na (nI rd) ts (nI ru) (nI rw) (nI ca) df db sd))), (aI k (a 5) 240 ftext)] := hD
        refine lv_aload_n hx hb dX8_readWord_95 rfl (lv_at hl 0 rfl) ?_
        refine lv_dup hx hb dX8_readWord_96 rfl ?_
        refine va_get (D := D) (ci := 8) (v := .int (nI e2_2)) (C := RX8) (T := TX8) (N := 44) hx hb hts inX8 hown hK hP 0 rfl rfl 9 (by decide) (hts _ tw_982) (fun _ h9 => h9) rfl dX8_readWord_97 ?_
        refine lv_iconst (v := 1) hx hb dX8_readWord_100 (by decide) ?_
        refine lv_iadd hx hb dX8_readWord_101 ?_
        refine lv_ti (y := (nI (e2_2 + 1))) (nI_add e2_2 1) ?_
        refine va_put (D := D) (ci := 8) (v := .int (nI (e2_2 + 1))) (ty := .int) (C := RX8) (T := TX8) (N := 44) hx hb hts inX8 tyX8 tyX8_ok nmX8 hown hK hP hD hS 0 rfl rfl 9 (by decide) (hts _ tw_982) (fun _ h9 => h9) rfl (by decide +kernel) rfl rfl (Nat.le_of_ble_eq_true rfl) dX8_readWord_102 (fun H locs hP hD hS => ?_)
        replace hP : va_P D classes [((a 0), .inr (8, (fX8 a (nI tx) fp (nI t0__1) x_8 (nI (e2_2 + 1)) nu na (nI rd) ts (nI ru) (nI rw) (nI ca) df db sd))), (aI k (a 5) 240 ftext)] H := hP
        replace hD : va_D A [((a 0), .inr (8, (fX8 a (nI tx) fp (nI t0__1) x_8 (nI (e2_2 + 1)) nu na (nI rd) ts (nI ru) (nI rw) (nI ca) df db sd))), (aI k (a 5) 240 ftext)] := hD
        refine lv_goto (tgt := 18) hx hb dX8_readWord_105 (by decide) ?_
        have hst_9 := rw_step (by omega) hw_4 hv_2.2.2.1 hv_2.2.2.2
        exact ih_2 _ (x_8, e2_2 + 1) _ _ _ (by omega) ⟨rfl, ⟨by omega, by omega, hst_9.1, (by have h9 := hst_9.2; rw [rw_near c_5] at h9; rw [ex_8, ex_7, ex_6]; exact h9)⟩, hP, hD, hS, (lv_sub hl [0] rfl)⟩
      · refine lv_ldc2 hx hb hown (hts _ tw_1135) dX8_readWord_63 ?_
        refine lv_goto (tgt := 92) hx hb dX8_readWord_66 (by decide) ?_
        refine va_put (D := D) (ci := 8) (v := .long 2000000000000) (ty := .long) (C := RX8) (T := TX8) (N := 44) hx hb hts inX8 tyX8 tyX8_ok nmX8 hown hK hP hD hS 0 rfl rfl 8 (by decide) (hts _ tw_981) (fun _ h9 => h9) rfl (by decide +kernel) rfl rfl (Nat.le_of_ble_eq_true rfl) dX8_readWord_92 (fun H locs hP hD hS => ?_)
        replace hP : va_P D classes [((a 0), .inr (8, (fX8 a (nI tx) fp (nI t0__1) 2000000000000 (nI e2_2) nu na (nI rd) ts (nI ru) (nI rw) (nI ca) df db sd))), (aI k (a 5) 240 ftext)] H := hP
        replace hD : va_D A [((a 0), .inr (8, (fX8 a (nI tx) fp (nI t0__1) 2000000000000 (nI e2_2) nu na (nI rd) ts (nI ru) (nI rw) (nI ca) df db sd))), (aI k (a 5) 240 ftext)] := hD
        refine lv_aload_n hx hb dX8_readWord_95 rfl (lv_at hl 0 rfl) ?_
        refine lv_dup hx hb dX8_readWord_96 rfl ?_
        refine va_get (D := D) (ci := 8) (v := .int (nI e2_2)) (C := RX8) (T := TX8) (N := 44) hx hb hts inX8 hown hK hP 0 rfl rfl 9 (by decide) (hts _ tw_982) (fun _ h9 => h9) rfl dX8_readWord_97 ?_
        refine lv_iconst (v := 1) hx hb dX8_readWord_100 (by decide) ?_
        refine lv_iadd hx hb dX8_readWord_101 ?_
        refine lv_ti (y := (nI (e2_2 + 1))) (nI_add e2_2 1) ?_
        refine va_put (D := D) (ci := 8) (v := .int (nI (e2_2 + 1))) (ty := .int) (C := RX8) (T := TX8) (N := 44) hx hb hts inX8 tyX8 tyX8_ok nmX8 hown hK hP hD hS 0 rfl rfl 9 (by decide) (hts _ tw_982) (fun _ h9 => h9) rfl (by decide +kernel) rfl rfl (Nat.le_of_ble_eq_true rfl) dX8_readWord_102 (fun H locs hP hD hS => ?_)
        replace hP : va_P D classes [((a 0), .inr (8, (fX8 a (nI tx) fp (nI t0__1) 2000000000000 (nI (e2_2 + 1)) nu na (nI rd) ts (nI ru) (nI rw) (nI ca) df db sd))), (aI k (a 5) 240 ftext)] H := hP
        replace hD : va_D A [((a 0), .inr (8, (fX8 a (nI tx) fp (nI t0__1) 2000000000000 (nI (e2_2 + 1)) nu na (nI rd) ts (nI ru) (nI rw) (nI ca) df db sd))), (aI k (a 5) 240 ftext)] := hD
        refine lv_goto (tgt := 18) hx hb dX8_readWord_105 (by decide) ?_
        have hst_10 := rw_step (by omega) hw_4 hv_2.2.2.1 hv_2.2.2.2
        exact ih_2 _ (2000000000000, e2_2 + 1) _ _ _ (by omega) ⟨rfl, ⟨by omega, by omega, hst_10.1, (by have h9 := hst_10.2; rw [rw_far c_5] at h9; exact h9)⟩, hP, hD, hS, (lv_sub hl [0] rfl)⟩
    · refine lv_if_eq (tgt := 108) hx hb dX8_readWord_48 (by decide) (fun _ => ?_) (fun h => absurd (by decide) h)
      have hP9 := hP.sub (ws' := [((a 0), .inr (8, (fX8 a (nI tx) fp (nI t0__1) wd2_2 (nI e2_2) nu na (nI rd) ts (nI ru) (nI rw) (nI ca) df db sd))), (aI k (a 5) 240 ftext)]) [0, 1] rfl
      have hD9 := hD.sub (ws' := [((a 0), .inr (8, (fX8 a (nI tx) fp (nI t0__1) wd2_2 (nI e2_2) nu na (nI rd) ts (nI ru) (nI rw) (nI ca) df db sd))), (aI k (a 5) 240 ftext)]) [0, 1] (by decide) rfl
      exact W.vret hx hb hr (fun t ht hW => ⟨⟨(t0__1, wd2_2, e2_2), rfl, ⟨hw_1.1, (rw_out (letA_no hw_4) hv_2.2.2.1 hv_2.2.2.2).1, (rw_out (letA_no hw_4) hv_2.2.2.1 hv_2.2.2.2).2, by omega, by omega, by omega⟩, by rw [ht]; exact hP9, hD9⟩, hS.F ht⟩) hS.2.2 dX8_readWord_108


def fM_code (p0 : Int32) (p1 : Int32) (p2 : Int32) : Int64 := (((27 * (((27 * ((p0.toInt64) - 96)) + (p1.toInt64)) - 96)) + (p2.toInt64)) - 96)
set_option maxHeartbeats 4000000 in
set_option maxRecDepth 100000 in
theorem n_code (l : Launch) (D : va_G) (k : Nat → ClassId) (st : Nat → Nat) (lo : Nat) (p0 : Int32) (p1 : Int32) (p2 : Int32)  : CRl l D k st lo yX8_code cX8_code 3 (some .long) ({ frames := 0, cells := 0, slots := 0, locals := 0 }) [.int p0, .int p1, .int p2] [] (fun r => r = fM_code p0 p1 p2) := by
  intro sz
  refine Met.ofW (cc := cX8_code) (maxL := 3) (ret := (some .long)) (by decide) rfl ?_
  intro p e s m args below meth c s₁ B hml hv
  obtain ⟨rfl, hsz, hlo, hP, hK, hDL, hZ⟩ := hv
  have hx := B.exec
  have hb := B.bytes
  have hr := B.returns
  have hts := WS_ts B.pre
  have hown : s.vm.findClass RX8 = some m.cls := findClass_of_methodNamed B.named
  have hlocks := B.notSynchronized
  subst hsz
  have hA : ∀ q : Nat, s.heap.size ≤ q → (fun q : Nat => s.heap.size ≤ q) q := fun _ h => h
  have hAlo : ∀ q : Nat, (fun q : Nat => s.heap.size ≤ q) q → lo ≤ q := fun q h => Nat.le_trans hlo h
  have hS : va_S (fun q : Nat => s.heap.size ≤ q) s.heap s.heap [] := va_S.rf
  have hl := lv_entry ([.int p0, .int p1, .int p2]) (n := 3) (Nat.le_of_ble_eq_true rfl)
  rw [lg_entry_eq]
  generalize (lg_sl ([.int p0, .int p1, .int p2]) ++ List.replicate (3 - (lg_sl ([.int p0, .int p1, .int p2])).length) Slot.unset).toArray = ls at hl ⊢
  have hl : lv_has ls 3 [(0, .int p0), (1, .int p1), (2, .int p2)] := hl
  refine lv_ldc2 hx hb hown (hts _ tw_1136) dX8_code_0 ?_
  refine lv_ldc2 hx hb hown (hts _ tw_1136) dX8_code_3 ?_
  refine lv_iload_n hx hb dX8_code_6 rfl (lv_at hl 0 rfl) ?_
  refine lv_i2l (v := p0.toInt64) hx hb dX8_code_7 rfl ?_
  refine lv_ldc2 hx hb hown (hts _ tw_1137) dX8_code_8 ?_
  refine lv_lsub hx hb dX8_code_11 ?_
  refine lv_topl (fun x_1 ex_1 => ?_)
  refine lv_lmul hx hb dX8_code_12 ?_
  refine lv_topl (fun x_2 ex_2 => ?_)
  refine lv_iload_n hx hb dX8_code_13 rfl (lv_at hl 1 rfl) ?_
  refine lv_i2l (v := p1.toInt64) hx hb dX8_code_14 rfl ?_
  refine lv_ladd hx hb dX8_code_15 ?_
  refine lv_topl (fun x_3 ex_3 => ?_)
  refine lv_ldc2 hx hb hown (hts _ tw_1137) dX8_code_16 ?_
  refine lv_lsub hx hb dX8_code_19 ?_
  refine lv_topl (fun x_4 ex_4 => ?_)
  refine lv_lmul hx hb dX8_code_20 ?_
  refine lv_topl (fun x_5 ex_5 => ?_)
  refine lv_iload_n hx hb dX8_code_21 rfl (lv_at hl 2 rfl) ?_
  refine lv_i2l (v := p2.toInt64) hx hb dX8_code_22 rfl ?_
  refine lv_ladd hx hb dX8_code_23 ?_
  refine lv_topl (fun x_6 ex_6 => ?_)
  refine lv_ldc2 hx hb hown (hts _ tw_1137) dX8_code_24 ?_
  refine lv_lsub hx hb dX8_code_27 ?_
  refine lv_topl (fun x_7 ex_7 => ?_)
  exact W.lret (v := x_7) hx hb hr (fun t ht hW => ⟨⟨x_7, (), rfl, (by show _ = fM_code p0 p1 p2; unfold fM_code; first | (rw [ex_7, ex_6, ex_5, ex_4, ex_3, ex_2, ex_1]; done) | (rw [ex_7, ex_6, ex_5, ex_4, ex_3, ex_2, ex_1]; rfl) | (simp only [ex_7, ex_6, ex_5, ex_4, ex_3, ex_2, ex_1]; done)), trivial⟩, hS.F ht⟩) hS.2.2 dX8_code_28


def fM_longer (q0 : Int64) (p1 : Int32) : Int64 := (((27 * q0) + (p1.toInt64)) - 96)
set_option maxHeartbeats 4000000 in
set_option maxRecDepth 100000 in
theorem n_longer (l : Launch) (D : va_G) (k : Nat → ClassId) (st : Nat → Nat) (lo : Nat) (q0 : Int64) (p1 : Int32)  : CRl l D k st lo yX8_longer cX8_longer 3 (some .long) ({ frames := 0, cells := 0, slots := 0, locals := 0 }) [.long q0, .int p1] [] (fun r => r = fM_longer q0 p1) := by
  intro sz
  refine Met.ofW (cc := cX8_longer) (maxL := 3) (ret := (some .long)) (by decide) rfl ?_
  intro p e s m args below meth c s₁ B hml hv
  obtain ⟨rfl, hsz, hlo, hP, hK, hDL, hZ⟩ := hv
  have hx := B.exec
  have hb := B.bytes
  have hr := B.returns
  have hts := WS_ts B.pre
  have hown : s.vm.findClass RX8 = some m.cls := findClass_of_methodNamed B.named
  have hlocks := B.notSynchronized
  subst hsz
  have hA : ∀ q : Nat, s.heap.size ≤ q → (fun q : Nat => s.heap.size ≤ q) q := fun _ h => h
  have hAlo : ∀ q : Nat, (fun q : Nat => s.heap.size ≤ q) q → lo ≤ q := fun q h => Nat.le_trans hlo h
  have hS : va_S (fun q : Nat => s.heap.size ≤ q) s.heap s.heap [] := va_S.rf
  have hl := lv_entry ([.long q0, .int p1]) (n := 3) (Nat.le_of_ble_eq_true rfl)
  rw [lg_entry_eq]
  generalize (lg_sl ([.long q0, .int p1]) ++ List.replicate (3 - (lg_sl ([.long q0, .int p1])).length) Slot.unset).toArray = ls at hl ⊢
  have hl : lv_has ls 3 [(0, .long q0), (2, .int p1)] := hl
  refine lv_ldc2 hx hb hown (hts _ tw_1136) dX8_longer_0 ?_
  refine lv_lload_n hx hb dX8_longer_3 rfl (lv_at hl 0 rfl) ?_
  refine lv_lmul hx hb dX8_longer_4 ?_
  refine lv_topl (fun x_1 ex_1 => ?_)
  refine lv_iload_n hx hb dX8_longer_5 rfl (lv_at hl 1 rfl) ?_
  refine lv_i2l (v := p1.toInt64) hx hb dX8_longer_6 rfl ?_
  refine lv_ladd hx hb dX8_longer_7 ?_
  refine lv_topl (fun x_2 ex_2 => ?_)
  refine lv_ldc2 hx hb hown (hts _ tw_1137) dX8_longer_8 ?_
  refine lv_lsub hx hb dX8_longer_11 ?_
  refine lv_topl (fun x_3 ex_3 => ?_)
  exact W.lret (v := x_3) hx hb hr (fun t ht hW => ⟨⟨x_3, (), rfl, (by show _ = fM_longer q0 p1; unfold fM_longer; first | (rw [ex_3, ex_2, ex_1]; done) | (rw [ex_3, ex_2, ex_1]; rfl) | (simp only [ex_3, ex_2, ex_1]; done)), trivial⟩, hS.F ht⟩) hS.2.2 dX8_longer_12


def fM_longest (q0 : Int64) (p1 : Int32) (p2 : Int32) : Int64 := (fM_longer (fM_longer q0 p1) p2)
set_option maxHeartbeats 4000000 in
set_option maxRecDepth 100000 in
theorem n_longest (l : Launch) (D : va_G) (k : Nat → ClassId) (st : Nat → Nat) (lo : Nat) (q0 : Int64) (p1 : Int32) (p2 : Int32)  : CRl l D k st lo yX8_longest cX8_longest 4 (some .long) ({ frames := 1, cells := 0, slots := 0, locals := 22 }) [.long q0, .int p1, .int p2] [] (fun r => r = fM_longest q0 p1 p2) := by
  intro sz
  refine Met.ofW (cc := cX8_longest) (maxL := 4) (ret := (some .long)) (by decide) rfl ?_
  intro p e s m args below meth c s₁ B hml hv
  obtain ⟨rfl, hsz, hlo, hP, hK, hDL, hZ⟩ := hv
  have hx := B.exec
  have hb := B.bytes
  have hr := B.returns
  have hts := WS_ts B.pre
  have hown : s.vm.findClass RX8 = some m.cls := findClass_of_methodNamed B.named
  have hlocks := B.notSynchronized
  subst hsz
  have hA : ∀ q : Nat, s.heap.size ≤ q → (fun q : Nat => s.heap.size ≤ q) q := fun _ h => h
  have hAlo : ∀ q : Nat, (fun q : Nat => s.heap.size ≤ q) q → lo ≤ q := fun q h => Nat.le_trans hlo h
  have hS : va_S (fun q : Nat => s.heap.size ≤ q) s.heap s.heap [] := va_S.rf
  have hl := lv_entry ([.long q0, .int p1, .int p2]) (n := 4) (Nat.le_of_ble_eq_true rfl)
  rw [lg_entry_eq]
  generalize (lg_sl ([.long q0, .int p1, .int p2]) ++ List.replicate (4 - (lg_sl ([.long q0, .int p1, .int p2])).length) Slot.unset).toArray = ls at hl ⊢
  have hl : lv_has ls 4 [(0, .long q0), (2, .int p1), (3, .int p2)] := hl
  refine lv_lload_n hx hb dX8_longest_0 rfl (lv_at hl 0 rfl) ?_
  refine lv_iload_n hx hb dX8_longest_1 rfl (lv_at hl 1 rfl) ?_
  refine ro_l (D := D) (va_runS (As := [.long q0, .int p1]) (rest := []) ⟨hx, hb, hml, hown, hts⟩ ((n_longer l D k st lo q0 p1) s.heap.size) (va_cwS 2 hts (gS tw_1148 tw_1149 tw_87 tw_1150) rfl rfl rfl (by decide +kernel) ⟨Nat.le_of_ble_eq_true rfl, Nat.le_of_ble_eq_true rfl⟩) (pS hS hAlo hlo hP hK hDL hZ [] (by decide) rfl) rfl rfl hl.1 rfl (lv_room (Nat.le_of_ble_eq_true rfl)) dX8_longest_2 ⟨Nat.le_of_ble_eq_true rfl, Nat.le_of_ble_eq_true rfl⟩) hS hA hP (fun r_1 H locs hw_1 hP hS => ?_)
  try dsimp only at hw_1
  refine lv_iload_n hx hb dX8_longest_5 rfl (lv_at hl 2 rfl) ?_
  refine ro_l (D := D) (va_runS (As := [.long r_1, .int p2]) (rest := []) ⟨hx, hb, hml, hown, hts⟩ ((n_longer l D k st lo r_1 p2) H.size) (va_cwS 2 hts (gS tw_1148 tw_1149 tw_87 tw_1150) rfl rfl rfl (by decide +kernel) ⟨Nat.le_of_ble_eq_true rfl, Nat.le_of_ble_eq_true rfl⟩) (pS hS hAlo hlo hP hK hDL hZ [] (by decide) rfl) rfl rfl hl.1 rfl (lv_room (Nat.le_of_ble_eq_true rfl)) dX8_longest_6 ⟨Nat.le_of_ble_eq_true rfl, Nat.le_of_ble_eq_true rfl⟩) hS hA hP (fun r_2 H locs hw_2 hP hS => ?_)
  try dsimp only at hw_2
  exact W.lret (v := r_2) hx hb hr (fun t ht hW => ⟨⟨r_2, (), rfl, (by show _ = fM_longest q0 p1 p2; unfold fM_longest; first | (rw [hw_2, hw_1]; done) | (rw [hw_2, hw_1]; rfl) | (simp only [hw_2, hw_1]; done)), trivial⟩, hS.F ht⟩) hS.2.2 dX8_longest_9


set_option maxHeartbeats 4000000 in
set_option maxRecDepth 100000 in
theorem n_needs (l : Launch) (D : va_G) (k : Nat → ClassId) (st : Nat → Nat) (lo : Nat) (a : Nat → Nat) (tx : Nat) (t0 : Nat) (we : Nat) (rd : Nat) (ru : Nat) (rw : Nat) (ca : Nat) (fp : Int32) (wd : Int64) (nu : Int32) (na : Int32) (ts : Int32) (df : Int32) (db : Int32) (sd : Int32) (ftext : Nat → Int32) (q0 : Int64) (wi : Nat) (ht : t0 ≤ tx) (htx : tx ≤ 240) (hwi : wi < 14) (hq : q0 = wval (sByt.getD wi [])) : CWi l D k st lo yX8_needs cX8_needs 3 (some .int) ({ frames := 2, cells := 0, slots := 0, locals := 46 }) 0 0 [.ref (a 0), .long q0] [((a 0), .inr (8, (fX8 a (nI tx) fp (nI t0) wd (nI we) nu na (nI rd) ts (nI ru) (nI rw) (nI ca) df db sd))), (aI k (a 5) 240 ftext)] (fun (r : Int32) (u : Nat × Int64 × Nat × Int32) => match u with | (t0_, wd_, we_, fp_) => ((r = 0 ∧ wdR ftext tx (sByt.getD wi []) t0 = (0, 0, t0_) ∧ fp_ = fp) ∨ (r = 1 ∧ ∃ pl : Nat, wdR ftext tx (sByt.getD wi []) t0 = (1, pl, t0_) ∧ fp_ = nI pl)) ∧ t0 ≤ t0_ ∧ t0_ ≤ tx ∧ we_ ≤ tx) (fun (u : Nat × Int64 × Nat × Int32) => match u with | (t0_, wd_, we_, fp_) => [((a 0), .inr (8, (fX8 a (nI tx) fp_ (nI t0_) wd_ (nI we_) nu na (nI rd) ts (nI ru) (nI rw) (nI ca) df db sd))), (aI k (a 5) 240 ftext)]) := by
  intro sz
  refine Met.ofW (cc := cX8_needs) (maxL := 3) (ret := (some .int)) (by decide) rfl ?_
  intro p e s m args below meth c s₁ B hml hv
  obtain ⟨rfl, hsz, hlo, hP, hK, hDL, hZ⟩ := hv
  have hx := B.exec
  have hb := B.bytes
  have hr := B.returns
  have hts := WS_ts B.pre
  have hown : s.vm.findClass RX8 = some m.cls := findClass_of_methodNamed B.named
  have hlocks := B.notSynchronized
  subst hsz
  have hD := hDL.self (sz := s.heap.size)
  have hAlo := A_lo hDL hlo
  generalize hAe : va_A [((a 0), .inr (8, (fX8 a (nI tx) fp (nI t0) wd (nI we) nu na (nI rd) ts (nI ru) (nI rw) (nI ca) df db sd))), (aI k (a 5) 240 ftext)] s.heap.size = A at hD hAlo ⊢
  have hA : ∀ q : Nat, s.heap.size ≤ q → A q := fun q h => by rw [← hAe]; exact Or.inr h
  have hS : va_S A s.heap s.heap [] := va_S.rf
  have hl := lv_entry ([.ref (a 0), .long q0]) (n := 3) (Nat.le_of_ble_eq_true rfl)
  rw [lg_entry_eq]
  generalize (lg_sl ([.ref (a 0), .long q0]) ++ List.replicate (3 - (lg_sl ([.ref (a 0), .long q0])).length) Slot.unset).toArray = ls at hl ⊢
  have hl : lv_has ls 3 [(0, .ref (a 0)), (1, .long q0)] := hl
  refine lv_aload_n hx hb dX8_needs_0 rfl (lv_at hl 0 rfl) ?_
  refine rw_v (D := D) (wr := []) (va_runV (As := []) (rest := []) ⟨hx, hb, hml, hown, hts⟩ ((n_readWord l D k st lo a tx t0 we rd ru rw ca fp wd nu na ts df db sd ftext (by first | assumption | omega) (by first | assumption | omega)) s.heap.size) (cwV 0 hts (gV tw_1128 tw_1130 tw_29 tw_87 tw_1131) rfl rfl rfl (by decide +kernel) ⟨Nat.le_of_ble_eq_true rfl, Nat.le_of_ble_eq_true rfl⟩) (pV hS hAlo hlo hP hK (va_Dlo hD hAlo) hZ [0, 1] (by decide) rfl (ci := 8) (q := (RX8, TX8, 44)) (q0 := 0) rfl rfl) rfl rfl hl.1 rfl (lv_room (Nat.le_of_ble_eq_true rfl)) dX8_needs_1 ⟨Nat.le_of_ble_eq_true rfl, Nat.le_of_ble_eq_true rfl⟩) hS hA hP hD [0, 1] [] rfl rfl (by decide) (by decide) (fun u H locs hw_1 hP hD hS => ?_)
  obtain ⟨t0__1, wd__1, we__1⟩ := u
  replace hP : va_P D classes [((a 0), .inr (8, (fX8 a (nI tx) fp (nI t0__1) wd__1 (nI we__1) nu na (nI rd) ts (nI ru) (nI rw) (nI ca) df db sd))), (aI k (a 5) 240 ftext)] H := hP
  replace hD : va_D A [((a 0), .inr (8, (fX8 a (nI tx) fp (nI t0__1) wd__1 (nI we__1) nu na (nI rd) ts (nI ru) (nI rw) (nI ca) df db sd))), (aI k (a 5) 240 ftext)] := hD
  try dsimp only at hw_1
  refine lv_aload_n hx hb dX8_needs_4 rfl (lv_at hl 0 rfl) ?_
  refine va_get (D := D) (ci := 8) (v := .long wd__1) (C := RX8) (T := TX8) (N := 44) hx hb hts inX8 hown hK hP 0 rfl rfl 8 (by decide) (hts _ tw_981) (fun _ h9 => h9) rfl dX8_needs_5 ?_
  refine lv_lload_n hx hb dX8_needs_8 rfl (lv_at hl 1 rfl) ?_
  refine W.lcmp hx hb dX8_needs_9 ?_
  refine lv_if_eq (tgt := 23) hx hb dX8_needs_10 (by decide) (fun c_2 => ?_) (fun c_2 => ?_)
  · refine lv_aload_n hx hb dX8_needs_23 rfl (lv_at hl 0 rfl) ?_
    refine lv_aload_n hx hb dX8_needs_24 rfl (lv_at hl 0 rfl) ?_
    refine va_get (D := D) (ci := 8) (v := .int (nI we__1)) (C := RX8) (T := TX8) (N := 44) hx hb hts inX8 hown hK hP 0 rfl rfl 9 (by decide) (hts _ tw_982) (fun _ h9 => h9) rfl dX8_needs_25 ?_
    refine va_put (D := D) (ci := 8) (v := .int (nI we__1)) (ty := .int) (C := RX8) (T := TX8) (N := 44) hx hb hts inX8 tyX8 tyX8_ok nmX8 hown hK hP hD hS 0 rfl rfl 7 (by decide) (hts _ tw_980) (fun _ h9 => h9) rfl (by decide +kernel) rfl rfl (Nat.le_of_ble_eq_true rfl) dX8_needs_28 (fun H locs hP hD hS => ?_)
    replace hP : va_P D classes [((a 0), .inr (8, (fX8 a (nI tx) fp (nI we__1) wd__1 (nI we__1) nu na (nI rd) ts (nI ru) (nI rw) (nI ca) df db sd))), (aI k (a 5) 240 ftext)] H := hP
    replace hD : va_D A [((a 0), .inr (8, (fX8 a (nI tx) fp (nI we__1) wd__1 (nI we__1) nu na (nI rd) ts (nI ru) (nI rw) (nI ca) df db sd))), (aI k (a 5) 240 ftext)] := hD
    refine lv_iconst (v := 0) hx hb dX8_needs_31 (by decide) ?_
    have hP9 := hP.sub (ws' := [((a 0), .inr (8, (fX8 a (nI tx) fp (nI we__1) wd__1 (nI we__1) nu na (nI rd) ts (nI ru) (nI rw) (nI ca) df db sd))), (aI k (a 5) 240 ftext)]) [0, 1] rfl
    have hD9 := hD.sub (ws' := [((a 0), .inr (8, (fX8 a (nI tx) fp (nI we__1) wd__1 (nI we__1) nu na (nI rd) ts (nI ru) (nI rw) (nI ca) df db sd))), (aI k (a 5) 240 ftext)]) [0, 1] (by decide) rfl
    exact W.iret (v := 0) hx hb hr (fun t ht hW => ⟨⟨0, (we__1, wd__1, we__1, fp), rfl, ⟨.inl ⟨rfl, nd_1 hwi hw_1.1 hw_1.2.1 hw_1.2.2.1 hq c_2, rfl⟩, by omega, by omega, by omega⟩, by rw [ht]; exact hP9, hD9⟩, hS.F ht⟩) hS.2.2 dX8_needs_32
  · refine lv_aload_n hx hb dX8_needs_13 rfl (lv_at hl 0 rfl) ?_
    refine lv_iconst (v := 1) hx hb dX8_needs_14 (by decide) ?_
    refine lv_aload_n hx hb dX8_needs_15 rfl (lv_at hl 0 rfl) ?_
    refine va_get (D := D) (ci := 8) (v := .int (nI t0__1)) (C := RX8) (T := TX8) (N := 44) hx hb hts inX8 hown hK hP 0 rfl rfl 7 (by decide) (hts _ tw_980) (fun _ h9 => h9) rfl dX8_needs_16 ?_
    refine rw_i (D := D) (wr := [(aI k (a 5) 240 ftext)]) (va_runV (As := [.int 1, .int (nI t0__1)]) (rest := []) ⟨hx, hb, hml, hown, hts⟩ ((n_fails l D k st lo a tx t0__1 we__1 rd ru rw ca fp wd__1 nu na ts df db sd 1 (nI t0__1)) H.size) (cwV 2 hts (gV tw_1151 tw_1153 tw_31 tw_87 tw_1154) rfl rfl rfl (by decide +kernel) ⟨Nat.le_of_ble_eq_true rfl, Nat.le_of_ble_eq_true rfl⟩) (pV hS hAlo hlo hP hK (va_Dlo hD hAlo) hZ [0] (by decide) rfl (ci := 8) (q := (RX8, TX8, 44)) (q0 := 0) rfl rfl) rfl rfl hl.1 rfl (lv_room (Nat.le_of_ble_eq_true rfl)) dX8_needs_19 ⟨Nat.le_of_ble_eq_true rfl, Nat.le_of_ble_eq_true rfl⟩) hS hA hP hD [0] [1] rfl rfl (by decide) (by decide) (fun r_3 u H locs hw_3 hP hD hS => ?_)
    obtain ⟨fp__3, rfl⟩ : ∃ z, z = u := ⟨_, rfl⟩
    replace hP : va_P D classes [(aI k (a 5) 240 ftext), ((a 0), .inr (8, (fX8 a (nI tx) fp__3 (nI t0__1) wd__1 (nI we__1) nu na (nI rd) ts (nI ru) (nI rw) (nI ca) df db sd)))] H := hP
    replace hD : va_D A [(aI k (a 5) 240 ftext), ((a 0), .inr (8, (fX8 a (nI tx) fp__3 (nI t0__1) wd__1 (nI we__1) nu na (nI rd) ts (nI ru) (nI rw) (nI ca) df db sd)))] := hD
    try dsimp only at hw_3
    obtain ⟨hs0_4, hs1_4⟩ := hw_3
    replace hs0_4 := hs0_4.symm
    subst hs0_4
    replace hs1_4 := hs1_4.symm
    subst hs1_4
    have hP9 := hP.sub (ws' := [((a 0), .inr (8, (fX8 a (nI tx) (nI t0__1) (nI t0__1) wd__1 (nI we__1) nu na (nI rd) ts (nI ru) (nI rw) (nI ca) df db sd))), (aI k (a 5) 240 ftext)]) [1, 0] rfl
    have hD9 := hD.sub (ws' := [((a 0), .inr (8, (fX8 a (nI tx) (nI t0__1) (nI t0__1) wd__1 (nI we__1) nu na (nI rd) ts (nI ru) (nI rw) (nI ca) df db sd))), (aI k (a 5) 240 ftext)]) [1, 0] (by decide) rfl
    exact W.iret (v := 1) hx hb hr (fun t ht hW => ⟨⟨1, (t0__1, wd__1, we__1, (nI t0__1)), rfl, ⟨.inr ⟨rfl, _, nd_0 hwi hw_1.1 hw_1.2.2.1 hq c_2, rfl⟩, by omega, by omega, by omega⟩, by rw [ht]; exact hP9, hD9⟩, hS.F ht⟩) hS.2.2 dX8_needs_22


set_option maxHeartbeats 4000000 in
set_option maxRecDepth 100000 in
theorem n_takeFigures_0 (l : Launch) (D : va_G) (k : Nat → ClassId) (st : Nat → Nat) (lo : Nat) (a : Nat → Nat) (tx : Nat) (t0 : Nat) (we : Nat) (rd : Nat) (ru : Nat) (rw : Nat) (ca : Nat) (fp : Int32) (wd : Int64) (nu : Int32) (na : Int32) (ts : Int32) (df : Int32) (db : Int32) (sd : Int32) (ftext : Nat → Int32) (qa : Nat) (p1 : Int32) (p2 : Int32) (ht : t0 ≤ tx) (htx : tx ≤ 240) : CWi l D k st lo yX8_takeFigures cX8_takeFigures 7 (some .int) ({ frames := 1, cells := 0, slots := 0, locals := 25 }) 0 0 [.ref (a 0), .int (nI qa), .int p1, .int p2, .int 0] [((a 0), .inr (8, (fX8 a (nI tx) fp (nI t0) wd (nI we) nu na (nI rd) ts (nI ru) (nI rw) (nI ca) df db sd))), (aI k (a 5) 240 ftext)] (fun (r : Int32) (u : Nat × Int32 × Int32) => match u with | (t0_, nu_, fp_) => ((r = 0 ∧ nuS ftext tx false p1 p2 qa t0 = (0, 0, t0_, nu_, qa) ∧ fp_ = fp) ∨ (r = 1 ∧ ∃ pl : Nat, nuS ftext tx false p1 p2 qa t0 = (1, pl, t0_, 0, qa) ∧ fp_ = nI pl) ∨ (r = 2 ∧ ∃ pl : Nat, nuS ftext tx false p1 p2 qa t0 = (2, pl, t0_, 0, qa) ∧ fp_ = nI pl)) ∧ t0 ≤ t0_ ∧ t0_ ≤ tx) (fun (u : Nat × Int32 × Int32) => match u with | (t0_, nu_, fp_) => [((a 0), .inr (8, (fX8 a (nI tx) fp_ (nI t0_) wd (nI we) nu_ na (nI rd) ts (nI ru) (nI rw) (nI ca) df db sd))), (aI k (a 5) 240 ftext)]) := by
  intro sz
  refine Met.ofW (cc := cX8_takeFigures) (maxL := 7) (ret := (some .int)) (by decide) rfl ?_
  intro p e s m args below meth c s₁ B hml hv
  obtain ⟨rfl, hsz, hlo, hP, hK, hDL, hZ⟩ := hv
  have hx := B.exec
  have hb := B.bytes
  have hr := B.returns
  have hts := WS_ts B.pre
  have hown : s.vm.findClass RX8 = some m.cls := findClass_of_methodNamed B.named
  have hlocks := B.notSynchronized
  subst hsz
  have hD := hDL.self (sz := s.heap.size)
  have hAlo := A_lo hDL hlo
  generalize hAe : va_A [((a 0), .inr (8, (fX8 a (nI tx) fp (nI t0) wd (nI we) nu na (nI rd) ts (nI ru) (nI rw) (nI ca) df db sd))), (aI k (a 5) 240 ftext)] s.heap.size = A at hD hAlo ⊢
  have hA : ∀ q : Nat, s.heap.size ≤ q → A q := fun q h => by rw [← hAe]; exact Or.inr h
  have hS : va_S A s.heap s.heap [] := va_S.rf
  have hl := lv_entry ([.ref (a 0), .int (nI qa), .int p1, .int p2, .int 0]) (n := 7) (Nat.le_of_ble_eq_true rfl)
  rw [lg_entry_eq]
  generalize (lg_sl ([.ref (a 0), .int (nI qa), .int p1, .int p2, .int 0]) ++ List.replicate (7 - (lg_sl ([.ref (a 0), .int (nI qa), .int p1, .int p2, .int 0])).length) Slot.unset).toArray = ls at hl ⊢
  have hl : lv_has ls 7 [(0, .ref (a 0)), (1, .int (nI qa)), (2, .int p1), (3, .int p2), (4, .int 0)] := hl
  refine lv_aload_n hx hb dX8_takeFigures_0 rfl (lv_at hl 0 rfl) ?_
  refine va_get (D := D) (ci := 8) (v := .int (nI t0)) (C := RX8) (T := TX8) (N := 44) hx hb hts inX8 hown hK hP 0 rfl rfl 7 (by decide) (hts _ tw_980) (fun _ h9 => h9) rfl dX8_takeFigures_1 ?_
  refine lv_istore (lv' := [(5, .int (nI t0)), (0, .ref (a 0)), (1, .int (nI qa)), (2, .int p1), (3, .int p2), (4, .int 0)]) hx hb dX8_takeFigures_4 hl (by decide) rfl (fun ls hl => ?_)
  refine lv_aload_n hx hb dX8_takeFigures_6 rfl (lv_at hl 1 rfl) ?_
  refine lv_iconst (v := 0) hx hb dX8_takeFigures_7 (by decide) ?_
  refine va_put (D := D) (ci := 8) (v := .int 0) (ty := .int) (C := RX8) (T := TX8) (N := 44) hx hb hts inX8 tyX8 tyX8_ok nmX8 hown hK hP hD hS 0 rfl rfl 10 (by decide) (hts _ tw_983) (fun _ h9 => h9) rfl (by decide +kernel) rfl rfl (Nat.le_of_ble_eq_true rfl) dX8_takeFigures_8 (fun H locs hP hD hS => ?_)
  replace hP : va_P D classes [((a 0), .inr (8, (fX8 a (nI tx) fp (nI t0) wd (nI we) 0 na (nI rd) ts (nI ru) (nI rw) (nI ca) df db sd))), (aI k (a 5) 240 ftext)] H := hP
  replace hD : va_D A [((a 0), .inr (8, (fX8 a (nI tx) fp (nI t0) wd (nI we) 0 na (nI rd) ts (nI ru) (nI rw) (nI ca) df db sd))), (aI k (a 5) 240 ftext)] := hD
  refine W_loop (σ := Nat × Int32) (fun (n_ : Nat) (x_ : Nat × Int32) (H : Heap) (locs : List Loc) (ls : Array Slot) => match x_ with | (t_1, nu2_1) => n_ = tx - t_1 ∧ (t0 ≤ t_1 ∧ t_1 ≤ tx ∧ t_1 + (figA ftext tx t_1).length = t0 + (figA ftext tx t0).length ∧ (figA ftext tx t_1).foldl stN nu2_1 = vM (figA ftext tx t0)) ∧ va_P D classes [((a 0), .inr (8, (fX8 a (nI tx) fp (nI t_1) wd (nI we) nu2_1 na (nI rd) ts (nI ru) (nI rw) (nI ca) df db sd))), (aI k (a 5) 240 ftext)] H ∧ va_D A [((a 0), .inr (8, (fX8 a (nI tx) fp (nI t_1) wd (nI we) nu2_1 na (nI rd) ts (nI ru) (nI rw) (nI ca) df db sd))), (aI k (a 5) 240 ftext)] ∧ va_S A s.heap H locs ∧ lv_has ls 7 [(5, .int (nI t0)), (0, .ref (a 0)), (1, .int (nI qa)), (2, .int p1), (3, .int p2), (4, .int 0)]) (fun n_1 x_1 H locs ls hI ih_1 => ?_) _ (t0, 0) ⟨rfl, ⟨by omega, by omega, rfl, rfl⟩, hP, hD, hS, (lv_sub hl [0, 1, 2, 3, 4, 5] rfl)⟩
  obtain ⟨t_1, nu2_1⟩ := x_1
  obtain ⟨hm_1, hv_1, hP, hD, hS, hl⟩ := hI
  subst hm_1
  refine lv_aload_n hx hb dX8_takeFigures_11 rfl (lv_at hl 1 rfl) ?_
  refine va_get (D := D) (ci := 8) (v := .int (nI t_1)) (C := RX8) (T := TX8) (N := 44) hx hb hts inX8 hown hK hP 0 rfl rfl 7 (by decide) (hts _ tw_980) (fun _ h9 => h9) rfl dX8_takeFigures_12 ?_
  refine lv_aload_n hx hb dX8_takeFigures_15 rfl (lv_at hl 1 rfl) ?_
  refine va_get (D := D) (ci := 8) (v := .int (nI tx)) (C := RX8) (T := TX8) (N := 44) hx hb hts inX8 hown hK hP 0 rfl rfl 5 (by decide) (hts _ tw_978) (fun _ h9 => h9) rfl dX8_takeFigures_16 ?_
  refine lv_icmp_ge (tgt := 98) hx hb dX8_takeFigures_19 (by decide) (fun c_2 => ?_) (fun c_2 => ?_)
  · have c_2 := (nI_leI (a := tx) (b := t_1) (by omega) (by omega)).mp c_2
    obtain ⟨hle_3, hve_3⟩ := fg_out (figA_end (by omega)) hv_1.2.2.1 hv_1.2.2.2
    refine lv_aload_n hx hb dX8_takeFigures_98 rfl (lv_at hl 1 rfl) ?_
    refine va_get (D := D) (ci := 8) (v := .int (nI t_1)) (C := RX8) (T := TX8) (N := 44) hx hb hts inX8 hown hK hP 0 rfl rfl 7 (by decide) (hts _ tw_980) (fun _ h9 => h9) rfl dX8_takeFigures_99 ?_
    refine lv_iload hx hb dX8_takeFigures_102 (lv_at hl 0 rfl) ?_
    refine lv_icmp_ne (tgt := 115) hx hb dX8_takeFigures_104 (by decide) (fun c_4 => ?_) (fun c_4 => ?_)
    · have c_4 : ¬ (t_1 = t0) := fun h => c_4 ((nI_eq (a := t_1) (b := t0) (by omega) (by omega)).mpr h)
      refine lv_aload_n hx hb dX8_takeFigures_115 rfl (lv_at hl 1 rfl) ?_
      refine va_get (D := D) (ci := 8) (v := .int (nI t_1)) (C := RX8) (T := TX8) (N := 44) hx hb hts inX8 hown hK hP 0 rfl rfl 7 (by decide) (hts _ tw_980) (fun _ h9 => h9) rfl dX8_takeFigures_116 ?_
      refine lv_iload hx hb dX8_takeFigures_119 (lv_at hl 0 rfl) ?_
      refine lv_isub hx hb dX8_takeFigures_121 ?_
      refine lv_ti (y := (nI (t_1 - t0))) (pk_sub (a := t_1) (b := t0) (by omega)) ?_
      refine lv_istore (lv' := [(6, .int (nI (t_1 - t0))), (5, .int (nI t0)), (0, .ref (a 0)), (1, .int (nI qa)), (2, .int p1), (3, .int p2), (4, .int 0)]) hx hb dX8_takeFigures_122 hl (by decide) rfl (fun ls hl => ?_)
      refine lv_aload_n hx hb dX8_takeFigures_124 rfl (lv_at hl 2 rfl) ?_
      refine lv_iload hx hb dX8_takeFigures_125 (lv_at hl 6 rfl) ?_
      refine lv_if_eq (tgt := 138) hx hb dX8_takeFigures_127 (by decide) (fun _ => ?_) (fun h => absurd (by decide) h)
      refine lv_aload_n hx hb dX8_takeFigures_138 rfl (lv_at hl 2 rfl) ?_
      refine va_get (D := D) (ci := 8) (v := .int nu2_1) (C := RX8) (T := TX8) (N := 44) hx hb hts inX8 hown hK hP 0 rfl rfl 10 (by decide) (hts _ tw_983) (fun _ h9 => h9) rfl dX8_takeFigures_139 ?_
      refine va_put (D := D) (ci := 8) (v := .int nu2_1) (ty := .int) (C := RX8) (T := TX8) (N := 44) hx hb hts inX8 tyX8 tyX8_ok nmX8 hown hK hP hD hS 0 rfl rfl 10 (by decide) (hts _ tw_983) (fun _ h9 => h9) rfl (by decide +kernel) rfl rfl (Nat.le_of_ble_eq_true rfl) dX8_takeFigures_142 (fun H locs hP hD hS => ?_)
      replace hP : va_P D classes [((a 0), .inr (8, (fX8 a (nI tx) fp (nI t_1) wd (nI we) nu2_1 na (nI rd) ts (nI ru) (nI rw) (nI ca) df db sd))), (aI k (a 5) 240 ftext)] H := hP
      replace hD : va_D A [((a 0), .inr (8, (fX8 a (nI tx) fp (nI t_1) wd (nI we) nu2_1 na (nI rd) ts (nI ru) (nI rw) (nI ca) df db sd))), (aI k (a 5) 240 ftext)] := hD
      refine lv_iload hx hb dX8_takeFigures_145 (lv_at hl 0 rfl) ?_
      refine lv_iconst (v := 3) hx hb dX8_takeFigures_147 (by decide) ?_
      refine lv_icmp_gt (tgt := 166) hx hb dX8_takeFigures_148 (by decide) (fun c_5 => ?_) (fun c_5 => ?_)
      · have c_5 := (nI_ltI (a := 3) (b := (t_1 - t0)) (by omega) (by omega)).mp c_5
        refine lv_aload_n hx hb dX8_takeFigures_166 rfl (lv_at hl 2 rfl) ?_
        refine lv_iconst (v := 2) hx hb dX8_takeFigures_167 (by decide) ?_
        refine lv_iload_n hx hb dX8_takeFigures_168 rfl (lv_at hl 3 rfl) ?_
        refine rw_i (D := D) (wr := [(aI k (a 5) 240 ftext)]) (va_runV (As := [.int 2, .int (nI qa)]) (rest := []) ⟨hx, hb, hml, hown, hts⟩ ((n_fails l D k st lo a tx t_1 we rd ru rw ca fp wd nu2_1 na ts df db sd 2 (nI qa)) H.size) (cwV 2 hts (gV tw_1151 tw_1153 tw_31 tw_87 tw_1154) rfl rfl rfl (by decide +kernel) ⟨Nat.le_of_ble_eq_true rfl, Nat.le_of_ble_eq_true rfl⟩) (pV hS hAlo hlo hP hK (va_Dlo hD hAlo) hZ [0] (by decide) rfl (ci := 8) (q := (RX8, TX8, 44)) (q0 := 0) rfl rfl) rfl rfl hl.1 rfl (lv_room (Nat.le_of_ble_eq_true rfl)) dX8_takeFigures_169 ⟨Nat.le_of_ble_eq_true rfl, Nat.le_of_ble_eq_true rfl⟩) hS hA hP hD [0] [1] rfl rfl (by decide) (by decide) (fun r_6 u H locs hw_6 hP hD hS => ?_)
        obtain ⟨fp__6, rfl⟩ : ∃ z, z = u := ⟨_, rfl⟩
        replace hP : va_P D classes [(aI k (a 5) 240 ftext), ((a 0), .inr (8, (fX8 a (nI tx) fp__6 (nI t_1) wd (nI we) nu2_1 na (nI rd) ts (nI ru) (nI rw) (nI ca) df db sd)))] H := hP
        replace hD : va_D A [(aI k (a 5) 240 ftext), ((a 0), .inr (8, (fX8 a (nI tx) fp__6 (nI t_1) wd (nI we) nu2_1 na (nI rd) ts (nI ru) (nI rw) (nI ca) df db sd)))] := hD
        try dsimp only at hw_6
        obtain ⟨hs0_7, hs1_7⟩ := hw_6
        replace hs0_7 := hs0_7.symm
        subst hs0_7
        replace hs1_7 := hs1_7.symm
        subst hs1_7
        refine lv_goto (tgt := 176) hx hb dX8_takeFigures_172 (by decide) ?_
        have hP9 := hP.sub (ws' := [((a 0), .inr (8, (fX8 a (nI tx) (nI qa) (nI t_1) wd (nI we) nu2_1 na (nI rd) ts (nI ru) (nI rw) (nI ca) df db sd))), (aI k (a 5) 240 ftext)]) [1, 0] rfl
        have hD9 := hD.sub (ws' := [((a 0), .inr (8, (fX8 a (nI tx) (nI qa) (nI t_1) wd (nI we) nu2_1 na (nI rd) ts (nI ru) (nI rw) (nI ca) df db sd))), (aI k (a 5) 240 ftext)]) [1, 0] (by decide) rfl
        exact W.iret (v := 2) hx hb hr (fun t ht hW => ⟨⟨2, (t_1, nu2_1, (nI qa)), rfl, ⟨.inr (.inr ⟨rfl, _, nuS_2 hle_3 (by omega) rfl (.inl (by omega)), rfl⟩), by omega, by omega⟩, by rw [ht]; exact hP9, hD9⟩, hS.F ht⟩) hS.2.2 dX8_takeFigures_176
      · have c_5 : ¬ (3 < (t_1 - t0)) := fun h => c_5 ((nI_ltI (a := 3) (b := (t_1 - t0)) (by omega) (by omega)).mpr h)
        refine lv_aload_n hx hb dX8_takeFigures_151 rfl (lv_at hl 2 rfl) ?_
        refine va_get (D := D) (ci := 8) (v := .int nu2_1) (C := RX8) (T := TX8) (N := 44) hx hb hts inX8 hown hK hP 0 rfl rfl 10 (by decide) (hts _ tw_983) (fun _ h9 => h9) rfl dX8_takeFigures_152 ?_
        refine lv_i2l (v := nu2_1.toInt64) hx hb dX8_takeFigures_155 rfl ?_
        refine lv_iload_n hx hb dX8_takeFigures_156 rfl (lv_at hl 4 rfl) ?_
        refine lv_i2l (v := p1.toInt64) hx hb dX8_takeFigures_157 rfl ?_
        refine lv_iload_n hx hb dX8_takeFigures_158 rfl (lv_at hl 5 rfl) ?_
        refine lv_i2l (v := p2.toInt64) hx hb dX8_takeFigures_159 rfl ?_
        refine ro_i (D := D) (va_runS (As := [.long (nu2_1.toInt64), .long (p1.toInt64), .long (p2.toInt64)]) (rest := []) ⟨hx, hb, hml, hown, hts⟩ ((k_in l D k st lo nu2_1 p1 p2) H.size) (va_cwS 3 hts (gS tw_1111 tw_1112 tw_87 tw_1113) rfl rfl rfl (by decide +kernel) ⟨Nat.le_of_ble_eq_true rfl, Nat.le_of_ble_eq_true rfl⟩) (pS hS hAlo hlo hP hK (va_Dlo hD hAlo) hZ [] (by decide) rfl) rfl rfl hl.1 rfl (lv_room (Nat.le_of_ble_eq_true rfl)) dX8_takeFigures_160 ⟨Nat.le_of_ble_eq_true rfl, Nat.le_of_ble_eq_true rfl⟩) hS hA hP (fun r_8 H locs hw_8 hP hS => ?_)
        try dsimp only at hw_8
        rcases hw_8 with ⟨rfl, hw_8⟩ | ⟨rfl, hw_8⟩
        · refine lv_if_ne (tgt := 175) hx hb dX8_takeFigures_163 (by decide) (fun _ => ?_) (fun h => absurd h (by decide))
          refine lv_iconst (v := 0) hx hb dX8_takeFigures_175 (by decide) ?_
          have hP9 := hP.sub (ws' := [((a 0), .inr (8, (fX8 a (nI tx) fp (nI t_1) wd (nI we) nu2_1 na (nI rd) ts (nI ru) (nI rw) (nI ca) df db sd))), (aI k (a 5) 240 ftext)]) [0, 1] rfl
          have hD9 := hD.sub (ws' := [((a 0), .inr (8, (fX8 a (nI tx) fp (nI t_1) wd (nI we) nu2_1 na (nI rd) ts (nI ru) (nI rw) (nI ca) df db sd))), (aI k (a 5) 240 ftext)]) [0, 1] (by decide) rfl
          exact W.iret (v := 0) hx hb hr (fun t ht hW => ⟨⟨0, (t_1, nu2_1, fp), rfl, ⟨.inl ⟨rfl, nuS_0 hle_3 (by omega) (vS_fm hle_3 (by omega) hve_3) (by omega) hw_8, rfl⟩, by omega, by omega⟩, by rw [ht]; exact hP9, hD9⟩, hS.F ht⟩) hS.2.2 dX8_takeFigures_176
        · refine lv_if_ne (tgt := 175) hx hb dX8_takeFigures_163 (by decide) (fun h => absurd (by decide) h) (fun _ => ?_)
          refine lv_aload_n hx hb dX8_takeFigures_166 rfl (lv_at hl 2 rfl) ?_
          refine lv_iconst (v := 2) hx hb dX8_takeFigures_167 (by decide) ?_
          refine lv_iload_n hx hb dX8_takeFigures_168 rfl (lv_at hl 3 rfl) ?_
          refine rw_i (D := D) (wr := [(aI k (a 5) 240 ftext)]) (va_runV (As := [.int 2, .int (nI qa)]) (rest := []) ⟨hx, hb, hml, hown, hts⟩ ((n_fails l D k st lo a tx t_1 we rd ru rw ca fp wd nu2_1 na ts df db sd 2 (nI qa)) H.size) (cwV 2 hts (gV tw_1151 tw_1153 tw_31 tw_87 tw_1154) rfl rfl rfl (by decide +kernel) ⟨Nat.le_of_ble_eq_true rfl, Nat.le_of_ble_eq_true rfl⟩) (pV hS hAlo hlo hP hK (va_Dlo hD hAlo) hZ [0] (by decide) rfl (ci := 8) (q := (RX8, TX8, 44)) (q0 := 0) rfl rfl) rfl rfl hl.1 rfl (lv_room (Nat.le_of_ble_eq_true rfl)) dX8_takeFigures_169 ⟨Nat.le_of_ble_eq_true rfl, Nat.le_of_ble_eq_true rfl⟩) hS hA hP hD [0] [1] rfl rfl (by decide) (by decide) (fun r_9 u H locs hw_9 hP hD hS => ?_)
          obtain ⟨fp__9, rfl⟩ : ∃ z, z = u := ⟨_, rfl⟩
          replace hP : va_P D classes [(aI k (a 5) 240 ftext), ((a 0), .inr (8, (fX8 a (nI tx) fp__9 (nI t_1) wd (nI we) nu2_1 na (nI rd) ts (nI ru) (nI rw) (nI ca) df db sd)))] H := hP
          replace hD : va_D A [(aI k (a 5) 240 ftext), ((a 0), .inr (8, (fX8 a (nI tx) fp__9 (nI t_1) wd (nI we) nu2_1 na (nI rd) ts (nI ru) (nI rw) (nI ca) df db sd)))] := hD
          try dsimp only at hw_9
          obtain ⟨hs0_10, hs1_10⟩ := hw_9
          replace hs0_10 := hs0_10.symm
          subst hs0_10
          replace hs1_10 := hs1_10.symm
          subst hs1_10
          refine lv_goto (tgt := 176) hx hb dX8_takeFigures_172 (by decide) ?_
          have hP9 := hP.sub (ws' := [((a 0), .inr (8, (fX8 a (nI tx) (nI qa) (nI t_1) wd (nI we) nu2_1 na (nI rd) ts (nI ru) (nI rw) (nI ca) df db sd))), (aI k (a 5) 240 ftext)]) [1, 0] rfl
          have hD9 := hD.sub (ws' := [((a 0), .inr (8, (fX8 a (nI tx) (nI qa) (nI t_1) wd (nI we) nu2_1 na (nI rd) ts (nI ru) (nI rw) (nI ca) df db sd))), (aI k (a 5) 240 ftext)]) [1, 0] (by decide) rfl
          exact W.iret (v := 2) hx hb hr (fun t ht hW => ⟨⟨2, (t_1, nu2_1, (nI qa)), rfl, ⟨.inr (.inr ⟨rfl, _, nuS_2 hle_3 (by omega) (vS_fm hle_3 (by omega) hve_3) (.inr (fun h => hw_8 h)), rfl⟩), by omega, by omega⟩, by rw [ht]; exact hP9, hD9⟩, hS.F ht⟩) hS.2.2 dX8_takeFigures_176
    · have c_4 := (nI_eq (a := t_1) (b := t0) (by omega) (by omega)).mp c_4
      refine lv_aload_n hx hb dX8_takeFigures_107 rfl (lv_at hl 1 rfl) ?_
      refine lv_iconst (v := 1) hx hb dX8_takeFigures_108 (by decide) ?_
      refine lv_iload hx hb dX8_takeFigures_109 (lv_at hl 0 rfl) ?_
      refine rw_i (D := D) (wr := [(aI k (a 5) 240 ftext)]) (va_runV (As := [.int 1, .int (nI t0)]) (rest := []) ⟨hx, hb, hml, hown, hts⟩ ((n_fails l D k st lo a tx t_1 we rd ru rw ca fp wd nu2_1 na ts df db sd 1 (nI t0)) H.size) (cwV 2 hts (gV tw_1151 tw_1153 tw_31 tw_87 tw_1154) rfl rfl rfl (by decide +kernel) ⟨Nat.le_of_ble_eq_true rfl, Nat.le_of_ble_eq_true rfl⟩) (pV hS hAlo hlo hP hK (va_Dlo hD hAlo) hZ [0] (by decide) rfl (ci := 8) (q := (RX8, TX8, 44)) (q0 := 0) rfl rfl) rfl rfl hl.1 rfl (lv_room (Nat.le_of_ble_eq_true rfl)) dX8_takeFigures_111 ⟨Nat.le_of_ble_eq_true rfl, Nat.le_of_ble_eq_true rfl⟩) hS hA hP hD [0] [1] rfl rfl (by decide) (by decide) (fun r_11 u H locs hw_11 hP hD hS => ?_)
      obtain ⟨fp__11, rfl⟩ : ∃ z, z = u := ⟨_, rfl⟩
      replace hP : va_P D classes [(aI k (a 5) 240 ftext), ((a 0), .inr (8, (fX8 a (nI tx) fp__11 (nI t_1) wd (nI we) nu2_1 na (nI rd) ts (nI ru) (nI rw) (nI ca) df db sd)))] H := hP
      replace hD : va_D A [(aI k (a 5) 240 ftext), ((a 0), .inr (8, (fX8 a (nI tx) fp__11 (nI t_1) wd (nI we) nu2_1 na (nI rd) ts (nI ru) (nI rw) (nI ca) df db sd)))] := hD
      try dsimp only at hw_11
      obtain ⟨hs0_12, hs1_12⟩ := hw_11
      replace hs0_12 := hs0_12.symm
      subst hs0_12
      replace hs1_12 := hs1_12.symm
      subst hs1_12
      have hP9 := hP.sub (ws' := [((a 0), .inr (8, (fX8 a (nI tx) (nI t0) (nI t_1) wd (nI we) nu2_1 na (nI rd) ts (nI ru) (nI rw) (nI ca) df db sd))), (aI k (a 5) 240 ftext)]) [1, 0] rfl
      have hD9 := hD.sub (ws' := [((a 0), .inr (8, (fX8 a (nI tx) (nI t0) (nI t_1) wd (nI we) nu2_1 na (nI rd) ts (nI ru) (nI rw) (nI ca) df db sd))), (aI k (a 5) 240 ftext)]) [1, 0] (by decide) rfl
      exact W.iret (v := 1) hx hb hr (fun t ht hW => ⟨⟨1, (t_1, nu2_1, (nI t0)), rfl, ⟨.inr (.inl ⟨rfl, _, nuS_1t hle_3 (by omega), congrArg nI (by omega)⟩), by omega, by omega⟩, by rw [ht]; exact hP9, hD9⟩, hS.F ht⟩) hS.2.2 dX8_takeFigures_114
  · have c_2 : ¬ (tx ≤ t_1) := fun h => c_2 ((nI_leI (a := tx) (b := t_1) (by omega) (by omega)).mpr h)
    refine lv_aload_n hx hb dX8_takeFigures_22 rfl (lv_at hl 1 rfl) ?_
    refine va_get (D := D) (ci := 8) (v := .ref (a 5)) (C := RX8) (T := TX8) (N := 44) hx hb hts inX8 hown hK hP 0 rfl rfl 4 (by decide) (hts _ tw_977) (fun _ h9 => h9) rfl dX8_takeFigures_23 ?_
    refine lv_aload_n hx hb dX8_takeFigures_26 rfl (lv_at hl 1 rfl) ?_
    refine va_get (D := D) (ci := 8) (v := .int (nI t_1)) (C := RX8) (T := TX8) (N := 44) hx hb hts inX8 hown hK hP 0 rfl rfl 7 (by decide) (hts _ tw_980) (fun _ h9 => h9) rfl dX8_takeFigures_27 ?_
    refine va_iald hx hb hK hP 1 1 rfl rfl (vp_in_nI (by omega) (by decide)) dX8_takeFigures_30 ?_
    refine lv_ti (y := (ftext t_1)) (by rw [nI_clamp (by omega)]) ?_
    refine lv_i2l (v := (ftext t_1).toInt64) hx hb dX8_takeFigures_31 rfl ?_
    refine lv_ldc2 hx hb hown (hts _ tw_1163) dX8_takeFigures_32 ?_
    refine lv_tl (y := ((48 : Int32).toInt64)) (by decide) ?_
    refine lv_ldc2 hx hb hown (hts _ tw_1164) dX8_takeFigures_35 ?_
    refine lv_tl (y := ((57 : Int32).toInt64)) (by decide) ?_
    refine ro_i (D := D) (va_runS (As := [.long ((ftext t_1).toInt64), .long ((48 : Int32).toInt64), .long ((57 : Int32).toInt64)]) (rest := []) ⟨hx, hb, hml, hown, hts⟩ ((k_in l D k st lo (ftext t_1) (48 : Int32) (57 : Int32)) H.size) (va_cwS 3 hts (gS tw_1111 tw_1112 tw_87 tw_1113) rfl rfl rfl (by decide +kernel) ⟨Nat.le_of_ble_eq_true rfl, Nat.le_of_ble_eq_true rfl⟩) (pS hS hAlo hlo hP hK (va_Dlo hD hAlo) hZ [] (by decide) rfl) rfl rfl hl.1 rfl (lv_room (Nat.le_of_ble_eq_true rfl)) dX8_takeFigures_38 ⟨Nat.le_of_ble_eq_true rfl, Nat.le_of_ble_eq_true rfl⟩) hS hA hP (fun r_13 H locs hw_13 hP hS => ?_)
    try dsimp only at hw_13
    rcases hw_13 with ⟨rfl, hw_13⟩ | ⟨rfl, hw_13⟩
    · refine lv_if_eq (tgt := 98) hx hb dX8_takeFigures_41 (by decide) (fun h => absurd h (by decide)) (fun _ => ?_)
      refine lv_aload_n hx hb dX8_takeFigures_44 rfl (lv_at hl 1 rfl) ?_
      refine lv_aload_n hx hb dX8_takeFigures_45 rfl (lv_at hl 1 rfl) ?_
      refine va_get (D := D) (ci := 8) (v := .int nu2_1) (C := RX8) (T := TX8) (N := 44) hx hb hts inX8 hown hK hP 0 rfl rfl 10 (by decide) (hts _ tw_983) (fun _ h9 => h9) rfl dX8_takeFigures_46 ?_
      refine lv_sipush (v := 10000) hx hb dX8_takeFigures_49 (by decide) ?_
      refine lv_icmp_le (tgt := 62) hx hb dX8_takeFigures_52 (by decide) (fun c_14 => ?_) (fun c_14 => ?_)
      · refine lv_bipush (v := 10) hx hb dX8_takeFigures_62 (by decide) ?_
        refine lv_aload_n hx hb dX8_takeFigures_64 rfl (lv_at hl 1 rfl) ?_
        refine va_get (D := D) (ci := 8) (v := .int nu2_1) (C := RX8) (T := TX8) (N := 44) hx hb hts inX8 hown hK hP 0 rfl rfl 10 (by decide) (hts _ tw_983) (fun _ h9 => h9) rfl dX8_takeFigures_65 ?_
        refine lv_imul hx hb dX8_takeFigures_68 ?_
        refine lv_topi (fun x_15 ex_15 => ?_)
        refine lv_aload_n hx hb dX8_takeFigures_69 rfl (lv_at hl 1 rfl) ?_
        refine va_get (D := D) (ci := 8) (v := .ref (a 5)) (C := RX8) (T := TX8) (N := 44) hx hb hts inX8 hown hK hP 0 rfl rfl 4 (by decide) (hts _ tw_977) (fun _ h9 => h9) rfl dX8_takeFigures_70 ?_
        refine lv_aload_n hx hb dX8_takeFigures_73 rfl (lv_at hl 1 rfl) ?_
        refine va_get (D := D) (ci := 8) (v := .int (nI t_1)) (C := RX8) (T := TX8) (N := 44) hx hb hts inX8 hown hK hP 0 rfl rfl 7 (by decide) (hts _ tw_980) (fun _ h9 => h9) rfl dX8_takeFigures_74 ?_
        refine va_iald hx hb hK hP 1 1 rfl rfl (vp_in_nI (by omega) (by decide)) dX8_takeFigures_77 ?_
        refine lv_ti (y := (ftext t_1)) (by rw [nI_clamp (by omega)]) ?_
        refine lv_iadd hx hb dX8_takeFigures_78 ?_
        refine lv_topi (fun x_16 ex_16 => ?_)
        refine lv_bipush (v := 48) hx hb dX8_takeFigures_79 (by decide) ?_
        refine lv_isub hx hb dX8_takeFigures_81 ?_
        refine lv_topi (fun x_17 ex_17 => ?_)
        refine va_put (D := D) (ci := 8) (v := .int x_17) (ty := .int) (C := RX8) (T := TX8) (N := 44) hx hb hts inX8 tyX8 tyX8_ok nmX8 hown hK hP hD hS 0 rfl rfl 10 (by decide) (hts _ tw_983) (fun _ h9 => h9) rfl (by decide +kernel) rfl rfl (Nat.le_of_ble_eq_true rfl) dX8_takeFigures_82 (fun H locs hP hD hS => ?_)
        replace hP : va_P D classes [((a 0), .inr (8, (fX8 a (nI tx) fp (nI t_1) wd (nI we) x_17 na (nI rd) ts (nI ru) (nI rw) (nI ca) df db sd))), (aI k (a 5) 240 ftext)] H := hP
        replace hD : va_D A [((a 0), .inr (8, (fX8 a (nI tx) fp (nI t_1) wd (nI we) x_17 na (nI rd) ts (nI ru) (nI rw) (nI ca) df db sd))), (aI k (a 5) 240 ftext)] := hD
        refine lv_aload_n hx hb dX8_takeFigures_85 rfl (lv_at hl 1 rfl) ?_
        refine lv_dup hx hb dX8_takeFigures_86 rfl ?_
        refine va_get (D := D) (ci := 8) (v := .int (nI t_1)) (C := RX8) (T := TX8) (N := 44) hx hb hts inX8 hown hK hP 0 rfl rfl 7 (by decide) (hts _ tw_980) (fun _ h9 => h9) rfl dX8_takeFigures_87 ?_
        refine lv_iconst (v := 1) hx hb dX8_takeFigures_90 (by decide) ?_
        refine lv_iadd hx hb dX8_takeFigures_91 ?_
        refine lv_ti (y := (nI (t_1 + 1))) (nI_add t_1 1) ?_
        refine va_put (D := D) (ci := 8) (v := .int (nI (t_1 + 1))) (ty := .int) (C := RX8) (T := TX8) (N := 44) hx hb hts inX8 tyX8 tyX8_ok nmX8 hown hK hP hD hS 0 rfl rfl 7 (by decide) (hts _ tw_980) (fun _ h9 => h9) rfl (by decide +kernel) rfl rfl (Nat.le_of_ble_eq_true rfl) dX8_takeFigures_92 (fun H locs hP hD hS => ?_)
        replace hP : va_P D classes [((a 0), .inr (8, (fX8 a (nI tx) fp (nI (t_1 + 1)) wd (nI we) x_17 na (nI rd) ts (nI ru) (nI rw) (nI ca) df db sd))), (aI k (a 5) 240 ftext)] H := hP
        replace hD : va_D A [((a 0), .inr (8, (fX8 a (nI tx) fp (nI (t_1 + 1)) wd (nI we) x_17 na (nI rd) ts (nI ru) (nI rw) (nI ca) df db sd))), (aI k (a 5) 240 ftext)] := hD
        refine lv_goto (tgt := 11) hx hb dX8_takeFigures_95 (by decide) ?_
        have hst_18 := fg_step (by omega) hw_13 hv_1.2.2.1 hv_1.2.2.2
        exact ih_1 _ (t_1 + 1, x_17) _ _ _ (by omega) ⟨rfl, ⟨by omega, by omega, hst_18.1, (by rw [ex_17, ex_16, ex_15]; exact hst_18.2.2 c_14)⟩, hP, hD, hS, (lv_sub hl [0, 1, 2, 3, 4, 5] rfl)⟩
      · refine lv_aload_n hx hb dX8_takeFigures_55 rfl (lv_at hl 1 rfl) ?_
        refine va_get (D := D) (ci := 8) (v := .int nu2_1) (C := RX8) (T := TX8) (N := 44) hx hb hts inX8 hown hK hP 0 rfl rfl 10 (by decide) (hts _ tw_983) (fun _ h9 => h9) rfl dX8_takeFigures_56 ?_
        refine lv_goto (tgt := 82) hx hb dX8_takeFigures_59 (by decide) ?_
        refine va_put (D := D) (ci := 8) (v := .int nu2_1) (ty := .int) (C := RX8) (T := TX8) (N := 44) hx hb hts inX8 tyX8 tyX8_ok nmX8 hown hK hP hD hS 0 rfl rfl 10 (by decide) (hts _ tw_983) (fun _ h9 => h9) rfl (by decide +kernel) rfl rfl (Nat.le_of_ble_eq_true rfl) dX8_takeFigures_82 (fun H locs hP hD hS => ?_)
        replace hP : va_P D classes [((a 0), .inr (8, (fX8 a (nI tx) fp (nI t_1) wd (nI we) nu2_1 na (nI rd) ts (nI ru) (nI rw) (nI ca) df db sd))), (aI k (a 5) 240 ftext)] H := hP
        replace hD : va_D A [((a 0), .inr (8, (fX8 a (nI tx) fp (nI t_1) wd (nI we) nu2_1 na (nI rd) ts (nI ru) (nI rw) (nI ca) df db sd))), (aI k (a 5) 240 ftext)] := hD
        refine lv_aload_n hx hb dX8_takeFigures_85 rfl (lv_at hl 1 rfl) ?_
        refine lv_dup hx hb dX8_takeFigures_86 rfl ?_
        refine va_get (D := D) (ci := 8) (v := .int (nI t_1)) (C := RX8) (T := TX8) (N := 44) hx hb hts inX8 hown hK hP 0 rfl rfl 7 (by decide) (hts _ tw_980) (fun _ h9 => h9) rfl dX8_takeFigures_87 ?_
        refine lv_iconst (v := 1) hx hb dX8_takeFigures_90 (by decide) ?_
        refine lv_iadd hx hb dX8_takeFigures_91 ?_
        refine lv_ti (y := (nI (t_1 + 1))) (nI_add t_1 1) ?_
        refine va_put (D := D) (ci := 8) (v := .int (nI (t_1 + 1))) (ty := .int) (C := RX8) (T := TX8) (N := 44) hx hb hts inX8 tyX8 tyX8_ok nmX8 hown hK hP hD hS 0 rfl rfl 7 (by decide) (hts _ tw_980) (fun _ h9 => h9) rfl (by decide +kernel) rfl rfl (Nat.le_of_ble_eq_true rfl) dX8_takeFigures_92 (fun H locs hP hD hS => ?_)
        replace hP : va_P D classes [((a 0), .inr (8, (fX8 a (nI tx) fp (nI (t_1 + 1)) wd (nI we) nu2_1 na (nI rd) ts (nI ru) (nI rw) (nI ca) df db sd))), (aI k (a 5) 240 ftext)] H := hP
        replace hD : va_D A [((a 0), .inr (8, (fX8 a (nI tx) fp (nI (t_1 + 1)) wd (nI we) nu2_1 na (nI rd) ts (nI ru) (nI rw) (nI ca) df db sd))), (aI k (a 5) 240 ftext)] := hD
        refine lv_goto (tgt := 11) hx hb dX8_takeFigures_95 (by decide) ?_
        have hst_19 := fg_step (by omega) hw_13 hv_1.2.2.1 hv_1.2.2.2
        exact ih_1 _ (t_1 + 1, nu2_1) _ _ _ (by omega) ⟨rfl, ⟨by omega, by omega, hst_19.1, hst_19.2.1 c_14⟩, hP, hD, hS, (lv_sub hl [0, 1, 2, 3, 4, 5] rfl)⟩
    · refine lv_if_eq (tgt := 98) hx hb dX8_takeFigures_41 (by decide) (fun _ => ?_) (fun h => absurd (by decide) h)
      obtain ⟨hle_20, hve_20⟩ := fg_out (figA_no hw_13) hv_1.2.2.1 hv_1.2.2.2
      refine lv_aload_n hx hb dX8_takeFigures_98 rfl (lv_at hl 1 rfl) ?_
      refine va_get (D := D) (ci := 8) (v := .int (nI t_1)) (C := RX8) (T := TX8) (N := 44) hx hb hts inX8 hown hK hP 0 rfl rfl 7 (by decide) (hts _ tw_980) (fun _ h9 => h9) rfl dX8_takeFigures_99 ?_
      refine lv_iload hx hb dX8_takeFigures_102 (lv_at hl 0 rfl) ?_
      refine lv_icmp_ne (tgt := 115) hx hb dX8_takeFigures_104 (by decide) (fun c_21 => ?_) (fun c_21 => ?_)
      · have c_21 : ¬ (t_1 = t0) := fun h => c_21 ((nI_eq (a := t_1) (b := t0) (by omega) (by omega)).mpr h)
        refine lv_aload_n hx hb dX8_takeFigures_115 rfl (lv_at hl 1 rfl) ?_
        refine va_get (D := D) (ci := 8) (v := .int (nI t_1)) (C := RX8) (T := TX8) (N := 44) hx hb hts inX8 hown hK hP 0 rfl rfl 7 (by decide) (hts _ tw_980) (fun _ h9 => h9) rfl dX8_takeFigures_116 ?_
        refine lv_iload hx hb dX8_takeFigures_119 (lv_at hl 0 rfl) ?_
        refine lv_isub hx hb dX8_takeFigures_121 ?_
        refine lv_ti (y := (nI (t_1 - t0))) (pk_sub (a := t_1) (b := t0) (by omega)) ?_
        refine lv_istore (lv' := [(6, .int (nI (t_1 - t0))), (5, .int (nI t0)), (0, .ref (a 0)), (1, .int (nI qa)), (2, .int p1), (3, .int p2), (4, .int 0)]) hx hb dX8_takeFigures_122 hl (by decide) rfl (fun ls hl => ?_)
        refine lv_aload_n hx hb dX8_takeFigures_124 rfl (lv_at hl 2 rfl) ?_
        refine lv_iload hx hb dX8_takeFigures_125 (lv_at hl 6 rfl) ?_
        refine lv_if_eq (tgt := 138) hx hb dX8_takeFigures_127 (by decide) (fun _ => ?_) (fun h => absurd (by decide) h)
        refine lv_aload_n hx hb dX8_takeFigures_138 rfl (lv_at hl 2 rfl) ?_
        refine va_get (D := D) (ci := 8) (v := .int nu2_1) (C := RX8) (T := TX8) (N := 44) hx hb hts inX8 hown hK hP 0 rfl rfl 10 (by decide) (hts _ tw_983) (fun _ h9 => h9) rfl dX8_takeFigures_139 ?_
        refine va_put (D := D) (ci := 8) (v := .int nu2_1) (ty := .int) (C := RX8) (T := TX8) (N := 44) hx hb hts inX8 tyX8 tyX8_ok nmX8 hown hK hP hD hS 0 rfl rfl 10 (by decide) (hts _ tw_983) (fun _ h9 => h9) rfl (by decide +kernel) rfl rfl (Nat.le_of_ble_eq_true rfl) dX8_takeFigures_142 (fun H locs hP hD hS => ?_)
        replace hP : va_P D classes [((a 0), .inr (8, (fX8 a (nI tx) fp (nI t_1) wd (nI we) nu2_1 na (nI rd) ts (nI ru) (nI rw) (nI ca) df db sd))), (aI k (a 5) 240 ftext)] H := hP
        replace hD : va_D A [((a 0), .inr (8, (fX8 a (nI tx) fp (nI t_1) wd (nI we) nu2_1 na (nI rd) ts (nI ru) (nI rw) (nI ca) df db sd))), (aI k (a 5) 240 ftext)] := hD
        refine lv_iload hx hb dX8_takeFigures_145 (lv_at hl 0 rfl) ?_
        refine lv_iconst (v := 3) hx hb dX8_takeFigures_147 (by decide) ?_
        refine lv_icmp_gt (tgt := 166) hx hb dX8_takeFigures_148 (by decide) (fun c_22 => ?_) (fun c_22 => ?_)
        · have c_22 := (nI_ltI (a := 3) (b := (t_1 - t0)) (by omega) (by omega)).mp c_22
          refine lv_aload_n hx hb dX8_takeFigures_166 rfl (lv_at hl 2 rfl) ?_
          refine lv_iconst (v := 2) hx hb dX8_takeFigures_167 (by decide) ?_
          refine lv_iload_n hx hb dX8_takeFigures_168 rfl (lv_at hl 3 rfl) ?_
          refine rw_i (D := D) (wr := [(aI k (a 5) 240 ftext)]) (va_runV (As := [.int 2, .int (nI qa)]) (rest := []) ⟨hx, hb, hml, hown, hts⟩ ((n_fails l D k st lo a tx t_1 we rd ru rw ca fp wd nu2_1 na ts df db sd 2 (nI qa)) H.size) (cwV 2 hts (gV tw_1151 tw_1153 tw_31 tw_87 tw_1154) rfl rfl rfl (by decide +kernel) ⟨Nat.le_of_ble_eq_true rfl, Nat.le_of_ble_eq_true rfl⟩) (pV hS hAlo hlo hP hK (va_Dlo hD hAlo) hZ [0] (by decide) rfl (ci := 8) (q := (RX8, TX8, 44)) (q0 := 0) rfl rfl) rfl rfl hl.1 rfl (lv_room (Nat.le_of_ble_eq_true rfl)) dX8_takeFigures_169 ⟨Nat.le_of_ble_eq_true rfl, Nat.le_of_ble_eq_true rfl⟩) hS hA hP hD [0] [1] rfl rfl (by decide) (by decide) (fun r_23 u H locs hw_23 hP hD hS => ?_)
          obtain ⟨fp__23, rfl⟩ : ∃ z, z = u := ⟨_, rfl⟩
          replace hP : va_P D classes [(aI k (a 5) 240 ftext), ((a 0), .inr (8, (fX8 a (nI tx) fp__23 (nI t_1) wd (nI we) nu2_1 na (nI rd) ts (nI ru) (nI rw) (nI ca) df db sd)))] H := hP
          replace hD : va_D A [(aI k (a 5) 240 ftext), ((a 0), .inr (8, (fX8 a (nI tx) fp__23 (nI t_1) wd (nI we) nu2_1 na (nI rd) ts (nI ru) (nI rw) (nI ca) df db sd)))] := hD
          try dsimp only at hw_23
          obtain ⟨hs0_24, hs1_24⟩ := hw_23
          replace hs0_24 := hs0_24.symm
          subst hs0_24
          replace hs1_24 := hs1_24.symm
          subst hs1_24
          refine lv_goto (tgt := 176) hx hb dX8_takeFigures_172 (by decide) ?_
          have hP9 := hP.sub (ws' := [((a 0), .inr (8, (fX8 a (nI tx) (nI qa) (nI t_1) wd (nI we) nu2_1 na (nI rd) ts (nI ru) (nI rw) (nI ca) df db sd))), (aI k (a 5) 240 ftext)]) [1, 0] rfl
          have hD9 := hD.sub (ws' := [((a 0), .inr (8, (fX8 a (nI tx) (nI qa) (nI t_1) wd (nI we) nu2_1 na (nI rd) ts (nI ru) (nI rw) (nI ca) df db sd))), (aI k (a 5) 240 ftext)]) [1, 0] (by decide) rfl
          exact W.iret (v := 2) hx hb hr (fun t ht hW => ⟨⟨2, (t_1, nu2_1, (nI qa)), rfl, ⟨.inr (.inr ⟨rfl, _, nuS_2 hle_20 (by omega) rfl (.inl (by omega)), rfl⟩), by omega, by omega⟩, by rw [ht]; exact hP9, hD9⟩, hS.F ht⟩) hS.2.2 dX8_takeFigures_176
        · have c_22 : ¬ (3 < (t_1 - t0)) := fun h => c_22 ((nI_ltI (a := 3) (b := (t_1 - t0)) (by omega) (by omega)).mpr h)
          refine lv_aload_n hx hb dX8_takeFigures_151 rfl (lv_at hl 2 rfl) ?_
          refine va_get (D := D) (ci := 8) (v := .int nu2_1) (C := RX8) (T := TX8) (N := 44) hx hb hts inX8 hown hK hP 0 rfl rfl 10 (by decide) (hts _ tw_983) (fun _ h9 => h9) rfl dX8_takeFigures_152 ?_
          refine lv_i2l (v := nu2_1.toInt64) hx hb dX8_takeFigures_155 rfl ?_
          refine lv_iload_n hx hb dX8_takeFigures_156 rfl (lv_at hl 4 rfl) ?_
          refine lv_i2l (v := p1.toInt64) hx hb dX8_takeFigures_157 rfl ?_
          refine lv_iload_n hx hb dX8_takeFigures_158 rfl (lv_at hl 5 rfl) ?_
          refine lv_i2l (v := p2.toInt64) hx hb dX8_takeFigures_159 rfl ?_
          refine ro_i (D := D) (va_runS (As := [.long (nu2_1.toInt64), .long (p1.toInt64), .long (p2.toInt64)]) (rest := []) ⟨hx, hb, hml, hown, hts⟩ ((k_in l D k st lo nu2_1 p1 p2) H.size) (va_cwS 3 hts (gS tw_1111 tw_1112 tw_87 tw_1113) rfl rfl rfl (by decide +kernel) ⟨Nat.le_of_ble_eq_true rfl, Nat.le_of_ble_eq_true rfl⟩) (pS hS hAlo hlo hP hK (va_Dlo hD hAlo) hZ [] (by decide) rfl) rfl rfl hl.1 rfl (lv_room (Nat.le_of_ble_eq_true rfl)) dX8_takeFigures_160 ⟨Nat.le_of_ble_eq_true rfl, Nat.le_of_ble_eq_true rfl⟩) hS hA hP (fun r_25 H locs hw_25 hP hS => ?_)
          try dsimp only at hw_25
          rcases hw_25 with ⟨rfl, hw_25⟩ | ⟨rfl, hw_25⟩
          · refine lv_if_ne (tgt := 175) hx hb dX8_takeFigures_163 (by decide) (fun _ => ?_) (fun h => absurd h (by decide))
            refine lv_iconst (v := 0) hx hb dX8_takeFigures_175 (by decide) ?_
            have hP9 := hP.sub (ws' := [((a 0), .inr (8, (fX8 a (nI tx) fp (nI t_1) wd (nI we) nu2_1 na (nI rd) ts (nI ru) (nI rw) (nI ca) df db sd))), (aI k (a 5) 240 ftext)]) [0, 1] rfl
            have hD9 := hD.sub (ws' := [((a 0), .inr (8, (fX8 a (nI tx) fp (nI t_1) wd (nI we) nu2_1 na (nI rd) ts (nI ru) (nI rw) (nI ca) df db sd))), (aI k (a 5) 240 ftext)]) [0, 1] (by decide) rfl
            exact W.iret (v := 0) hx hb hr (fun t ht hW => ⟨⟨0, (t_1, nu2_1, fp), rfl, ⟨.inl ⟨rfl, nuS_0 hle_20 (by omega) (vS_fm hle_20 (by omega) hve_20) (by omega) hw_25, rfl⟩, by omega, by omega⟩, by rw [ht]; exact hP9, hD9⟩, hS.F ht⟩) hS.2.2 dX8_takeFigures_176
          · refine lv_if_ne (tgt := 175) hx hb dX8_takeFigures_163 (by decide) (fun h => absurd (by decide) h) (fun _ => ?_)
            refine lv_aload_n hx hb dX8_takeFigures_166 rfl (lv_at hl 2 rfl) ?_
            refine lv_iconst (v := 2) hx hb dX8_takeFigures_167 (by decide) ?_
            refine lv_iload_n hx hb dX8_takeFigures_168 rfl (lv_at hl 3 rfl) ?_
            refine rw_i (D := D) (wr := [(aI k (a 5) 240 ftext)]) (va_runV (As := [.int 2, .int (nI qa)]) (rest := []) ⟨hx, hb, hml, hown, hts⟩ ((n_fails l D k st lo a tx t_1 we rd ru rw ca fp wd nu2_1 na ts df db sd 2 (nI qa)) H.size) (cwV 2 hts (gV tw_1151 tw_1153 tw_31 tw_87 tw_1154) rfl rfl rfl (by decide +kernel) ⟨Nat.le_of_ble_eq_true rfl, Nat.le_of_ble_eq_true rfl⟩) (pV hS hAlo hlo hP hK (va_Dlo hD hAlo) hZ [0] (by decide) rfl (ci := 8) (q := (RX8, TX8, 44)) (q0 := 0) rfl rfl) rfl rfl hl.1 rfl (lv_room (Nat.le_of_ble_eq_true rfl)) dX8_takeFigures_169 ⟨Nat.le_of_ble_eq_true rfl, Nat.le_of_ble_eq_true rfl⟩) hS hA hP hD [0] [1] rfl rfl (by decide) (by decide) (fun r_26 u H locs hw_26 hP hD hS => ?_)
            obtain ⟨fp__26, rfl⟩ : ∃ z, z = u := ⟨_, rfl⟩
            replace hP : va_P D classes [(aI k (a 5) 240 ftext), ((a 0), .inr (8, (fX8 a (nI tx) fp__26 (nI t_1) wd (nI we) nu2_1 na (nI rd) ts (nI ru) (nI rw) (nI ca) df db sd)))] H := hP
            replace hD : va_D A [(aI k (a 5) 240 ftext), ((a 0), .inr (8, (fX8 a (nI tx) fp__26 (nI t_1) wd (nI we) nu2_1 na (nI rd) ts (nI ru) (nI rw) (nI ca) df db sd)))] := hD
            try dsimp only at hw_26
            obtain ⟨hs0_27, hs1_27⟩ := hw_26
            replace hs0_27 := hs0_27.symm
            subst hs0_27
            replace hs1_27 := hs1_27.symm
            subst hs1_27
            refine lv_goto (tgt := 176) hx hb dX8_takeFigures_172 (by decide) ?_
            have hP9 := hP.sub (ws' := [((a 0), .inr (8, (fX8 a (nI tx) (nI qa) (nI t_1) wd (nI we) nu2_1 na (nI rd) ts (nI ru) (nI rw) (nI ca) df db sd))), (aI k (a 5) 240 ftext)]) [1, 0] rfl
            have hD9 := hD.sub (ws' := [((a 0), .inr (8, (fX8 a (nI tx) (nI qa) (nI t_1) wd (nI we) nu2_1 na (nI rd) ts (nI ru) (nI rw) (nI ca) df db sd))), (aI k (a 5) 240 ftext)]) [1, 0] (by decide) rfl
            exact W.iret (v := 2) hx hb hr (fun t ht hW => ⟨⟨2, (t_1, nu2_1, (nI qa)), rfl, ⟨.inr (.inr ⟨rfl, _, nuS_2 hle_20 (by omega) (vS_fm hle_20 (by omega) hve_20) (.inr (fun h => hw_25 h)), rfl⟩), by omega, by omega⟩, by rw [ht]; exact hP9, hD9⟩, hS.F ht⟩) hS.2.2 dX8_takeFigures_176
      · have c_21 := (nI_eq (a := t_1) (b := t0) (by omega) (by omega)).mp c_21
        refine lv_aload_n hx hb dX8_takeFigures_107 rfl (lv_at hl 1 rfl) ?_
        refine lv_iconst (v := 1) hx hb dX8_takeFigures_108 (by decide) ?_
        refine lv_iload hx hb dX8_takeFigures_109 (lv_at hl 0 rfl) ?_
        refine rw_i (D := D) (wr := [(aI k (a 5) 240 ftext)]) (va_runV (As := [.int 1, .int (nI t0)]) (rest := []) ⟨hx, hb, hml, hown, hts⟩ ((n_fails l D k st lo a tx t_1 we rd ru rw ca fp wd nu2_1 na ts df db sd 1 (nI t0)) H.size) (cwV 2 hts (gV tw_1151 tw_1153 tw_31 tw_87 tw_1154) rfl rfl rfl (by decide +kernel) ⟨Nat.le_of_ble_eq_true rfl, Nat.le_of_ble_eq_true rfl⟩) (pV hS hAlo hlo hP hK (va_Dlo hD hAlo) hZ [0] (by decide) rfl (ci := 8) (q := (RX8, TX8, 44)) (q0 := 0) rfl rfl) rfl rfl hl.1 rfl (lv_room (Nat.le_of_ble_eq_true rfl)) dX8_takeFigures_111 ⟨Nat.le_of_ble_eq_true rfl, Nat.le_of_ble_eq_true rfl⟩) hS hA hP hD [0] [1] rfl rfl (by decide) (by decide) (fun r_28 u H locs hw_28 hP hD hS => ?_)
        obtain ⟨fp__28, rfl⟩ : ∃ z, z = u := ⟨_, rfl⟩
        replace hP : va_P D classes [(aI k (a 5) 240 ftext), ((a 0), .inr (8, (fX8 a (nI tx) fp__28 (nI t_1) wd (nI we) nu2_1 na (nI rd) ts (nI ru) (nI rw) (nI ca) df db sd)))] H := hP
        replace hD : va_D A [(aI k (a 5) 240 ftext), ((a 0), .inr (8, (fX8 a (nI tx) fp__28 (nI t_1) wd (nI we) nu2_1 na (nI rd) ts (nI ru) (nI rw) (nI ca) df db sd)))] := hD
        try dsimp only at hw_28
        obtain ⟨hs0_29, hs1_29⟩ := hw_28
        replace hs0_29 := hs0_29.symm
        subst hs0_29
        replace hs1_29 := hs1_29.symm
        subst hs1_29
        have hP9 := hP.sub (ws' := [((a 0), .inr (8, (fX8 a (nI tx) (nI t0) (nI t_1) wd (nI we) nu2_1 na (nI rd) ts (nI ru) (nI rw) (nI ca) df db sd))), (aI k (a 5) 240 ftext)]) [1, 0] rfl
        have hD9 := hD.sub (ws' := [((a 0), .inr (8, (fX8 a (nI tx) (nI t0) (nI t_1) wd (nI we) nu2_1 na (nI rd) ts (nI ru) (nI rw) (nI ca) df db sd))), (aI k (a 5) 240 ftext)]) [1, 0] (by decide) rfl
        exact W.iret (v := 1) hx hb hr (fun t ht hW => ⟨⟨1, (t_1, nu2_1, (nI t0)), rfl, ⟨.inr (.inl ⟨rfl, _, nuS_1t hle_20 (by omega), congrArg nI (by omega)⟩), by omega, by omega⟩, by rw [ht]; exact hP9, hD9⟩, hS.F ht⟩) hS.2.2 dX8_takeFigures_114


set_option maxHeartbeats 4000000 in
set_option maxRecDepth 100000 in
theorem n_takeFigures_1 (l : Launch) (D : va_G) (k : Nat → ClassId) (st : Nat → Nat) (lo : Nat) (a : Nat → Nat) (tx : Nat) (t0 : Nat) (we : Nat) (rd : Nat) (ru : Nat) (rw : Nat) (ca : Nat) (fp : Int32) (wd : Int64) (nu : Int32) (na : Int32) (ts : Int32) (df : Int32) (db : Int32) (sd : Int32) (ftext : Nat → Int32) (qa : Nat) (p1 : Int32) (p2 : Int32) (ht : t0 ≤ tx) (htx : tx ≤ 240) : CWi l D k st lo yX8_takeFigures cX8_takeFigures 7 (some .int) ({ frames := 1, cells := 0, slots := 0, locals := 25 }) 0 0 [.ref (a 0), .int (nI qa), .int p1, .int p2, .int 1] [((a 0), .inr (8, (fX8 a (nI tx) fp (nI t0) wd (nI we) nu na (nI rd) ts (nI ru) (nI rw) (nI ca) df db sd))), (aI k (a 5) 240 ftext)] (fun (r : Int32) (u : Nat × Int32 × Int32) => match u with | (t0_, nu_, fp_) => ((r = 0 ∧ nuS ftext tx true p1 p2 qa t0 = (0, 0, t0_, nu_, qa) ∧ fp_ = fp) ∨ (r = 1 ∧ ∃ pl : Nat, nuS ftext tx true p1 p2 qa t0 = (1, pl, t0_, 0, qa) ∧ fp_ = nI pl) ∨ (r = 2 ∧ ∃ pl : Nat, nuS ftext tx true p1 p2 qa t0 = (2, pl, t0_, 0, qa) ∧ fp_ = nI pl)) ∧ t0 ≤ t0_ ∧ t0_ ≤ tx) (fun (u : Nat × Int32 × Int32) => match u with | (t0_, nu_, fp_) => [((a 0), .inr (8, (fX8 a (nI tx) fp_ (nI t0_) wd (nI we) nu_ na (nI rd) ts (nI ru) (nI rw) (nI ca) df db sd))), (aI k (a 5) 240 ftext)]) := by
  intro sz
  refine Met.ofW (cc := cX8_takeFigures) (maxL := 7) (ret := (some .int)) (by decide) rfl ?_
  intro p e s m args below meth c s₁ B hml hv
  obtain ⟨rfl, hsz, hlo, hP, hK, hDL, hZ⟩ := hv
  have hx := B.exec
  have hb := B.bytes
  have hr := B.returns
  have hts := WS_ts B.pre
  have hown : s.vm.findClass RX8 = some m.cls := findClass_of_methodNamed B.named
  have hlocks := B.notSynchronized
  subst hsz
  have hD := hDL.self (sz := s.heap.size)
  have hAlo := A_lo hDL hlo
  generalize hAe : va_A [((a 0), .inr (8, (fX8 a (nI tx) fp (nI t0) wd (nI we) nu na (nI rd) ts (nI ru) (nI rw) (nI ca) df db sd))), (aI k (a 5) 240 ftext)] s.heap.size = A at hD hAlo ⊢
  have hA : ∀ q : Nat, s.heap.size ≤ q → A q := fun q h => by rw [← hAe]; exact Or.inr h
  have hS : va_S A s.heap s.heap [] := va_S.rf
  have hl := lv_entry ([.ref (a 0), .int (nI qa), .int p1, .int p2, .int 1]) (n := 7) (Nat.le_of_ble_eq_true rfl)
  rw [lg_entry_eq]
  generalize (lg_sl ([.ref (a 0), .int (nI qa), .int p1, .int p2, .int 1]) ++ List.replicate (7 - (lg_sl ([.ref (a 0), .int (nI qa), .int p1, .int p2, .int 1])).length) Slot.unset).toArray = ls at hl ⊢
  have hl : lv_has ls 7 [(0, .ref (a 0)), (1, .int (nI qa)), (2, .int p1), (3, .int p2), (4, .int 1)] := hl
  refine lv_aload_n hx hb dX8_takeFigures_0 rfl (lv_at hl 0 rfl) ?_
  refine va_get (D := D) (ci := 8) (v := .int (nI t0)) (C := RX8) (T := TX8) (N := 44) hx hb hts inX8 hown hK hP 0 rfl rfl 7 (by decide) (hts _ tw_980) (fun _ h9 => h9) rfl dX8_takeFigures_1 ?_
  refine lv_istore (lv' := [(5, .int (nI t0)), (0, .ref (a 0)), (1, .int (nI qa)), (2, .int p1), (3, .int p2), (4, .int 1)]) hx hb dX8_takeFigures_4 hl (by decide) rfl (fun ls hl => ?_)
  refine lv_aload_n hx hb dX8_takeFigures_6 rfl (lv_at hl 1 rfl) ?_
  refine lv_iconst (v := 0) hx hb dX8_takeFigures_7 (by decide) ?_
  refine va_put (D := D) (ci := 8) (v := .int 0) (ty := .int) (C := RX8) (T := TX8) (N := 44) hx hb hts inX8 tyX8 tyX8_ok nmX8 hown hK hP hD hS 0 rfl rfl 10 (by decide) (hts _ tw_983) (fun _ h9 => h9) rfl (by decide +kernel) rfl rfl (Nat.le_of_ble_eq_true rfl) dX8_takeFigures_8 (fun H locs hP hD hS => ?_)
  replace hP : va_P D classes [((a 0), .inr (8, (fX8 a (nI tx) fp (nI t0) wd (nI we) 0 na (nI rd) ts (nI ru) (nI rw) (nI ca) df db sd))), (aI k (a 5) 240 ftext)] H := hP
  replace hD : va_D A [((a 0), .inr (8, (fX8 a (nI tx) fp (nI t0) wd (nI we) 0 na (nI rd) ts (nI ru) (nI rw) (nI ca) df db sd))), (aI k (a 5) 240 ftext)] := hD
  refine W_loop (σ := Nat × Int32) (fun (n_ : Nat) (x_ : Nat × Int32) (H : Heap) (locs : List Loc) (ls : Array Slot) => match x_ with | (t_1, nu2_1) => n_ = tx - t_1 ∧ (t0 ≤ t_1 ∧ t_1 ≤ tx ∧ t_1 + (figA ftext tx t_1).length = t0 + (figA ftext tx t0).length ∧ (figA ftext tx t_1).foldl stN nu2_1 = vM (figA ftext tx t0)) ∧ va_P D classes [((a 0), .inr (8, (fX8 a (nI tx) fp (nI t_1) wd (nI we) nu2_1 na (nI rd) ts (nI ru) (nI rw) (nI ca) df db sd))), (aI k (a 5) 240 ftext)] H ∧ va_D A [((a 0), .inr (8, (fX8 a (nI tx) fp (nI t_1) wd (nI we) nu2_1 na (nI rd) ts (nI ru) (nI rw) (nI ca) df db sd))), (aI k (a 5) 240 ftext)] ∧ va_S A s.heap H locs ∧ lv_has ls 7 [(5, .int (nI t0)), (0, .ref (a 0)), (1, .int (nI qa)), (2, .int p1), (3, .int p2), (4, .int 1)]) (fun n_1 x_1 H locs ls hI ih_1 => ?_) _ (t0, 0) ⟨rfl, ⟨by omega, by omega, rfl, rfl⟩, hP, hD, hS, (lv_sub hl [0, 1, 2, 3, 4, 5] rfl)⟩
  obtain ⟨t_1, nu2_1⟩ := x_1
  obtain ⟨hm_1, hv_1, hP, hD, hS, hl⟩ := hI
  subst hm_1
  refine lv_aload_n hx hb dX8_takeFigures_11 rfl (lv_at hl 1 rfl) ?_
  refine va_get (D := D) (ci := 8) (v := .int (nI t_1)) (C := RX8) (T := TX8) (N := 44) hx hb hts inX8 hown hK hP 0 rfl rfl 7 (by decide) (hts _ tw_980) (fun _ h9 => h9) rfl dX8_takeFigures_12 ?_
  refine lv_aload_n hx hb dX8_takeFigures_15 rfl (lv_at hl 1 rfl) ?_
  refine va_get (D := D) (ci := 8) (v := .int (nI tx)) (C := RX8) (T := TX8) (N := 44) hx hb hts inX8 hown hK hP 0 rfl rfl 5 (by decide) (hts _ tw_978) (fun _ h9 => h9) rfl dX8_takeFigures_16 ?_
  refine lv_icmp_ge (tgt := 98) hx hb dX8_takeFigures_19 (by decide) (fun c_2 => ?_) (fun c_2 => ?_)
  · have c_2 := (nI_leI (a := tx) (b := t_1) (by omega) (by omega)).mp c_2
    obtain ⟨hle_3, hve_3⟩ := fg_out (figA_end (by omega)) hv_1.2.2.1 hv_1.2.2.2
    refine lv_aload_n hx hb dX8_takeFigures_98 rfl (lv_at hl 1 rfl) ?_
    refine va_get (D := D) (ci := 8) (v := .int (nI t_1)) (C := RX8) (T := TX8) (N := 44) hx hb hts inX8 hown hK hP 0 rfl rfl 7 (by decide) (hts _ tw_980) (fun _ h9 => h9) rfl dX8_takeFigures_99 ?_
    refine lv_iload hx hb dX8_takeFigures_102 (lv_at hl 0 rfl) ?_
    refine lv_icmp_ne (tgt := 115) hx hb dX8_takeFigures_104 (by decide) (fun c_4 => ?_) (fun c_4 => ?_)
    · have c_4 : ¬ (t_1 = t0) := fun h => c_4 ((nI_eq (a := t_1) (b := t0) (by omega) (by omega)).mpr h)
      refine lv_aload_n hx hb dX8_takeFigures_115 rfl (lv_at hl 1 rfl) ?_
      refine va_get (D := D) (ci := 8) (v := .int (nI t_1)) (C := RX8) (T := TX8) (N := 44) hx hb hts inX8 hown hK hP 0 rfl rfl 7 (by decide) (hts _ tw_980) (fun _ h9 => h9) rfl dX8_takeFigures_116 ?_
      refine lv_iload hx hb dX8_takeFigures_119 (lv_at hl 0 rfl) ?_
      refine lv_isub hx hb dX8_takeFigures_121 ?_
      refine lv_ti (y := (nI (t_1 - t0))) (pk_sub (a := t_1) (b := t0) (by omega)) ?_
      refine lv_istore (lv' := [(6, .int (nI (t_1 - t0))), (5, .int (nI t0)), (0, .ref (a 0)), (1, .int (nI qa)), (2, .int p1), (3, .int p2), (4, .int 1)]) hx hb dX8_takeFigures_122 hl (by decide) rfl (fun ls hl => ?_)
      refine lv_aload_n hx hb dX8_takeFigures_124 rfl (lv_at hl 2 rfl) ?_
      refine lv_iload hx hb dX8_takeFigures_125 (lv_at hl 6 rfl) ?_
      refine lv_if_eq (tgt := 138) hx hb dX8_takeFigures_127 (by decide) (fun h => absurd h (by decide)) (fun _ => ?_)
      refine lv_aload_n hx hb dX8_takeFigures_130 rfl (lv_at hl 2 rfl) ?_
      refine va_get (D := D) (ci := 8) (v := .int nu2_1) (C := RX8) (T := TX8) (N := 44) hx hb hts inX8 hown hK hP 0 rfl rfl 10 (by decide) (hts _ tw_983) (fun _ h9 => h9) rfl dX8_takeFigures_131 ?_
      refine lv_ineg hx hb dX8_takeFigures_134 ?_
      refine lv_topi (fun x_5 ex_5 => ?_)
      refine lv_goto (tgt := 142) hx hb dX8_takeFigures_135 (by decide) ?_
      refine va_put (D := D) (ci := 8) (v := .int x_5) (ty := .int) (C := RX8) (T := TX8) (N := 44) hx hb hts inX8 tyX8 tyX8_ok nmX8 hown hK hP hD hS 0 rfl rfl 10 (by decide) (hts _ tw_983) (fun _ h9 => h9) rfl (by decide +kernel) rfl rfl (Nat.le_of_ble_eq_true rfl) dX8_takeFigures_142 (fun H locs hP hD hS => ?_)
      replace hP : va_P D classes [((a 0), .inr (8, (fX8 a (nI tx) fp (nI t_1) wd (nI we) x_5 na (nI rd) ts (nI ru) (nI rw) (nI ca) df db sd))), (aI k (a 5) 240 ftext)] H := hP
      replace hD : va_D A [((a 0), .inr (8, (fX8 a (nI tx) fp (nI t_1) wd (nI we) x_5 na (nI rd) ts (nI ru) (nI rw) (nI ca) df db sd))), (aI k (a 5) 240 ftext)] := hD
      refine lv_iload hx hb dX8_takeFigures_145 (lv_at hl 0 rfl) ?_
      refine lv_iconst (v := 3) hx hb dX8_takeFigures_147 (by decide) ?_
      refine lv_icmp_gt (tgt := 166) hx hb dX8_takeFigures_148 (by decide) (fun c_6 => ?_) (fun c_6 => ?_)
      · have c_6 := (nI_ltI (a := 3) (b := (t_1 - t0)) (by omega) (by omega)).mp c_6
        refine lv_aload_n hx hb dX8_takeFigures_166 rfl (lv_at hl 2 rfl) ?_
        refine lv_iconst (v := 2) hx hb dX8_takeFigures_167 (by decide) ?_
        refine lv_iload_n hx hb dX8_takeFigures_168 rfl (lv_at hl 3 rfl) ?_
        refine rw_i (D := D) (wr := [(aI k (a 5) 240 ftext)]) (va_runV (As := [.int 2, .int (nI qa)]) (rest := []) ⟨hx, hb, hml, hown, hts⟩ ((n_fails l D k st lo a tx t_1 we rd ru rw ca fp wd x_5 na ts df db sd 2 (nI qa)) H.size) (cwV 2 hts (gV tw_1151 tw_1153 tw_31 tw_87 tw_1154) rfl rfl rfl (by decide +kernel) ⟨Nat.le_of_ble_eq_true rfl, Nat.le_of_ble_eq_true rfl⟩) (pV hS hAlo hlo hP hK (va_Dlo hD hAlo) hZ [0] (by decide) rfl (ci := 8) (q := (RX8, TX8, 44)) (q0 := 0) rfl rfl) rfl rfl hl.1 rfl (lv_room (Nat.le_of_ble_eq_true rfl)) dX8_takeFigures_169 ⟨Nat.le_of_ble_eq_true rfl, Nat.le_of_ble_eq_true rfl⟩) hS hA hP hD [0] [1] rfl rfl (by decide) (by decide) (fun r_7 u H locs hw_7 hP hD hS => ?_)
        obtain ⟨fp__7, rfl⟩ : ∃ z, z = u := ⟨_, rfl⟩
        replace hP : va_P D classes [(aI k (a 5) 240 ftext), ((a 0), .inr (8, (fX8 a (nI tx) fp__7 (nI t_1) wd (nI we) x_5 na (nI rd) ts (nI ru) (nI rw) (nI ca) df db sd)))] H := hP
        replace hD : va_D A [(aI k (a 5) 240 ftext), ((a 0), .inr (8, (fX8 a (nI tx) fp__7 (nI t_1) wd (nI we) x_5 na (nI rd) ts (nI ru) (nI rw) (nI ca) df db sd)))] := hD
        try dsimp only at hw_7
        obtain ⟨hs0_8, hs1_8⟩ := hw_7
        replace hs0_8 := hs0_8.symm
        subst hs0_8
        replace hs1_8 := hs1_8.symm
        subst hs1_8
        refine lv_goto (tgt := 176) hx hb dX8_takeFigures_172 (by decide) ?_
        have hP9 := hP.sub (ws' := [((a 0), .inr (8, (fX8 a (nI tx) (nI qa) (nI t_1) wd (nI we) x_5 na (nI rd) ts (nI ru) (nI rw) (nI ca) df db sd))), (aI k (a 5) 240 ftext)]) [1, 0] rfl
        have hD9 := hD.sub (ws' := [((a 0), .inr (8, (fX8 a (nI tx) (nI qa) (nI t_1) wd (nI we) x_5 na (nI rd) ts (nI ru) (nI rw) (nI ca) df db sd))), (aI k (a 5) 240 ftext)]) [1, 0] (by decide) rfl
        exact W.iret (v := 2) hx hb hr (fun t ht hW => ⟨⟨2, (t_1, x_5, (nI qa)), rfl, ⟨.inr (.inr ⟨rfl, _, nuS_2 hle_3 (by omega) rfl (.inl (by omega)), rfl⟩), by omega, by omega⟩, by rw [ht]; exact hP9, hD9⟩, hS.F ht⟩) hS.2.2 dX8_takeFigures_176
      · have c_6 : ¬ (3 < (t_1 - t0)) := fun h => c_6 ((nI_ltI (a := 3) (b := (t_1 - t0)) (by omega) (by omega)).mpr h)
        refine lv_aload_n hx hb dX8_takeFigures_151 rfl (lv_at hl 2 rfl) ?_
        refine va_get (D := D) (ci := 8) (v := .int x_5) (C := RX8) (T := TX8) (N := 44) hx hb hts inX8 hown hK hP 0 rfl rfl 10 (by decide) (hts _ tw_983) (fun _ h9 => h9) rfl dX8_takeFigures_152 ?_
        refine lv_i2l (v := x_5.toInt64) hx hb dX8_takeFigures_155 rfl ?_
        refine lv_iload_n hx hb dX8_takeFigures_156 rfl (lv_at hl 4 rfl) ?_
        refine lv_i2l (v := p1.toInt64) hx hb dX8_takeFigures_157 rfl ?_
        refine lv_iload_n hx hb dX8_takeFigures_158 rfl (lv_at hl 5 rfl) ?_
        refine lv_i2l (v := p2.toInt64) hx hb dX8_takeFigures_159 rfl ?_
        refine ro_i (D := D) (va_runS (As := [.long (x_5.toInt64), .long (p1.toInt64), .long (p2.toInt64)]) (rest := []) ⟨hx, hb, hml, hown, hts⟩ ((k_in l D k st lo x_5 p1 p2) H.size) (va_cwS 3 hts (gS tw_1111 tw_1112 tw_87 tw_1113) rfl rfl rfl (by decide +kernel) ⟨Nat.le_of_ble_eq_true rfl, Nat.le_of_ble_eq_true rfl⟩) (pS hS hAlo hlo hP hK (va_Dlo hD hAlo) hZ [] (by decide) rfl) rfl rfl hl.1 rfl (lv_room (Nat.le_of_ble_eq_true rfl)) dX8_takeFigures_160 ⟨Nat.le_of_ble_eq_true rfl, Nat.le_of_ble_eq_true rfl⟩) hS hA hP (fun r_9 H locs hw_9 hP hS => ?_)
        try dsimp only at hw_9
        rcases hw_9 with ⟨rfl, hw_9⟩ | ⟨rfl, hw_9⟩
        · refine lv_if_ne (tgt := 175) hx hb dX8_takeFigures_163 (by decide) (fun _ => ?_) (fun h => absurd h (by decide))
          refine lv_iconst (v := 0) hx hb dX8_takeFigures_175 (by decide) ?_
          have hP9 := hP.sub (ws' := [((a 0), .inr (8, (fX8 a (nI tx) fp (nI t_1) wd (nI we) x_5 na (nI rd) ts (nI ru) (nI rw) (nI ca) df db sd))), (aI k (a 5) 240 ftext)]) [0, 1] rfl
          have hD9 := hD.sub (ws' := [((a 0), .inr (8, (fX8 a (nI tx) fp (nI t_1) wd (nI we) x_5 na (nI rd) ts (nI ru) (nI rw) (nI ca) df db sd))), (aI k (a 5) 240 ftext)]) [0, 1] (by decide) rfl
          exact W.iret (v := 0) hx hb hr (fun t ht hW => ⟨⟨0, (t_1, x_5, fp), rfl, ⟨.inl ⟨rfl, nuS_0 hle_3 (by omega) (vS_tm hle_3 (by omega) hve_3 ex_5) (by omega) hw_9, rfl⟩, by omega, by omega⟩, by rw [ht]; exact hP9, hD9⟩, hS.F ht⟩) hS.2.2 dX8_takeFigures_176
        · refine lv_if_ne (tgt := 175) hx hb dX8_takeFigures_163 (by decide) (fun h => absurd (by decide) h) (fun _ => ?_)
          refine lv_aload_n hx hb dX8_takeFigures_166 rfl (lv_at hl 2 rfl) ?_
          refine lv_iconst (v := 2) hx hb dX8_takeFigures_167 (by decide) ?_
          refine lv_iload_n hx hb dX8_takeFigures_168 rfl (lv_at hl 3 rfl) ?_
          refine rw_i (D := D) (wr := [(aI k (a 5) 240 ftext)]) (va_runV (As := [.int 2, .int (nI qa)]) (rest := []) ⟨hx, hb, hml, hown, hts⟩ ((n_fails l D k st lo a tx t_1 we rd ru rw ca fp wd x_5 na ts df db sd 2 (nI qa)) H.size) (cwV 2 hts (gV tw_1151 tw_1153 tw_31 tw_87 tw_1154) rfl rfl rfl (by decide +kernel) ⟨Nat.le_of_ble_eq_true rfl, Nat.le_of_ble_eq_true rfl⟩) (pV hS hAlo hlo hP hK (va_Dlo hD hAlo) hZ [0] (by decide) rfl (ci := 8) (q := (RX8, TX8, 44)) (q0 := 0) rfl rfl) rfl rfl hl.1 rfl (lv_room (Nat.le_of_ble_eq_true rfl)) dX8_takeFigures_169 ⟨Nat.le_of_ble_eq_true rfl, Nat.le_of_ble_eq_true rfl⟩) hS hA hP hD [0] [1] rfl rfl (by decide) (by decide) (fun r_10 u H locs hw_10 hP hD hS => ?_)
          obtain ⟨fp__10, rfl⟩ : ∃ z, z = u := ⟨_, rfl⟩
          replace hP : va_P D classes [(aI k (a 5) 240 ftext), ((a 0), .inr (8, (fX8 a (nI tx) fp__10 (nI t_1) wd (nI we) x_5 na (nI rd) ts (nI ru) (nI rw) (nI ca) df db sd)))] H := hP
          replace hD : va_D A [(aI k (a 5) 240 ftext), ((a 0), .inr (8, (fX8 a (nI tx) fp__10 (nI t_1) wd (nI we) x_5 na (nI rd) ts (nI ru) (nI rw) (nI ca) df db sd)))] := hD
          try dsimp only at hw_10
          obtain ⟨hs0_11, hs1_11⟩ := hw_10
          replace hs0_11 := hs0_11.symm
          subst hs0_11
          replace hs1_11 := hs1_11.symm
          subst hs1_11
          refine lv_goto (tgt := 176) hx hb dX8_takeFigures_172 (by decide) ?_
          have hP9 := hP.sub (ws' := [((a 0), .inr (8, (fX8 a (nI tx) (nI qa) (nI t_1) wd (nI we) x_5 na (nI rd) ts (nI ru) (nI rw) (nI ca) df db sd))), (aI k (a 5) 240 ftext)]) [1, 0] rfl
          have hD9 := hD.sub (ws' := [((a 0), .inr (8, (fX8 a (nI tx) (nI qa) (nI t_1) wd (nI we) x_5 na (nI rd) ts (nI ru) (nI rw) (nI ca) df db sd))), (aI k (a 5) 240 ftext)]) [1, 0] (by decide) rfl
          exact W.iret (v := 2) hx hb hr (fun t ht hW => ⟨⟨2, (t_1, x_5, (nI qa)), rfl, ⟨.inr (.inr ⟨rfl, _, nuS_2 hle_3 (by omega) (vS_tm hle_3 (by omega) hve_3 ex_5) (.inr (fun h => hw_9 h)), rfl⟩), by omega, by omega⟩, by rw [ht]; exact hP9, hD9⟩, hS.F ht⟩) hS.2.2 dX8_takeFigures_176
    · have c_4 := (nI_eq (a := t_1) (b := t0) (by omega) (by omega)).mp c_4
      refine lv_aload_n hx hb dX8_takeFigures_107 rfl (lv_at hl 1 rfl) ?_
      refine lv_iconst (v := 1) hx hb dX8_takeFigures_108 (by decide) ?_
      refine lv_iload hx hb dX8_takeFigures_109 (lv_at hl 0 rfl) ?_
      refine rw_i (D := D) (wr := [(aI k (a 5) 240 ftext)]) (va_runV (As := [.int 1, .int (nI t0)]) (rest := []) ⟨hx, hb, hml, hown, hts⟩ ((n_fails l D k st lo a tx t_1 we rd ru rw ca fp wd nu2_1 na ts df db sd 1 (nI t0)) H.size) (cwV 2 hts (gV tw_1151 tw_1153 tw_31 tw_87 tw_1154) rfl rfl rfl (by decide +kernel) ⟨Nat.le_of_ble_eq_true rfl, Nat.le_of_ble_eq_true rfl⟩) (pV hS hAlo hlo hP hK (va_Dlo hD hAlo) hZ [0] (by decide) rfl (ci := 8) (q := (RX8, TX8, 44)) (q0 := 0) rfl rfl) rfl rfl hl.1 rfl (lv_room (Nat.le_of_ble_eq_true rfl)) dX8_takeFigures_111 ⟨Nat.le_of_ble_eq_true rfl, Nat.le_of_ble_eq_true rfl⟩) hS hA hP hD [0] [1] rfl rfl (by decide) (by decide) (fun r_12 u H locs hw_12 hP hD hS => ?_)
      obtain ⟨fp__12, rfl⟩ : ∃ z, z = u := ⟨_, rfl⟩
      replace hP : va_P D classes [(aI k (a 5) 240 ftext), ((a 0), .inr (8, (fX8 a (nI tx) fp__12 (nI t_1) wd (nI we) nu2_1 na (nI rd) ts (nI ru) (nI rw) (nI ca) df db sd)))] H := hP
      replace hD : va_D A [(aI k (a 5) 240 ftext), ((a 0), .inr (8, (fX8 a (nI tx) fp__12 (nI t_1) wd (nI we) nu2_1 na (nI rd) ts (nI ru) (nI rw) (nI ca) df db sd)))] := hD
      try dsimp only at hw_12
      obtain ⟨hs0_13, hs1_13⟩ := hw_12
      replace hs0_13 := hs0_13.symm
      subst hs0_13
      replace hs1_13 := hs1_13.symm
      subst hs1_13
      have hP9 := hP.sub (ws' := [((a 0), .inr (8, (fX8 a (nI tx) (nI t0) (nI t_1) wd (nI we) nu2_1 na (nI rd) ts (nI ru) (nI rw) (nI ca) df db sd))), (aI k (a 5) 240 ftext)]) [1, 0] rfl
      have hD9 := hD.sub (ws' := [((a 0), .inr (8, (fX8 a (nI tx) (nI t0) (nI t_1) wd (nI we) nu2_1 na (nI rd) ts (nI ru) (nI rw) (nI ca) df db sd))), (aI k (a 5) 240 ftext)]) [1, 0] (by decide) rfl
      exact W.iret (v := 1) hx hb hr (fun t ht hW => ⟨⟨1, (t_1, nu2_1, (nI t0)), rfl, ⟨.inr (.inl ⟨rfl, _, nuS_1t hle_3 (by omega), congrArg nI (by omega)⟩), by omega, by omega⟩, by rw [ht]; exact hP9, hD9⟩, hS.F ht⟩) hS.2.2 dX8_takeFigures_114
  · have c_2 : ¬ (tx ≤ t_1) := fun h => c_2 ((nI_leI (a := tx) (b := t_1) (by omega) (by omega)).mpr h)
    refine lv_aload_n hx hb dX8_takeFigures_22 rfl (lv_at hl 1 rfl) ?_
    refine va_get (D := D) (ci := 8) (v := .ref (a 5)) (C := RX8) (T := TX8) (N := 44) hx hb hts inX8 hown hK hP 0 rfl rfl 4 (by decide) (hts _ tw_977) (fun _ h9 => h9) rfl dX8_takeFigures_23 ?_
    refine lv_aload_n hx hb dX8_takeFigures_26 rfl (lv_at hl 1 rfl) ?_
    refine va_get (D := D) (ci := 8) (v := .int (nI t_1)) (C := RX8) (T := TX8) (N := 44) hx hb hts inX8 hown hK hP 0 rfl rfl 7 (by decide) (hts _ tw_980) (fun _ h9 => h9) rfl dX8_takeFigures_27 ?_
    refine va_iald hx hb hK hP 1 1 rfl rfl (vp_in_nI (by omega) (by decide)) dX8_takeFigures_30 ?_
    refine lv_ti (y := (ftext t_1)) (by rw [nI_clamp (by omega)]) ?_
    refine lv_i2l (v := (ftext t_1).toInt64) hx hb dX8_takeFigures_31 rfl ?_
    refine lv_ldc2 hx hb hown (hts _ tw_1163) dX8_takeFigures_32 ?_
    refine lv_tl (y := ((48 : Int32).toInt64)) (by decide) ?_
    refine lv_ldc2 hx hb hown (hts _ tw_1164) dX8_takeFigures_35 ?_
    refine lv_tl (y := ((57 : Int32).toInt64)) (by decide) ?_
    refine ro_i (D := D) (va_runS (As := [.long ((ftext t_1).toInt64), .long ((48 : Int32).toInt64), .long ((57 : Int32).toInt64)]) (rest := []) ⟨hx, hb, hml, hown, hts⟩ ((k_in l D k st lo (ftext t_1) (48 : Int32) (57 : Int32)) H.size) (va_cwS 3 hts (gS tw_1111 tw_1112 tw_87 tw_1113) rfl rfl rfl (by decide +kernel) ⟨Nat.le_of_ble_eq_true rfl, Nat.le_of_ble_eq_true rfl⟩) (pS hS hAlo hlo hP hK (va_Dlo hD hAlo) hZ [] (by decide) rfl) rfl rfl hl.1 rfl (lv_room (Nat.le_of_ble_eq_true rfl)) dX8_takeFigures_38 ⟨Nat.le_of_ble_eq_true rfl, Nat.le_of_ble_eq_true rfl⟩) hS hA hP (fun r_14 H locs hw_14 hP hS => ?_)
    try dsimp only at hw_14
    rcases hw_14 with ⟨rfl, hw_14⟩ | ⟨rfl, hw_14⟩
    · refine lv_if_eq (tgt := 98) hx hb dX8_takeFigures_41 (by decide) (fun h => absurd h (by decide)) (fun _ => ?_)
      refine lv_aload_n hx hb dX8_takeFigures_44 rfl (lv_at hl 1 rfl) ?_
      refine lv_aload_n hx hb dX8_takeFigures_45 rfl (lv_at hl 1 rfl) ?_
      refine va_get (D := D) (ci := 8) (v := .int nu2_1) (C := RX8) (T := TX8) (N := 44) hx hb hts inX8 hown hK hP 0 rfl rfl 10 (by decide) (hts _ tw_983) (fun _ h9 => h9) rfl dX8_takeFigures_46 ?_
      refine lv_sipush (v := 10000) hx hb dX8_takeFigures_49 (by decide) ?_
      refine lv_icmp_le (tgt := 62) hx hb dX8_takeFigures_52 (by decide) (fun c_15 => ?_) (fun c_15 => ?_)
      · refine lv_bipush (v := 10) hx hb dX8_takeFigures_62 (by decide) ?_
        refine lv_aload_n hx hb dX8_takeFigures_64 rfl (lv_at hl 1 rfl) ?_
        refine va_get (D := D) (ci := 8) (v := .int nu2_1) (C := RX8) (T := TX8) (N := 44) hx hb hts inX8 hown hK hP 0 rfl rfl 10 (by decide) (hts _ tw_983) (fun _ h9 => h9) rfl dX8_takeFigures_65 ?_
        refine lv_imul hx hb dX8_takeFigures_68 ?_
        refine lv_topi (fun x_16 ex_16 => ?_)
        refine lv_aload_n hx hb dX8_takeFigures_69 rfl (lv_at hl 1 rfl) ?_
        refine va_get (D := D) (ci := 8) (v := .ref (a 5)) (C := RX8) (T := TX8) (N := 44) hx hb hts inX8 hown hK hP 0 rfl rfl 4 (by decide) (hts _ tw_977) (fun _ h9 => h9) rfl dX8_takeFigures_70 ?_
        refine lv_aload_n hx hb dX8_takeFigures_73 rfl (lv_at hl 1 rfl) ?_
        refine va_get (D := D) (ci := 8) (v := .int (nI t_1)) (C := RX8) (T := TX8) (N := 44) hx hb hts inX8 hown hK hP 0 rfl rfl 7 (by decide) (hts _ tw_980) (fun _ h9 => h9) rfl dX8_takeFigures_74 ?_
        refine va_iald hx hb hK hP 1 1 rfl rfl (vp_in_nI (by omega) (by decide)) dX8_takeFigures_77 ?_
        refine lv_ti (y := (ftext t_1)) (by rw [nI_clamp (by omega)]) ?_
        refine lv_iadd hx hb dX8_takeFigures_78 ?_
        refine lv_topi (fun x_17 ex_17 => ?_)
        refine lv_bipush (v := 48) hx hb dX8_takeFigures_79 (by decide) ?_
        refine lv_isub hx hb dX8_takeFigures_81 ?_
        refine lv_topi (fun x_18 ex_18 => ?_)
        refine va_put (D := D) (ci := 8) (v := .int x_18) (ty := .int) (C := RX8) (T := TX8) (N := 44) hx hb hts inX8 tyX8 tyX8_ok nmX8 hown hK hP hD hS 0 rfl rfl 10 (by decide) (hts _ tw_983) (fun _ h9 => h9) rfl (by decide +kernel) rfl rfl (Nat.le_of_ble_eq_true rfl) dX8_takeFigures_82 (fun H locs hP hD hS => ?_)
        replace hP : va_P D classes [((a 0), .inr (8, (fX8 a (nI tx) fp (nI t_1) wd (nI we) x_18 na (nI rd) ts (nI ru) (nI rw) (nI ca) df db sd))), (aI k (a 5) 240 ftext)] H := hP
        replace hD : va_D A [((a 0), .inr (8, (fX8 a (nI tx) fp (nI t_1) wd (nI we) x_18 na (nI rd) ts (nI ru) (nI rw) (nI ca) df db sd))), (aI k (a 5) 240 ftext)] := hD
        refine lv_aload_n hx hb dX8_takeFigures_85 rfl (lv_at hl 1 rfl) ?_
        refine lv_dup hx hb dX8_takeFigures_86 rfl ?_
        refine va_get (D := D) (ci := 8) (v := .int (nI t_1)) (C := RX8) (T := TX8) (N := 44) hx hb hts inX8 hown hK hP 0 rfl rfl 7 (by decide) (hts _ tw_980) (fun _ h9 => h9) rfl dX8_takeFigures_87 ?_
        refine lv_iconst (v := 1) hx hb dX8_takeFigures_90 (by decide) ?_
        refine lv_iadd hx hb dX8_takeFigures_91 ?_
        refine lv_ti (y := (nI (t_1 + 1))) (nI_add t_1 1) ?_
        refine va_put (D := D) (ci := 8) (v := .int (nI (t_1 + 1))) (ty := .int) (C := RX8) (T := TX8) (N := 44) hx hb hts inX8 tyX8 tyX8_ok nmX8 hown hK hP hD hS 0 rfl rfl 7 (by decide) (hts _ tw_980) (fun _ h9 => h9) rfl (by decide +kernel) rfl rfl (Nat.le_of_ble_eq_true rfl) dX8_takeFigures_92 (fun H locs hP hD hS => ?_)
        replace hP : va_P D classes [((a 0), .inr (8, (fX8 a (nI tx) fp (nI (t_1 + 1)) wd (nI we) x_18 na (nI rd) ts (nI ru) (nI rw) (nI ca) df db sd))), (aI k (a 5) 240 ftext)] H := hP
        replace hD : va_D A [((a 0), .inr (8, (fX8 a (nI tx) fp (nI (t_1 + 1)) wd (nI we) x_18 na (nI rd) ts (nI ru) (nI rw) (nI ca) df db sd))), (aI k (a 5) 240 ftext)] := hD
        refine lv_goto (tgt := 11) hx hb dX8_takeFigures_95 (by decide) ?_
        have hst_19 := fg_step (by omega) hw_14 hv_1.2.2.1 hv_1.2.2.2
        exact ih_1 _ (t_1 + 1, x_18) _ _ _ (by omega) ⟨rfl, ⟨by omega, by omega, hst_19.1, (by rw [ex_18, ex_17, ex_16]; exact hst_19.2.2 c_15)⟩, hP, hD, hS, (lv_sub hl [0, 1, 2, 3, 4, 5] rfl)⟩
      · refine lv_aload_n hx hb dX8_takeFigures_55 rfl (lv_at hl 1 rfl) ?_
        refine va_get (D := D) (ci := 8) (v := .int nu2_1) (C := RX8) (T := TX8) (N := 44) hx hb hts inX8 hown hK hP 0 rfl rfl 10 (by decide) (hts _ tw_983) (fun _ h9 => h9) rfl dX8_takeFigures_56 ?_
        refine lv_goto (tgt := 82) hx hb dX8_takeFigures_59 (by decide) ?_
        refine va_put (D := D) (ci := 8) (v := .int nu2_1) (ty := .int) (C := RX8) (T := TX8) (N := 44) hx hb hts inX8 tyX8 tyX8_ok nmX8 hown hK hP hD hS 0 rfl rfl 10 (by decide) (hts _ tw_983) (fun _ h9 => h9) rfl (by decide +kernel) rfl rfl (Nat.le_of_ble_eq_true rfl) dX8_takeFigures_82 (fun H locs hP hD hS => ?_)
        replace hP : va_P D classes [((a 0), .inr (8, (fX8 a (nI tx) fp (nI t_1) wd (nI we) nu2_1 na (nI rd) ts (nI ru) (nI rw) (nI ca) df db sd))), (aI k (a 5) 240 ftext)] H := hP
        replace hD : va_D A [((a 0), .inr (8, (fX8 a (nI tx) fp (nI t_1) wd (nI we) nu2_1 na (nI rd) ts (nI ru) (nI rw) (nI ca) df db sd))), (aI k (a 5) 240 ftext)] := hD
        refine lv_aload_n hx hb dX8_takeFigures_85 rfl (lv_at hl 1 rfl) ?_
        refine lv_dup hx hb dX8_takeFigures_86 rfl ?_
        refine va_get (D := D) (ci := 8) (v := .int (nI t_1)) (C := RX8) (T := TX8) (N := 44) hx hb hts inX8 hown hK hP 0 rfl rfl 7 (by decide) (hts _ tw_980) (fun _ h9 => h9) rfl dX8_takeFigures_87 ?_
        refine lv_iconst (v := 1) hx hb dX8_takeFigures_90 (by decide) ?_
        refine lv_iadd hx hb dX8_takeFigures_91 ?_
        refine lv_ti (y := (nI (t_1 + 1))) (nI_add t_1 1) ?_
        refine va_put (D := D) (ci := 8) (v := .int (nI (t_1 + 1))) (ty := .int) (C := RX8) (T := TX8) (N := 44) hx hb hts inX8 tyX8 tyX8_ok nmX8 hown hK hP hD hS 0 rfl rfl 7 (by decide) (hts _ tw_980) (fun _ h9 => h9) rfl (by decide +kernel) rfl rfl (Nat.le_of_ble_eq_true rfl) dX8_takeFigures_92 (fun H locs hP hD hS => ?_)
        replace hP : va_P D classes [((a 0), .inr (8, (fX8 a (nI tx) fp (nI (t_1 + 1)) wd (nI we) nu2_1 na (nI rd) ts (nI ru) (nI rw) (nI ca) df db sd))), (aI k (a 5) 240 ftext)] H := hP
        replace hD : va_D A [((a 0), .inr (8, (fX8 a (nI tx) fp (nI (t_1 + 1)) wd (nI we) nu2_1 na (nI rd) ts (nI ru) (nI rw) (nI ca) df db sd))), (aI k (a 5) 240 ftext)] := hD
        refine lv_goto (tgt := 11) hx hb dX8_takeFigures_95 (by decide) ?_
        have hst_20 := fg_step (by omega) hw_14 hv_1.2.2.1 hv_1.2.2.2
        exact ih_1 _ (t_1 + 1, nu2_1) _ _ _ (by omega) ⟨rfl, ⟨by omega, by omega, hst_20.1, hst_20.2.1 c_15⟩, hP, hD, hS, (lv_sub hl [0, 1, 2, 3, 4, 5] rfl)⟩
    · refine lv_if_eq (tgt := 98) hx hb dX8_takeFigures_41 (by decide) (fun _ => ?_) (fun h => absurd (by decide) h)
      obtain ⟨hle_21, hve_21⟩ := fg_out (figA_no hw_14) hv_1.2.2.1 hv_1.2.2.2
      refine lv_aload_n hx hb dX8_takeFigures_98 rfl (lv_at hl 1 rfl) ?_
      refine va_get (D := D) (ci := 8) (v := .int (nI t_1)) (C := RX8) (T := TX8) (N := 44) hx hb hts inX8 hown hK hP 0 rfl rfl 7 (by decide) (hts _ tw_980) (fun _ h9 => h9) rfl dX8_takeFigures_99 ?_
      refine lv_iload hx hb dX8_takeFigures_102 (lv_at hl 0 rfl) ?_
      refine lv_icmp_ne (tgt := 115) hx hb dX8_takeFigures_104 (by decide) (fun c_22 => ?_) (fun c_22 => ?_)
      · have c_22 : ¬ (t_1 = t0) := fun h => c_22 ((nI_eq (a := t_1) (b := t0) (by omega) (by omega)).mpr h)
        refine lv_aload_n hx hb dX8_takeFigures_115 rfl (lv_at hl 1 rfl) ?_
        refine va_get (D := D) (ci := 8) (v := .int (nI t_1)) (C := RX8) (T := TX8) (N := 44) hx hb hts inX8 hown hK hP 0 rfl rfl 7 (by decide) (hts _ tw_980) (fun _ h9 => h9) rfl dX8_takeFigures_116 ?_
        refine lv_iload hx hb dX8_takeFigures_119 (lv_at hl 0 rfl) ?_
        refine lv_isub hx hb dX8_takeFigures_121 ?_
        refine lv_ti (y := (nI (t_1 - t0))) (pk_sub (a := t_1) (b := t0) (by omega)) ?_
        refine lv_istore (lv' := [(6, .int (nI (t_1 - t0))), (5, .int (nI t0)), (0, .ref (a 0)), (1, .int (nI qa)), (2, .int p1), (3, .int p2), (4, .int 1)]) hx hb dX8_takeFigures_122 hl (by decide) rfl (fun ls hl => ?_)
        refine lv_aload_n hx hb dX8_takeFigures_124 rfl (lv_at hl 2 rfl) ?_
        refine lv_iload hx hb dX8_takeFigures_125 (lv_at hl 6 rfl) ?_
        refine lv_if_eq (tgt := 138) hx hb dX8_takeFigures_127 (by decide) (fun h => absurd h (by decide)) (fun _ => ?_)
        refine lv_aload_n hx hb dX8_takeFigures_130 rfl (lv_at hl 2 rfl) ?_
        refine va_get (D := D) (ci := 8) (v := .int nu2_1) (C := RX8) (T := TX8) (N := 44) hx hb hts inX8 hown hK hP 0 rfl rfl 10 (by decide) (hts _ tw_983) (fun _ h9 => h9) rfl dX8_takeFigures_131 ?_
        refine lv_ineg hx hb dX8_takeFigures_134 ?_
        refine lv_topi (fun x_23 ex_23 => ?_)
        refine lv_goto (tgt := 142) hx hb dX8_takeFigures_135 (by decide) ?_
        refine va_put (D := D) (ci := 8) (v := .int x_23) (ty := .int) (C := RX8) (T := TX8) (N := 44) hx hb hts inX8 tyX8 tyX8_ok nmX8 hown hK hP hD hS 0 rfl rfl 10 (by decide) (hts _ tw_983) (fun _ h9 => h9) rfl (by decide +kernel) rfl rfl (Nat.le_of_ble_eq_true rfl) dX8_takeFigures_142 (fun H locs hP hD hS => ?_)
        replace hP : va_P D classes [((a 0), .inr (8, (fX8 a (nI tx) fp (nI t_1) wd (nI we) x_23 na (nI rd) ts (nI ru) (nI rw) (nI ca) df db sd))), (aI k (a 5) 240 ftext)] H := hP
        replace hD : va_D A [((a 0), .inr (8, (fX8 a (nI tx) fp (nI t_1) wd (nI we) x_23 na (nI rd) ts (nI ru) (nI rw) (nI ca) df db sd))), (aI k (a 5) 240 ftext)] := hD
        refine lv_iload hx hb dX8_takeFigures_145 (lv_at hl 0 rfl) ?_
        refine lv_iconst (v := 3) hx hb dX8_takeFigures_147 (by decide) ?_
        refine lv_icmp_gt (tgt := 166) hx hb dX8_takeFigures_148 (by decide) (fun c_24 => ?_) (fun c_24 => ?_)
        · have c_24 := (nI_ltI (a := 3) (b := (t_1 - t0)) (by omega) (by omega)).mp c_24
          refine lv_aload_n hx hb dX8_takeFigures_166 rfl (lv_at hl 2 rfl) ?_
          refine lv_iconst (v := 2) hx hb dX8_takeFigures_167 (by decide) ?_
          refine lv_iload_n hx hb dX8_takeFigures_168 rfl (lv_at hl 3 rfl) ?_
          refine rw_i (D := D) (wr := [(aI k (a 5) 240 ftext)]) (va_runV (As := [.int 2, .int (nI qa)]) (rest := []) ⟨hx, hb, hml, hown, hts⟩ ((n_fails l D k st lo a tx t_1 we rd ru rw ca fp wd x_23 na ts df db sd 2 (nI qa)) H.size) (cwV 2 hts (gV tw_1151 tw_1153 tw_31 tw_87 tw_1154) rfl rfl rfl (by decide +kernel) ⟨Nat.le_of_ble_eq_true rfl, Nat.le_of_ble_eq_true rfl⟩) (pV hS hAlo hlo hP hK (va_Dlo hD hAlo) hZ [0] (by decide) rfl (ci := 8) (q := (RX8, TX8, 44)) (q0 := 0) rfl rfl) rfl rfl hl.1 rfl (lv_room (Nat.le_of_ble_eq_true rfl)) dX8_takeFigures_169 ⟨Nat.le_of_ble_eq_true rfl, Nat.le_of_ble_eq_true rfl⟩) hS hA hP hD [0] [1] rfl rfl (by decide) (by decide) (fun r_25 u H locs hw_25 hP hD hS => ?_)
          obtain ⟨fp__25, rfl⟩ : ∃ z, z = u := ⟨_, rfl⟩
          replace hP : va_P D classes [(aI k (a 5) 240 ftext), ((a 0), .inr (8, (fX8 a (nI tx) fp__25 (nI t_1) wd (nI we) x_23 na (nI rd) ts (nI ru) (nI rw) (nI ca) df db sd)))] H := hP
          replace hD : va_D A [(aI k (a 5) 240 ftext), ((a 0), .inr (8, (fX8 a (nI tx) fp__25 (nI t_1) wd (nI we) x_23 na (nI rd) ts (nI ru) (nI rw) (nI ca) df db sd)))] := hD
          try dsimp only at hw_25
          obtain ⟨hs0_26, hs1_26⟩ := hw_25
          replace hs0_26 := hs0_26.symm
          subst hs0_26
          replace hs1_26 := hs1_26.symm
          subst hs1_26
          refine lv_goto (tgt := 176) hx hb dX8_takeFigures_172 (by decide) ?_
          have hP9 := hP.sub (ws' := [((a 0), .inr (8, (fX8 a (nI tx) (nI qa) (nI t_1) wd (nI we) x_23 na (nI rd) ts (nI ru) (nI rw) (nI ca) df db sd))), (aI k (a 5) 240 ftext)]) [1, 0] rfl
          have hD9 := hD.sub (ws' := [((a 0), .inr (8, (fX8 a (nI tx) (nI qa) (nI t_1) wd (nI we) x_23 na (nI rd) ts (nI ru) (nI rw) (nI ca) df db sd))), (aI k (a 5) 240 ftext)]) [1, 0] (by decide) rfl
          exact W.iret (v := 2) hx hb hr (fun t ht hW => ⟨⟨2, (t_1, x_23, (nI qa)), rfl, ⟨.inr (.inr ⟨rfl, _, nuS_2 hle_21 (by omega) rfl (.inl (by omega)), rfl⟩), by omega, by omega⟩, by rw [ht]; exact hP9, hD9⟩, hS.F ht⟩) hS.2.2 dX8_takeFigures_176
        · have c_24 : ¬ (3 < (t_1 - t0)) := fun h => c_24 ((nI_ltI (a := 3) (b := (t_1 - t0)) (by omega) (by omega)).mpr h)
          refine lv_aload_n hx hb dX8_takeFigures_151 rfl (lv_at hl 2 rfl) ?_
          refine va_get (D := D) (ci := 8) (v := .int x_23) (C := RX8) (T := TX8) (N := 44) hx hb hts inX8 hown hK hP 0 rfl rfl 10 (by decide) (hts _ tw_983) (fun _ h9 => h9) rfl dX8_takeFigures_152 ?_
          refine lv_i2l (v := x_23.toInt64) hx hb dX8_takeFigures_155 rfl ?_
          refine lv_iload_n hx hb dX8_takeFigures_156 rfl (lv_at hl 4 rfl) ?_
          refine lv_i2l (v := p1.toInt64) hx hb dX8_takeFigures_157 rfl ?_
          refine lv_iload_n hx hb dX8_takeFigures_158 rfl (lv_at hl 5 rfl) ?_
          refine lv_i2l (v := p2.toInt64) hx hb dX8_takeFigures_159 rfl ?_
          refine ro_i (D := D) (va_runS (As := [.long (x_23.toInt64), .long (p1.toInt64), .long (p2.toInt64)]) (rest := []) ⟨hx, hb, hml, hown, hts⟩ ((k_in l D k st lo x_23 p1 p2) H.size) (va_cwS 3 hts (gS tw_1111 tw_1112 tw_87 tw_1113) rfl rfl rfl (by decide +kernel) ⟨Nat.le_of_ble_eq_true rfl, Nat.le_of_ble_eq_true rfl⟩) (pS hS hAlo hlo hP hK (va_Dlo hD hAlo) hZ [] (by decide) rfl) rfl rfl hl.1 rfl (lv_room (Nat.le_of_ble_eq_true rfl)) dX8_takeFigures_160 ⟨Nat.le_of_ble_eq_true rfl, Nat.le_of_ble_eq_true rfl⟩) hS hA hP (fun r_27 H locs hw_27 hP hS => ?_)
          try dsimp only at hw_27
          rcases hw_27 with ⟨rfl, hw_27⟩ | ⟨rfl, hw_27⟩
          · refine lv_if_ne (tgt := 175) hx hb dX8_takeFigures_163 (by decide) (fun _ => ?_) (fun h => absurd h (by decide))
            refine lv_iconst (v := 0) hx hb dX8_takeFigures_175 (by decide) ?_
            have hP9 := hP.sub (ws' := [((a 0), .inr (8, (fX8 a (nI tx) fp (nI t_1) wd (nI we) x_23 na (nI rd) ts (nI ru) (nI rw) (nI ca) df db sd))), (aI k (a 5) 240 ftext)]) [0, 1] rfl
            have hD9 := hD.sub (ws' := [((a 0), .inr (8, (fX8 a (nI tx) fp (nI t_1) wd (nI we) x_23 na (nI rd) ts (nI ru) (nI rw) (nI ca) df db sd))), (aI k (a 5) 240 ftext)]) [0, 1] (by decide) rfl
            exact W.iret (v := 0) hx hb hr (fun t ht hW => ⟨⟨0, (t_1, x_23, fp), rfl, ⟨.inl ⟨rfl, nuS_0 hle_21 (by omega) (vS_tm hle_21 (by omega) hve_21 ex_23) (by omega) hw_27, rfl⟩, by omega, by omega⟩, by rw [ht]; exact hP9, hD9⟩, hS.F ht⟩) hS.2.2 dX8_takeFigures_176
          · refine lv_if_ne (tgt := 175) hx hb dX8_takeFigures_163 (by decide) (fun h => absurd (by decide) h) (fun _ => ?_)
            refine lv_aload_n hx hb dX8_takeFigures_166 rfl (lv_at hl 2 rfl) ?_
            refine lv_iconst (v := 2) hx hb dX8_takeFigures_167 (by decide) ?_
            refine lv_iload_n hx hb dX8_takeFigures_168 rfl (lv_at hl 3 rfl) ?_
            refine rw_i (D := D) (wr := [(aI k (a 5) 240 ftext)]) (va_runV (As := [.int 2, .int (nI qa)]) (rest := []) ⟨hx, hb, hml, hown, hts⟩ ((n_fails l D k st lo a tx t_1 we rd ru rw ca fp wd x_23 na ts df db sd 2 (nI qa)) H.size) (cwV 2 hts (gV tw_1151 tw_1153 tw_31 tw_87 tw_1154) rfl rfl rfl (by decide +kernel) ⟨Nat.le_of_ble_eq_true rfl, Nat.le_of_ble_eq_true rfl⟩) (pV hS hAlo hlo hP hK (va_Dlo hD hAlo) hZ [0] (by decide) rfl (ci := 8) (q := (RX8, TX8, 44)) (q0 := 0) rfl rfl) rfl rfl hl.1 rfl (lv_room (Nat.le_of_ble_eq_true rfl)) dX8_takeFigures_169 ⟨Nat.le_of_ble_eq_true rfl, Nat.le_of_ble_eq_true rfl⟩) hS hA hP hD [0] [1] rfl rfl (by decide) (by decide) (fun r_28 u H locs hw_28 hP hD hS => ?_)
            obtain ⟨fp__28, rfl⟩ : ∃ z, z = u := ⟨_, rfl⟩
            replace hP : va_P D classes [(aI k (a 5) 240 ftext), ((a 0), .inr (8, (fX8 a (nI tx) fp__28 (nI t_1) wd (nI we) x_23 na (nI rd) ts (nI ru) (nI rw) (nI ca) df db sd)))] H := hP
            replace hD : va_D A [(aI k (a 5) 240 ftext), ((a 0), .inr (8, (fX8 a (nI tx) fp__28 (nI t_1) wd (nI we) x_23 na (nI rd) ts (nI ru) (nI rw) (nI ca) df db sd)))] := hD
            try dsimp only at hw_28
            obtain ⟨hs0_29, hs1_29⟩ := hw_28
            replace hs0_29 := hs0_29.symm
            subst hs0_29
            replace hs1_29 := hs1_29.symm
            subst hs1_29
            refine lv_goto (tgt := 176) hx hb dX8_takeFigures_172 (by decide) ?_
            have hP9 := hP.sub (ws' := [((a 0), .inr (8, (fX8 a (nI tx) (nI qa) (nI t_1) wd (nI we) x_23 na (nI rd) ts (nI ru) (nI rw) (nI ca) df db sd))), (aI k (a 5) 240 ftext)]) [1, 0] rfl
            have hD9 := hD.sub (ws' := [((a 0), .inr (8, (fX8 a (nI tx) (nI qa) (nI t_1) wd (nI we) x_23 na (nI rd) ts (nI ru) (nI rw) (nI ca) df db sd))), (aI k (a 5) 240 ftext)]) [1, 0] (by decide) rfl
            exact W.iret (v := 2) hx hb hr (fun t ht hW => ⟨⟨2, (t_1, x_23, (nI qa)), rfl, ⟨.inr (.inr ⟨rfl, _, nuS_2 hle_21 (by omega) (vS_tm hle_21 (by omega) hve_21 ex_23) (.inr (fun h => hw_27 h)), rfl⟩), by omega, by omega⟩, by rw [ht]; exact hP9, hD9⟩, hS.F ht⟩) hS.2.2 dX8_takeFigures_176
      · have c_22 := (nI_eq (a := t_1) (b := t0) (by omega) (by omega)).mp c_22
        refine lv_aload_n hx hb dX8_takeFigures_107 rfl (lv_at hl 1 rfl) ?_
        refine lv_iconst (v := 1) hx hb dX8_takeFigures_108 (by decide) ?_
        refine lv_iload hx hb dX8_takeFigures_109 (lv_at hl 0 rfl) ?_
        refine rw_i (D := D) (wr := [(aI k (a 5) 240 ftext)]) (va_runV (As := [.int 1, .int (nI t0)]) (rest := []) ⟨hx, hb, hml, hown, hts⟩ ((n_fails l D k st lo a tx t_1 we rd ru rw ca fp wd nu2_1 na ts df db sd 1 (nI t0)) H.size) (cwV 2 hts (gV tw_1151 tw_1153 tw_31 tw_87 tw_1154) rfl rfl rfl (by decide +kernel) ⟨Nat.le_of_ble_eq_true rfl, Nat.le_of_ble_eq_true rfl⟩) (pV hS hAlo hlo hP hK (va_Dlo hD hAlo) hZ [0] (by decide) rfl (ci := 8) (q := (RX8, TX8, 44)) (q0 := 0) rfl rfl) rfl rfl hl.1 rfl (lv_room (Nat.le_of_ble_eq_true rfl)) dX8_takeFigures_111 ⟨Nat.le_of_ble_eq_true rfl, Nat.le_of_ble_eq_true rfl⟩) hS hA hP hD [0] [1] rfl rfl (by decide) (by decide) (fun r_30 u H locs hw_30 hP hD hS => ?_)
        obtain ⟨fp__30, rfl⟩ : ∃ z, z = u := ⟨_, rfl⟩
        replace hP : va_P D classes [(aI k (a 5) 240 ftext), ((a 0), .inr (8, (fX8 a (nI tx) fp__30 (nI t_1) wd (nI we) nu2_1 na (nI rd) ts (nI ru) (nI rw) (nI ca) df db sd)))] H := hP
        replace hD : va_D A [(aI k (a 5) 240 ftext), ((a 0), .inr (8, (fX8 a (nI tx) fp__30 (nI t_1) wd (nI we) nu2_1 na (nI rd) ts (nI ru) (nI rw) (nI ca) df db sd)))] := hD
        try dsimp only at hw_30
        obtain ⟨hs0_31, hs1_31⟩ := hw_30
        replace hs0_31 := hs0_31.symm
        subst hs0_31
        replace hs1_31 := hs1_31.symm
        subst hs1_31
        have hP9 := hP.sub (ws' := [((a 0), .inr (8, (fX8 a (nI tx) (nI t0) (nI t_1) wd (nI we) nu2_1 na (nI rd) ts (nI ru) (nI rw) (nI ca) df db sd))), (aI k (a 5) 240 ftext)]) [1, 0] rfl
        have hD9 := hD.sub (ws' := [((a 0), .inr (8, (fX8 a (nI tx) (nI t0) (nI t_1) wd (nI we) nu2_1 na (nI rd) ts (nI ru) (nI rw) (nI ca) df db sd))), (aI k (a 5) 240 ftext)]) [1, 0] (by decide) rfl
        exact W.iret (v := 1) hx hb hr (fun t ht hW => ⟨⟨1, (t_1, nu2_1, (nI t0)), rfl, ⟨.inr (.inl ⟨rfl, _, nuS_1t hle_21 (by omega), congrArg nI (by omega)⟩), by omega, by omega⟩, by rw [ht]; exact hP9, hD9⟩, hS.F ht⟩) hS.2.2 dX8_takeFigures_114


set_option maxHeartbeats 4000000 in
set_option maxRecDepth 100000 in
theorem n_takeNumber (l : Launch) (D : va_G) (k : Nat → ClassId) (st : Nat → Nat) (lo : Nat) (a : Nat → Nat) (tx : Nat) (t0 : Nat) (we : Nat) (rd : Nat) (ru : Nat) (rw : Nat) (ca : Nat) (fp : Int32) (wd : Int64) (nu : Int32) (na : Int32) (ts : Int32) (df : Int32) (db : Int32) (sd : Int32) (ftext : Nat → Int32) (p0 : Int32) (p1 : Int32) (ht : t0 ≤ tx) (htx : tx ≤ 240) : CWi l D k st lo yX8_takeNumber cX8_takeNumber 4 (some .int) ({ frames := 2, cells := 0, slots := 0, locals := 51 }) 0 0 [.ref (a 0), .int p0, .int p1] [((a 0), .inr (8, (fX8 a (nI tx) fp (nI t0) wd (nI we) nu na (nI rd) ts (nI ru) (nI rw) (nI ca) df db sd))), (aI k (a 5) 240 ftext)] (fun (r : Int32) (u : Nat × Int32 × Int32 × Int32) => match u with | (t0_, nu_, na_, fp_) => ∃ q : Nat, na_ = nI q ∧ ((r = 0 ∧ nuR ftext tx false p0 p1 t0 = (0, 0, t0_, nu_, q) ∧ fp_ = fp) ∨ (r = 1 ∧ ∃ pl : Nat, nuR ftext tx false p0 p1 t0 = (1, pl, t0_, 0, q) ∧ fp_ = nI pl) ∨ (r = 2 ∧ ∃ pl : Nat, nuR ftext tx false p0 p1 t0 = (2, pl, t0_, 0, q) ∧ fp_ = nI pl)) ∧ t0 ≤ t0_ ∧ t0_ ≤ tx) (fun (u : Nat × Int32 × Int32 × Int32) => match u with | (t0_, nu_, na_, fp_) => [((a 0), .inr (8, (fX8 a (nI tx) fp_ (nI t0_) wd (nI we) nu_ na_ (nI rd) ts (nI ru) (nI rw) (nI ca) df db sd))), (aI k (a 5) 240 ftext)]) := by
  intro sz
  refine Met.ofW (cc := cX8_takeNumber) (maxL := 4) (ret := (some .int)) (by decide) rfl ?_
  intro p e s m args below meth c s₁ B hml hv
  obtain ⟨rfl, hsz, hlo, hP, hK, hDL, hZ⟩ := hv
  have hx := B.exec
  have hb := B.bytes
  have hr := B.returns
  have hts := WS_ts B.pre
  have hown : s.vm.findClass RX8 = some m.cls := findClass_of_methodNamed B.named
  have hlocks := B.notSynchronized
  subst hsz
  have hD := hDL.self (sz := s.heap.size)
  have hAlo := A_lo hDL hlo
  generalize hAe : va_A [((a 0), .inr (8, (fX8 a (nI tx) fp (nI t0) wd (nI we) nu na (nI rd) ts (nI ru) (nI rw) (nI ca) df db sd))), (aI k (a 5) 240 ftext)] s.heap.size = A at hD hAlo ⊢
  have hA : ∀ q : Nat, s.heap.size ≤ q → A q := fun q h => by rw [← hAe]; exact Or.inr h
  have hS : va_S A s.heap s.heap [] := va_S.rf
  have hl := lv_entry ([.ref (a 0), .int p0, .int p1]) (n := 4) (Nat.le_of_ble_eq_true rfl)
  rw [lg_entry_eq]
  generalize (lg_sl ([.ref (a 0), .int p0, .int p1]) ++ List.replicate (4 - (lg_sl ([.ref (a 0), .int p0, .int p1])).length) Slot.unset).toArray = ls at hl ⊢
  have hl : lv_has ls 4 [(0, .ref (a 0)), (1, .int p0), (2, .int p1)] := hl
  refine lv_aload_n hx hb dX8_takeNumber_0 rfl (lv_at hl 0 rfl) ?_
  refine rw_i (D := D) (wr := []) (va_runV (As := []) (rest := []) ⟨hx, hb, hml, hown, hts⟩ ((n_here l D k st lo a tx t0 we rd ru rw ca fp wd nu na ts df db sd ftext (by first | assumption | omega) (by first | assumption | omega)) s.heap.size) (cwV 0 hts (gV tw_1120 tw_1122 tw_27 tw_87 tw_1123) rfl rfl rfl (by decide +kernel) ⟨Nat.le_of_ble_eq_true rfl, Nat.le_of_ble_eq_true rfl⟩) (pV hS hAlo hlo hP hK (va_Dlo hD hAlo) hZ [0, 1] (by decide) rfl (ci := 8) (q := (RX8, TX8, 44)) (q0 := 0) rfl rfl) rfl rfl hl.1 rfl (lv_room (Nat.le_of_ble_eq_true rfl)) dX8_takeNumber_1 ⟨Nat.le_of_ble_eq_true rfl, Nat.le_of_ble_eq_true rfl⟩) hS hA hP hD [0, 1] [] rfl rfl (by decide) (by decide) (fun r_1 u H locs hw_1 hP hD hS => ?_)
  obtain ⟨t0__1, rfl⟩ : ∃ z, z = u := ⟨_, rfl⟩
  replace hP : va_P D classes [((a 0), .inr (8, (fX8 a (nI tx) fp (nI t0__1) wd (nI we) nu na (nI rd) ts (nI ru) (nI rw) (nI ca) df db sd))), (aI k (a 5) 240 ftext)] H := hP
  replace hD : va_D A [((a 0), .inr (8, (fX8 a (nI tx) fp (nI t0__1) wd (nI we) nu na (nI rd) ts (nI ru) (nI rw) (nI ca) df db sd))), (aI k (a 5) 240 ftext)] := hD
  try dsimp only at hw_1
  refine lv_istore_n (lv' := [(3, .int r_1), (0, .ref (a 0)), (1, .int p0), (2, .int p1)]) hx hb dX8_takeNumber_4 rfl hl (by decide) rfl (fun ls hl => ?_)
  refine lv_aload_n hx hb dX8_takeNumber_5 rfl (lv_at hl 1 rfl) ?_
  refine lv_aload_n hx hb dX8_takeNumber_6 rfl (lv_at hl 1 rfl) ?_
  refine va_get (D := D) (ci := 8) (v := .int (nI t0__1)) (C := RX8) (T := TX8) (N := 44) hx hb hts inX8 hown hK hP 0 rfl rfl 7 (by decide) (hts _ tw_980) (fun _ h9 => h9) rfl dX8_takeNumber_7 ?_
  refine va_put (D := D) (ci := 8) (v := .int (nI t0__1)) (ty := .int) (C := RX8) (T := TX8) (N := 44) hx hb hts inX8 tyX8 tyX8_ok nmX8 hown hK hP hD hS 0 rfl rfl 11 (by decide) (hts _ tw_984) (fun _ h9 => h9) rfl (by decide +kernel) rfl rfl (Nat.le_of_ble_eq_true rfl) dX8_takeNumber_10 (fun H locs hP hD hS => ?_)
  replace hP : va_P D classes [((a 0), .inr (8, (fX8 a (nI tx) fp (nI t0__1) wd (nI we) nu (nI t0__1) (nI rd) ts (nI ru) (nI rw) (nI ca) df db sd))), (aI k (a 5) 240 ftext)] H := hP
  replace hD : va_D A [((a 0), .inr (8, (fX8 a (nI tx) fp (nI t0__1) wd (nI we) nu (nI t0__1) (nI rd) ts (nI ru) (nI rw) (nI ca) df db sd))), (aI k (a 5) 240 ftext)] := hD
  refine lv_iload_n hx hb dX8_takeNumber_13 rfl (lv_at hl 0 rfl) ?_
  refine lv_i2l (v := r_1.toInt64) hx hb dX8_takeNumber_14 rfl ?_
  refine lv_ldc2 hx hb hown (hts _ tw_1163) dX8_takeNumber_15 ?_
  refine lv_tl (y := ((48 : Int32).toInt64)) (by decide) ?_
  refine lv_ldc2 hx hb hown (hts _ tw_1164) dX8_takeNumber_18 ?_
  refine lv_tl (y := ((57 : Int32).toInt64)) (by decide) ?_
  refine ro_i (D := D) (va_runS (As := [.long (r_1.toInt64), .long ((48 : Int32).toInt64), .long ((57 : Int32).toInt64)]) (rest := []) ⟨hx, hb, hml, hown, hts⟩ ((k_in l D k st lo r_1 (48 : Int32) (57 : Int32)) H.size) (va_cwS 3 hts (gS tw_1111 tw_1112 tw_87 tw_1113) rfl rfl rfl (by decide +kernel) ⟨Nat.le_of_ble_eq_true rfl, Nat.le_of_ble_eq_true rfl⟩) (pS hS hAlo hlo hP hK (va_Dlo hD hAlo) hZ [] (by decide) rfl) rfl rfl hl.1 rfl (lv_room (Nat.le_of_ble_eq_true rfl)) dX8_takeNumber_21 ⟨Nat.le_of_ble_eq_true rfl, Nat.le_of_ble_eq_true rfl⟩) hS hA hP (fun r_2 H locs hw_2 hP hS => ?_)
  try dsimp only at hw_2
  rcases hw_2 with ⟨rfl, hw_2⟩ | ⟨rfl, hw_2⟩
  · refine lv_if_eq (tgt := 41) hx hb dX8_takeNumber_24 (by decide) (fun h => absurd h (by decide)) (fun _ => ?_)
    refine lv_aload_n hx hb dX8_takeNumber_27 rfl (lv_at hl 1 rfl) ?_
    refine lv_aload_n hx hb dX8_takeNumber_28 rfl (lv_at hl 1 rfl) ?_
    refine va_get (D := D) (ci := 8) (v := .int (nI t0__1)) (C := RX8) (T := TX8) (N := 44) hx hb hts inX8 hown hK hP 0 rfl rfl 11 (by decide) (hts _ tw_984) (fun _ h9 => h9) rfl dX8_takeNumber_29 ?_
    refine lv_iload_n hx hb dX8_takeNumber_32 rfl (lv_at hl 2 rfl) ?_
    refine lv_iload_n hx hb dX8_takeNumber_33 rfl (lv_at hl 3 rfl) ?_
    refine lv_iconst (v := 0) hx hb dX8_takeNumber_34 (by decide) ?_
    refine rw_i (D := D) (wr := []) (va_runV (As := [.int (nI t0__1), .int p0, .int p1, .int 0]) (rest := []) ⟨hx, hb, hml, hown, hts⟩ ((n_takeFigures_0 l D k st lo a tx t0__1 we rd ru rw ca fp wd nu (nI t0__1) ts df db sd ftext t0__1 p0 p1 (by first | assumption | omega) (by first | assumption | omega)) H.size) (cwV 4 hts (gV tw_1165 tw_1167 tw_34 tw_87 tw_1168) rfl rfl rfl (by decide +kernel) ⟨Nat.le_of_ble_eq_true rfl, Nat.le_of_ble_eq_true rfl⟩) (pV hS hAlo hlo hP hK (va_Dlo hD hAlo) hZ [0, 1] (by decide) rfl (ci := 8) (q := (RX8, TX8, 44)) (q0 := 0) rfl rfl) rfl rfl hl.1 rfl (lv_room (Nat.le_of_ble_eq_true rfl)) dX8_takeNumber_35 ⟨Nat.le_of_ble_eq_true rfl, Nat.le_of_ble_eq_true rfl⟩) hS hA hP hD [0, 1] [] rfl rfl (by decide) (by decide) (fun r_3 u H locs hw_3 hP hD hS => ?_)
    obtain ⟨t0__3, nu__3, fp__3⟩ := u
    replace hP : va_P D classes [((a 0), .inr (8, (fX8 a (nI tx) fp__3 (nI t0__3) wd (nI we) nu__3 (nI t0__1) (nI rd) ts (nI ru) (nI rw) (nI ca) df db sd))), (aI k (a 5) 240 ftext)] H := hP
    replace hD : va_D A [((a 0), .inr (8, (fX8 a (nI tx) fp__3 (nI t0__3) wd (nI we) nu__3 (nI t0__1) (nI rd) ts (nI ru) (nI rw) (nI ca) df db sd))), (aI k (a 5) 240 ftext)] := hD
    try dsimp only at hw_3
    rcases hw_3 with ⟨⟨rfl, hq_4, hfp_4⟩ | ⟨rfl, pl_4, hq_4, rfl⟩ | ⟨rfl, pl_4, hq_4, rfl⟩, hw_3⟩
    · replace hfp_4 := hfp_4.symm
      subst hfp_4
      refine lv_goto (tgt := 50) hx hb dX8_takeNumber_38 (by decide) ?_
      have hP9 := hP.sub (ws' := [((a 0), .inr (8, (fX8 a (nI tx) fp (nI t0__3) wd (nI we) nu__3 (nI t0__1) (nI rd) ts (nI ru) (nI rw) (nI ca) df db sd))), (aI k (a 5) 240 ftext)]) [0, 1] rfl
      have hD9 := hD.sub (ws' := [((a 0), .inr (8, (fX8 a (nI tx) fp (nI t0__3) wd (nI we) nu__3 (nI t0__1) (nI rd) ts (nI ru) (nI rw) (nI ca) df db sd))), (aI k (a 5) 240 ftext)]) [0, 1] (by decide) rfl
      exact W.iret (v := 0) hx hb hr (fun t ht hW => ⟨⟨0, (t0__3, nu__3, (nI t0__1), fp), rfl, ⟨_, rfl, .inl ⟨rfl, (nuR_F hw_1.1).trans hq_4, rfl⟩, by omega, by omega⟩, by rw [ht]; exact hP9, hD9⟩, hS.F ht⟩) hS.2.2 dX8_takeNumber_50
    · refine lv_goto (tgt := 50) hx hb dX8_takeNumber_38 (by decide) ?_
      have hP9 := hP.sub (ws' := [((a 0), .inr (8, (fX8 a (nI tx) (nI pl_4) (nI t0__3) wd (nI we) nu__3 (nI t0__1) (nI rd) ts (nI ru) (nI rw) (nI ca) df db sd))), (aI k (a 5) 240 ftext)]) [0, 1] rfl
      have hD9 := hD.sub (ws' := [((a 0), .inr (8, (fX8 a (nI tx) (nI pl_4) (nI t0__3) wd (nI we) nu__3 (nI t0__1) (nI rd) ts (nI ru) (nI rw) (nI ca) df db sd))), (aI k (a 5) 240 ftext)]) [0, 1] (by decide) rfl
      exact W.iret (v := 1) hx hb hr (fun t ht hW => ⟨⟨1, (t0__3, nu__3, (nI t0__1), (nI pl_4)), rfl, ⟨_, rfl, .inr (.inl ⟨rfl, _, (nuR_F hw_1.1).trans hq_4, rfl⟩), by omega, by omega⟩, by rw [ht]; exact hP9, hD9⟩, hS.F ht⟩) hS.2.2 dX8_takeNumber_50
    · refine lv_goto (tgt := 50) hx hb dX8_takeNumber_38 (by decide) ?_
      have hP9 := hP.sub (ws' := [((a 0), .inr (8, (fX8 a (nI tx) (nI pl_4) (nI t0__3) wd (nI we) nu__3 (nI t0__1) (nI rd) ts (nI ru) (nI rw) (nI ca) df db sd))), (aI k (a 5) 240 ftext)]) [0, 1] rfl
      have hD9 := hD.sub (ws' := [((a 0), .inr (8, (fX8 a (nI tx) (nI pl_4) (nI t0__3) wd (nI we) nu__3 (nI t0__1) (nI rd) ts (nI ru) (nI rw) (nI ca) df db sd))), (aI k (a 5) 240 ftext)]) [0, 1] (by decide) rfl
      exact W.iret (v := 2) hx hb hr (fun t ht hW => ⟨⟨2, (t0__3, nu__3, (nI t0__1), (nI pl_4)), rfl, ⟨_, rfl, .inr (.inr ⟨rfl, _, (nuR_F hw_1.1).trans hq_4, rfl⟩), by omega, by omega⟩, by rw [ht]; exact hP9, hD9⟩, hS.F ht⟩) hS.2.2 dX8_takeNumber_50
  · refine lv_if_eq (tgt := 41) hx hb dX8_takeNumber_24 (by decide) (fun _ => ?_) (fun h => absurd (by decide) h)
    refine lv_aload_n hx hb dX8_takeNumber_41 rfl (lv_at hl 1 rfl) ?_
    refine lv_iconst (v := 1) hx hb dX8_takeNumber_42 (by decide) ?_
    refine lv_aload_n hx hb dX8_takeNumber_43 rfl (lv_at hl 1 rfl) ?_
    refine va_get (D := D) (ci := 8) (v := .int (nI t0__1)) (C := RX8) (T := TX8) (N := 44) hx hb hts inX8 hown hK hP 0 rfl rfl 7 (by decide) (hts _ tw_980) (fun _ h9 => h9) rfl dX8_takeNumber_44 ?_
    refine rw_i (D := D) (wr := [(aI k (a 5) 240 ftext)]) (va_runV (As := [.int 1, .int (nI t0__1)]) (rest := []) ⟨hx, hb, hml, hown, hts⟩ ((n_fails l D k st lo a tx t0__1 we rd ru rw ca fp wd nu (nI t0__1) ts df db sd 1 (nI t0__1)) H.size) (cwV 2 hts (gV tw_1151 tw_1153 tw_31 tw_87 tw_1154) rfl rfl rfl (by decide +kernel) ⟨Nat.le_of_ble_eq_true rfl, Nat.le_of_ble_eq_true rfl⟩) (pV hS hAlo hlo hP hK (va_Dlo hD hAlo) hZ [0] (by decide) rfl (ci := 8) (q := (RX8, TX8, 44)) (q0 := 0) rfl rfl) rfl rfl hl.1 rfl (lv_room (Nat.le_of_ble_eq_true rfl)) dX8_takeNumber_47 ⟨Nat.le_of_ble_eq_true rfl, Nat.le_of_ble_eq_true rfl⟩) hS hA hP hD [0] [1] rfl rfl (by decide) (by decide) (fun r_5 u H locs hw_5 hP hD hS => ?_)
    obtain ⟨fp__5, rfl⟩ : ∃ z, z = u := ⟨_, rfl⟩
    replace hP : va_P D classes [(aI k (a 5) 240 ftext), ((a 0), .inr (8, (fX8 a (nI tx) fp__5 (nI t0__1) wd (nI we) nu (nI t0__1) (nI rd) ts (nI ru) (nI rw) (nI ca) df db sd)))] H := hP
    replace hD : va_D A [(aI k (a 5) 240 ftext), ((a 0), .inr (8, (fX8 a (nI tx) fp__5 (nI t0__1) wd (nI we) nu (nI t0__1) (nI rd) ts (nI ru) (nI rw) (nI ca) df db sd)))] := hD
    try dsimp only at hw_5
    obtain ⟨hs0_6, hs1_6⟩ := hw_5
    replace hs0_6 := hs0_6.symm
    subst hs0_6
    replace hs1_6 := hs1_6.symm
    subst hs1_6
    have hP9 := hP.sub (ws' := [((a 0), .inr (8, (fX8 a (nI tx) (nI t0__1) (nI t0__1) wd (nI we) nu (nI t0__1) (nI rd) ts (nI ru) (nI rw) (nI ca) df db sd))), (aI k (a 5) 240 ftext)]) [1, 0] rfl
    have hD9 := hD.sub (ws' := [((a 0), .inr (8, (fX8 a (nI tx) (nI t0__1) (nI t0__1) wd (nI we) nu (nI t0__1) (nI rd) ts (nI ru) (nI rw) (nI ca) df db sd))), (aI k (a 5) 240 ftext)]) [1, 0] (by decide) rfl
    exact W.iret (v := 1) hx hb hr (fun t ht hW => ⟨⟨1, (t0__1, nu, (nI t0__1), (nI t0__1)), rfl, ⟨_, rfl, .inr (.inl ⟨rfl, _, (nuR_F hw_1.1).trans (nuS_1 (nn_fe (by rw [← hw_1.2.1]; exact hw_2))), rfl⟩), by omega, by omega⟩, by rw [ht]; exact hP9, hD9⟩, hS.F ht⟩) hS.2.2 dX8_takeNumber_50


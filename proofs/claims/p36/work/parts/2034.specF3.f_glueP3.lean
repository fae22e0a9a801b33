theorem f_glueP3 : True := trivial
theorem rw_far {w : Int64} {c : Int32} (h : ¬ lg_cmp w 1000000000000 ≤ 0) : stW w c = 2000000000000 := by
  unfold stW
  exact if_pos ((lg_cmp_gt _ _).mp (Int32.not_le.mp h))
theorem rw_near {w : Int64} {c : Int32} (h : lg_cmp w 1000000000000 ≤ 0) : stW w c = ((27 : Int32).toInt64) * w + c.toInt64 - ((96 : Int32).toInt64) := by
  unfold stW
  exact if_neg (fun q => absurd h (Int32.not_le.mpr ((lg_cmp_gt _ _).mpr q)))
theorem rw_step {b : Nat → Int32} {n T e : Nat} {w V : Int64} (he : e < n) (hc : inB (b e) 97 122) (hl : e + (letA b n e).length = T + (letA b n T).length) (hv : (letA b n e).foldl stW w = V) : e + 1 + (letA b n (e + 1)).length = T + (letA b n T).length ∧ (letA b n (e + 1)).foldl stW (stW w (b e)) = V := by
  have g := letA_go he hc
  rw [g, List.length_cons] at hl
  rw [g] at hv
  exact ⟨by omega, hv⟩
theorem rw_out {b : Nat → Int32} {n T e : Nat} {w V : Int64} (h : letA b n e = []) (hl : e + (letA b n e).length = T + (letA b n T).length) (hv : (letA b n e).foldl stW w = V) : e = T + (letA b n T).length ∧ w = V := by
  rw [h] at hl hv
  exact ⟨hl, hv⟩
theorem nd_1 {b : Nat → Int32} {n t T we wi : Nat} {wd q : Int64} (hwi : wi < 14) (h1 : T = skA b n t) (h2 : we = T + (letA b n T).length) (h3 : wd = wval (letA b n T)) (hq : q = wval (sByt.getD wi [])) (c : lg_cmp wd q = 0) : wdR b n (sByt.getD wi []) t = (0, 0, we) := by
  have e := lgc0 c
  rw [h3, hq] at e
  have hL := (wval_inj (sKa wi hwi) letA_all (sKs wi hwi)).mp e
  unfold wdR
  rw [← h1, if_pos hL, h2, hL]
theorem nd_0 {b : Nat → Int32} {n t T wi : Nat} {wd q : Int64} (hwi : wi < 14) (h1 : T = skA b n t) (h3 : wd = wval (letA b n T)) (hq : q = wval (sByt.getD wi [])) (c : ¬ lg_cmp wd q = 0) : wdR b n (sByt.getD wi []) t = (1, T, T) := by
  have hL : ¬ letA b n T = sByt.getD wi [] := fun hL => c (by rw [h3, hq, hL]; unfold lg_cmp; rw [if_neg (fun h => absurd h (Int64.lt_irrefl)), if_pos rfl])
  unfold wdR
  rw [← h1, if_neg hL]
theorem fg_step {b : Nat → Int32} {n F t : Nat} {v V : Int32} (h : t < n) (hc : inB (b t) 48 57) (hl : t + (figA b n t).length = F + (figA b n F).length) (hv : (figA b n t).foldl stN v = V) : t + 1 + (figA b n (t + 1)).length = F + (figA b n F).length ∧ (¬ v ≤ 10000 → (figA b n (t + 1)).foldl stN v = V) ∧ (v ≤ 10000 → (figA b n (t + 1)).foldl stN (10 * v + b t - 48) = V) := by
  have g := figA_go h hc
  rw [g, List.length_cons] at hl
  rw [g] at hv
  have hv2 : (figA b n (t + 1)).foldl stN (stN v (b t)) = V := hv
  unfold stN at hv2
  refine ⟨by omega, fun c => ?_, fun c => ?_⟩
  · rw [if_pos (Int32.not_le.mp c)] at hv2
    exact hv2
  · rw [if_neg (Int32.not_lt.mpr c)] at hv2
    exact hv2
theorem fg_out {b : Nat → Int32} {n F t : Nat} {v V : Int32} (h : figA b n t = []) (hl : t + (figA b n t).length = F + (figA b n F).length) (hv : (figA b n t).foldl stN v = V) : F + (figA b n F).length = t ∧ v = V := by
  rw [h] at hl hv
  exact ⟨hl.symm, hv⟩
theorem v_len {L : List Int32} (h : ∀ c ∈ L, inB c 48 57) (hl : ¬ 3 < L.length) : vM L = vX L := by
  obtain ⟨m, -, h1, h2⟩ := v_same L h (by omega)
  rw [h1, h2]
theorem vS_fm {b : Nat → Int32} {n f t : Nat} {v : Int32} (hl : f + (figA b n f).length = t) (h3 : ¬ 3 < t - f) (hv : v = vM (figA b n f)) : vS false (figA b n f) = v := by
  rw [hv, v_len figA_all (by omega)]
  rfl
theorem vS_tm {b : Nat → Int32} {n f t : Nat} {v w : Int32} (hl : f + (figA b n f).length = t) (h3 : ¬ 3 < t - f) (hv : v = vM (figA b n f)) (hw : w = -v) : vS true (figA b n f) = w := by
  rw [hw, hv, v_len figA_all (by omega)]
  rfl
theorem nuR_F {b : Nat → Int32} {n t a : Nat} {lo hi : Int32} (e : a = skA b n t) : nuR b n false lo hi t = nuS b n false lo hi a a := by
  unfold nuR
  rw [if_neg (fun q => absurd q.1 (by decide)), e]
theorem nuR_T {b : Nat → Int32} {n t a : Nat} {lo hi r : Int32} (hr : r = byF b n a) (h : r = 45) (e : a = skA b n t) : nuR b n true lo hi t = nuS b n true lo hi a (a + 1) := by
  unfold nuR
  rw [if_pos ⟨rfl, by rw [← e]; exact hr.symm.trans h⟩, e]


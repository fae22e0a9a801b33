theorem f_glueP11 : True := trivial
/-- a change, with its word -/
def seR (b : Nat → Int32) (n cnt : Nat) (sn : Nat → Int32) (t : Nat) : Nat × Nat × Nat × Int32 × Int32 :=
  match wdR b n (sByt.getD 13 []) t with
  | (e1, p1, t1) => if e1 = 0 then chR b n cnt sn t1 else (e1, p1, t1, 0, 0)
theorem se_w {b : Nat → Int32} {n cnt t e p t1 : Nat} {sn : Nat → Int32} (h : wdR b n (sByt.getD 13 []) t = (e, p, t1)) (he : 1 ≤ e) : (seR b n cnt sn t).1 = e ∧ (seR b n cnt sn t).2.1 = p := by
  have q : seR b n cnt sn t = (e, p, t1, 0, 0) := by
    unfold seR
    rw [h]
    show (if e = 0 then _ else _) = _
    rw [if_neg (by omega)]
  rw [q]
  exact ⟨rfl, rfl⟩
theorem se_c {b : Nat → Int32} {n cnt t p t1 : Nat} {sn : Nat → Int32} (h : wdR b n (sByt.getD 13 []) t = (0, p, t1)) : seR b n cnt sn t = chR b n cnt sn t1 := by
  unfold seR
  rw [h]
  show (if (0 : Nat) = 0 then _ else _) = _
  rw [if_pos rfl]
theorem seR_clp {b : Nat → Int32} {n cnt t : Nat} {sn : Nat → Int32} : seR b n cnt (clp cnt sn) t = seR b n cnt sn t := by
  unfold seR
  rcases wdR b n (sByt.getD 13 []) t with ⟨e1, p1, t1⟩
  show (if e1 = 0 then chR b n cnt (clp cnt sn) t1 else _) = (if e1 = 0 then chR b n cnt sn t1 else _)
  rw [chR_clp]
theorem se_c1 {ru q : Nat} {f : Nat → Int32} {v : Int32} (hb : 1 ≤ q) (c : f (12 * ru + q - 1) < v) : q - 1 = 0 ∨ (fun i => f (12 * ru + 1 + i)) (q - 1 - 1) < v := by
  rcases Nat.eq_zero_or_pos (q - 1) with h | h
  · exact .inl h
  · refine .inr ?_
    show f (12 * ru + 1 + (q - 1 - 1)) < v
    rw [show 12 * ru + 1 + (q - 1 - 1) = 12 * ru + q - 1 by omega]
    exact c
theorem se_c0 {ru q : Nat} {f : Nat → Int32} {v : Int32} (hb : 1 ≤ q) (h0 : f (12 * ru) = 0) (hv : inB v 1 24) (c : ¬ f (12 * ru + q - 1) < v) : ¬ (q - 1 = 0 ∨ (fun i => f (12 * ru + 1 + i)) (q - 1 - 1) < v) := by
  rintro (h | h)
  · rw [show 12 * ru + q - 1 = 12 * ru by omega, h0] at c
    have h1 := Int32.le_iff_toInt_le.mp hv.1
    have e1 : (1 : Int32).toInt = 1 := by decide
    have e0 : (0 : Int32).toInt = 0 := by decide
    exact c (Int32.lt_iff_toInt_lt.mpr (by rw [e0]; rw [e1] at h1; omega))
  · rcases Nat.eq_zero_or_pos (q - 1) with h2 | h2
    · rw [show 12 * ru + q - 1 = 12 * ru by omega, h0] at c
      have h1 := Int32.le_iff_toInt_le.mp hv.1
      have e1 : (1 : Int32).toInt = 1 := by decide
      have e0 : (0 : Int32).toInt = 0 := by decide
      exact c (Int32.lt_iff_toInt_lt.mpr (by rw [e0]; rw [e1] at h1; omega))
    · have h3 : f (12 * ru + 1 + (q - 1 - 1)) < v := h
      rw [show 12 * ru + 1 + (q - 1 - 1) = 12 * ru + q - 1 by omega] at h3
      exact c h3
/-- the loop, from behind the blanks -/
theorem roR_sk {b : Nat → Int32} {n t : Nat} : roR b n (skA b n t) = roR b n t := by
  unfold roR
  rw [skA_idem]
theorem ruL_sk {b : Nat → Int32} {n k t : Nat} {σ : RSt} : ruL b n k (skA b n t) σ = ruL b n k t σ := by
  rcases k with _ | k
  · show ((roR b n (skA b n t)).1, (roR b n (skA b n t)).2.1, σ, (roR b n (skA b n t)).2.2) = ((roR b n t).1, (roR b n t).2.1, σ, (roR b n t).2.2)
    rw [roR_sk]
  · unfold ruL
    rw [skA_idem, roR_sk]
theorem let_end {b : Nat → Int32} {n t : Nat} {K : List Int32} (h : ¬ skA b n t < n) (hK : K ≠ []) : ¬ letA b n (skA b n t) = K := by
  rw [letA_end (by omega)]
  exact fun q => hK q.symm
theorem rl_end {b : Nat → Int32} {n k t : Nat} {σ : RSt} (h : ¬ skA b n t < n) : ruL b n k t σ = (0, 0, σ, 0) := by
  rw [rl_no (let_end h (by decide)), ro_0o (let_end h (by decide)) h]
theorem seRn : ¬ (sByt.getD 7 []) = (sByt.getD 13 []) := by decide
theorem rl_s0 {b : Nat → Int32} {n k t t2 : Nat} {σ : RSt} {v1 v3 : Int32} (hk : 0 < k) (h : seR b n σ.1 σ.2.1 (skA b n t) = (0, 0, t2, v1, v3)) : ruL b n k t σ = ruL b n (k - 1) t2 (σ.1 + 1, upd σ.2.1 σ.1 v1, upd σ.2.2 σ.1 v3) := by
  by_cases hs : letA b n (skA b n t) = (sByt.getD 13 [])
  · have hw : wdR b n (sByt.getD 13 []) (skA b n t) = (0, 0, skA b n t + 4) := by
      unfold wdR
      rw [skA_idem, if_pos hs]
      rfl
    rw [se_c hw] at h
    exact rl_go hk hs h
  · have hw : wdR b n (sByt.getD 13 []) (skA b n t) = (1, skA b n t, skA b n t) := by
      unfold wdR
      rw [skA_idem, if_neg hs]
    have h2 := (se_w (cnt := σ.1) (sn := σ.2.1) hw (by decide)).1
    rw [h] at h2
    exact absurd (show (0 : Nat) = 1 from h2) (by decide)
theorem rl_s1 {b : Nat → Int32} {n k t e p : Nat} {σ : RSt} (hk : 0 < k) (hlt : skA b n t < n) (hr : ¬ letA b n (skA b n t) = (sByt.getD 7 [])) (he : (seR b n σ.1 σ.2.1 (skA b n t)).1 = e) (h1 : 1 ≤ e) (hp : (seR b n σ.1 σ.2.1 (skA b n t)).2.1 = p) : (ruL b n k t σ).1 = e ∧ (ruL b n k t σ).2.1 = p := by
  by_cases hs : letA b n (skA b n t) = (sByt.getD 13 [])
  · have hw : wdR b n (sByt.getD 13 []) (skA b n t) = (0, 0, skA b n t + 4) := by
      unfold wdR
      rw [skA_idem, if_pos hs]
      rfl
    rw [se_c hw] at he hp
    exact rl_er hk hs he h1 hp
  · have hw : wdR b n (sByt.getD 13 []) (skA b n t) = (1, skA b n t, skA b n t) := by
      unfold wdR
      rw [skA_idem, if_neg hs]
    have h2 := se_w (cnt := σ.1) (sn := σ.2.1) hw (by decide)
    rw [he, hp] at h2
    rw [rl_no hs, ro_0f hr hlt]
    exact ⟨h2.1.symm, h2.2.symm⟩
/-- the reference's rule: from which door, changes, rounds -/
abbrev RUt : Type := Int32 × RSt × Int32
def ruM (bm : Nat → Nat) (fs ff fr : Nat → Int32) (q : Nat) : RUt := (ff (12 * q), (bm q - 1, clp (bm q - 1) (fun i => fs (12 * q + 1 + i)), clp (bm q - 1) (fun i => ff (12 * q + 1 + i))), fr q)
def ruX (rf : Int32) (rc rr : Nat) (rs rb : Nat → Int32) : RUt := (rf, (rc, clp rc rs, clp rc rb), nI rr)
theorem sg_new {f : Nat → Int32} {ru q : Nat} {v : Int32} (hb : 1 ≤ q) : upd (clp (q - 1) (fun i => f (12 * ru + 1 + i))) (q - 1) v = clp q (fun i => upd f (12 * ru + q) v (12 * ru + 1 + i)) := by
  funext j
  show (if j = q - 1 then v else (if j < q - 1 then f (12 * ru + 1 + j) else 0)) = (if j < q then (if 12 * ru + 1 + j = 12 * ru + q then v else f (12 * ru + 1 + j)) else 0)
  by_cases h : j = q - 1
  · rw [if_pos h, if_pos (by omega), if_pos (by omega)]
  · rw [if_neg h]
    by_cases h1 : j < q - 1
    · rw [if_pos h1, if_pos (by omega), if_neg (by omega)]
    · rw [if_neg h1, if_neg (by omega)]
/-- the rules ahead of ru stay -/
def ruK (ru : Nat) (bm bm2 : Nat → Nat) (fs fs2 ff ff2 : Nat → Int32) : Prop := (∀ q, q ≠ ru → bm2 q = bm q) ∧ (∀ j, j < 12 * ru → fs2 j = fs j) ∧ ∀ j, j < 12 * ru → ff2 j = ff j
theorem ruK_rf {ru : Nat} {bm : Nat → Nat} {fs ff : Nat → Int32} : ruK ru bm bm fs fs ff ff := ⟨fun _ _ => rfl, fun _ _ => rfl, fun _ _ => rfl⟩
theorem ruK_tr {ru : Nat} {bm bm2 bm3 : Nat → Nat} {fs fs2 fs3 ff ff2 ff3 : Nat → Int32} (h : ruK ru bm bm2 fs fs2 ff ff2) (g : ruK ru bm2 bm3 fs2 fs3 ff2 ff3) : ruK ru bm bm3 fs fs3 ff ff3 := ⟨fun q hq => (g.1 q hq).trans (h.1 q hq), fun j hj => (g.2.1 j hj).trans (h.2.1 j hj), fun j hj => (g.2.2 j hj).trans (h.2.2 j hj)⟩
theorem ruK_s {ru x : Nat} {bm : Nat → Nat} {fs ff : Nat → Int32} {v : Int32} (hx : 12 * ru ≤ x) : ruK ru bm bm fs (upd fs x v) ff ff := ⟨fun _ _ => rfl, fun j hj => pk_un (by omega), fun _ _ => rfl⟩
theorem ruK_f {ru x : Nat} {bm : Nat → Nat} {fs ff : Nat → Int32} {v : Int32} (hx : 12 * ru ≤ x) : ruK ru bm bm fs fs ff (upd ff x v) := ⟨fun _ _ => rfl, fun _ _ => rfl, fun j hj => pk_un (by omega)⟩
theorem ruK_b {ru v : Nat} {bm bm2 : Nat → Nat} {fs ff : Nat → Int32} (hx : bm2 = fun j => if j = ru then v else bm j) : ruK ru bm bm2 fs fs ff ff := ⟨fun q hq => by rw [hx]; exact if_neg hq, fun _ _ => rfl, fun _ _ => rfl⟩
theorem ruM_K {ru q : Nat} {bm bm2 : Nat → Nat} {fs fs2 ff ff2 fr fr2 : Nat → Int32} (h : ruK ru bm bm2 fs fs2 ff ff2) (hr : ∀ q, q ≠ ru → fr2 q = fr q) (hb : ∀ j, bm j ≤ 12) (hq : q < ru) : ruM bm2 fs2 ff2 fr2 q = ruM bm fs ff fr q := by
  have hbq := hb q
  have e0 := h.1 q (by omega)
  have e3 := hr q (by omega)
  have e4 := h.2.2 (12 * q) (by omega)
  have e1 : ∀ (x y : Nat → Int32), (∀ j, j < 12 * ru → y j = x j) → clp (bm q - 1) (fun i => y (12 * q + 1 + i)) = clp (bm q - 1) (fun i => x (12 * q + 1 + i)) := by
    intro x y hxy
    funext i
    unfold clp
    by_cases hi : i < bm q - 1
    · rw [if_pos hi, if_pos hi]
      exact hxy _ (by omega)
    · rw [if_neg hi, if_neg hi]
  unfold ruM
  rw [e0, e3, e4, e1 fs fs2 h.2.1, e1 ff ff2 h.2.2]
theorem wd_ro {L : List Int32} {w : Int64} (hL : ∀ x ∈ L, inB x 97 122) (hw : w = wval L) : w = 9876874 ↔ L = (sByt.getD 7 []) := by
  rw [hw]
  exact kq hL (i := 7) (by decide) (by decide +kernel)
def ruP (b : Nat → Int32) (n : Nat) (fp : Int32) (k : Nat) (ru : Nat → RUt) (r : Int32) (n' : Nat) (fp' : Int32) (k' : Nat) (ru' : Nat → RUt) : Prop := (80 < n → r = -1003 ∧ n' = n ∧ k' = k ∧ fp' = fp ∧ (∀ q, q < k → ru' q = ru q)) ∧ (n ≤ 80 → k = 4 → r = -1004 ∧ n' = n ∧ k' = k ∧ fp' = fp ∧ (∀ q, q < k → ru' q = ru q)) ∧ (n ≤ 80 → k < 4 → n' = 0 ∧ (∀ q, q < k → ru' q = ru q) ∧ ((∃ e pl : Nat, 1 ≤ e ∧ e ≤ 4 ∧ (ruF b n 0).1 = e ∧ (ruF b n 0).2.1 = pl ∧ r = -10 - nI e ∧ fp' = nI pl ∧ k' = k) ∨ (ruF b n 0 = (0, 0, ru' k) ∧ r = nI k ∧ fp' = -1 ∧ k' = k + 1)))
theorem ruP_fun {b : Nat → Int32} {n n' m' k k' l' : Nat} {fp r fp' q fq' : Int32} {ru ru' rv rv' : Nat → RUt} (hk : k ≤ 4) (h : ruP b n fp k ru r n' fp' k' ru') (g : ruP b n fp k rv q m' fq' l' rv') (e : ∀ i, i < k → ru i = rv i) : r = q ∧ n' = m' ∧ fp' = fq' ∧ k' = l' ∧ ∀ i, i < k' → ru' i = rv' i := by
  rcases Nat.lt_or_ge 80 n with hn | hn
  · obtain ⟨u1, u2, u3, u4, u5⟩ := h.1 hn
    obtain ⟨v1, v2, v3, v4, v5⟩ := g.1 hn
    refine ⟨u1.trans v1.symm, u2.trans v2.symm, u4.trans v4.symm, u3.trans v3.symm, fun i hi => ?_⟩
    rw [u3] at hi
    exact (u5 i hi).trans ((e i hi).trans (v5 i hi).symm)
  · rcases Nat.lt_or_ge k 4 with hq | hq
    · obtain ⟨u1, u2, u3⟩ := h.2.2 hn hq
      obtain ⟨v1, v2, v3⟩ := g.2.2 hn hq
      rcases u3 with ⟨e1, pl, a1, a2, a3, a4, a5, a6, a7⟩ | ⟨a3, a4, a5, a6⟩
      · rcases v3 with ⟨e2, pm, c1, c2, c3, c4, c5, c6, c7⟩ | ⟨c3, c4, c5, c6⟩
        · have x1 : e1 = e2 := a3.symm.trans c3
          have x2 : pl = pm := a4.symm.trans c4
          refine ⟨by rw [a5, c5, x1], u1.trans v1.symm, by rw [a6, c6, x2], a7.trans c7.symm, fun i hi => ?_⟩
          rw [a7] at hi
          exact (u2 i hi).trans ((e i hi).trans (v2 i hi).symm)
        · rw [c3] at a3
          exact absurd a3 (by show ¬ 0 = e1; omega)
      · rcases v3 with ⟨e2, pm, c1, c2, c3, c4, c5, c6, c7⟩ | ⟨c3, c4, c5, c6⟩
        · rw [a3] at c3
          exact absurd c3 (by show ¬ 0 = e2; omega)
        · have x2 : ru' k = rv' k := congrArg (fun z => z.2.2) (a3.symm.trans c3)
          refine ⟨a4.trans c4.symm, u1.trans v1.symm, a5.trans c5.symm, a6.trans c6.symm, fun i hi => ?_⟩
          by_cases hs : i = k
          · rw [hs]
            exact x2
          · have hi2 : i < k := by omega
            exact (u2 i hi2).trans ((e i hi2).trans (v2 i hi2).symm)
    · have hq4 : k = 4 := by omega
      obtain ⟨u1, u2, u3, u4, u5⟩ := h.2.1 hn hq4
      obtain ⟨v1, v2, v3, v4, v5⟩ := g.2.1 hn hq4
      refine ⟨u1.trans v1.symm, u2.trans v2.symm, u4.trans v4.symm, u3.trans v3.symm, fun i hi => ?_⟩
      rw [u3] at hi
      exact (u5 i hi).trans ((e i hi).trans (v5 i hi).symm)


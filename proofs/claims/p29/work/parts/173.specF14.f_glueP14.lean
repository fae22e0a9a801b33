theorem f_glueP14 : True := trivial
/-! what a street's text told comes to: chances, costs -/
def pz0 (z : Int32) : Int32 := if 0 ≤ z then z else 0
def pLate (d : SDt) (r : Nat) : Int32 := d.2.1 4 * pz0 (nI r * (nI d.1 + d.2.1 7) + nI d.1 - d.2.1 5)
def pTakeBy (d : SDt) (w : Int32) (r i : Nat) : Int32 := (d.2.2.2 i + w * (nI d.1 - nI i) + pLate d r) * 1000
def pTake (d : SDt) (r i : Nat) : Int32 := pTakeBy d (d.2.1 2) r i
def pGar (d : SDt) (r : Nat) : Int32 := (d.2.1 9 + pLate d r) * 1000
def pPass (d : SDt) : Int32 := d.2.1 3 * 1000
def pRnd (d : SDt) : Int32 := d.2.1 3 * d.2.1 7 * 1000
def pCl (v : Int32) : Int32 := if 0 ≤ v then (if v ≤ 100 then v else 100) else 0
def pChance (d : SDt) (i : Nat) (p : Int32) : Int32 := pCl (if i = 0 then d.2.2.1 i else (if p = 0 then d.2.2.1 i - d.2.1 1 else d.2.2.1 i + d.2.1 1))
theorem clp_in {n i : Nat} {f : Nat → Int32} (h : i < n) : clp n f i = f i := if_pos h
theorem nG_in {k : Nat} {f : Nat → Int32} (h1 : 1 ≤ k) (h2 : k ≤ 9) : nG f k = f k := if_pos ⟨h1, h2⟩
theorem vv_in {n see tm k : Nat} {g : Nat → Int32} (h0 : k ≠ 0) (h6 : k ≠ 6) (h8 : k ≠ 8) : vv n see tm g k = g k := by
  unfold vv
  rw [if_neg h0, if_neg h6, if_neg h8]
theorem gX {n see tm k : Nat} {g ff fp : Nat → Int32} (h : k = 1 ∨ k = 2 ∨ k = 3 ∨ k = 4 ∨ k = 5 ∨ k = 7 ∨ k = 9) : (sdX n see tm g ff fp).2.1 k = g k := by
  show nG (vv n see tm g) k = g k
  rw [nG_in (by omega) (by omega), vv_in (by omega) (by omega) (by omega)]
theorem gM' {dn : Nat → Nat} {f ff fp : Nat → Int32} {s k : Nat} (h1 : 1 ≤ k) (h2 : k ≤ 9) : (sdM dn f ff fp s).2.1 k = f (9 * s + (k - 1)) := by
  show nG (fun j => f (9 * s + (j - 1))) k = _
  rw [nG_in h1 h2]
theorem ac_sub (a i n : Int32) : a + i + n - i = a + n := by
  rw [Int32.add_assoc, Int32.add_comm i n, ← Int32.add_assoc, Int32.add_sub_cancel]
theorem lt_le {a b : Int32} : a < b ↔ ¬ b ≤ a := by
  rw [Int32.lt_iff_toInt_lt, Int32.le_iff_toInt_le]
  omega
theorem pCl_X (v : Int32) : (if 0 < (if v < 100 then v else 100) then (if v < 100 then v else 100) else 0) = pCl v := by
  have e0 : (0 : Int32).toInt = 0 := by decide
  have e1 : (100 : Int32).toInt = 100 := by decide
  unfold pCl
  by_cases h1 : v < 100
  · have k1 := Int32.lt_iff_toInt_lt.mp h1
    have h2 : v ≤ 100 := Int32.le_iff_toInt_le.mpr (by omega)
    rw [if_pos h1, if_pos h2]
    by_cases h3 : 0 < v
    · have k3 := Int32.lt_iff_toInt_lt.mp h3
      rw [if_pos h3, if_pos (Int32.le_iff_toInt_le.mpr (by omega))]
    · have k3 : ¬ (0 : Int32).toInt < v.toInt := fun q => h3 (Int32.lt_iff_toInt_lt.mpr q)
      rw [if_neg h3]
      by_cases h4 : 0 ≤ v
      · have k4 := Int32.le_iff_toInt_le.mp h4
        rw [if_pos h4]
        exact Int32.toInt_inj.mp (by omega)
      · rw [if_neg h4]
  · have k1 : ¬ v.toInt < (100 : Int32).toInt := fun q => h1 (Int32.lt_iff_toInt_lt.mpr q)
    rw [if_neg h1, if_pos (by decide), if_pos (Int32.le_iff_toInt_le.mpr (by omega))]
    by_cases h2 : v ≤ 100
    · have k2 := Int32.le_iff_toInt_le.mp h2
      rw [if_pos h2]
      exact Int32.toInt_inj.mp (by omega)
    · rw [if_neg h2]
theorem pCl_id {v : Int32} (h : inB v 0 100) : pCl v = v := by
  unfold pCl
  rw [if_pos h.1, if_pos h.2]
theorem xChance {n see tm i : Nat} {g ff fp : Nat → Int32} {p : Int32} (hi : i < n) (hb : inB (ff i) 0 100) : fX_chance g ff i p = pChance (sdX n see tm g ff fp) i p := by
  unfold fX_chance pChance
  rw [gX (by omega)]
  show _ = pCl (if i = 0 then clp n ff i else (if p = 0 then clp n ff i - g 1 else clp n ff i + g 1))
  rw [clp_in hi]
  by_cases h : i = 0
  · rw [if_pos h, if_pos h, pCl_id hb]
  · rw [if_neg h, if_neg h, pCl_X]
theorem mChance {dn se tm : Nat → Nat} {gs ffr fpr : Nat → Int32} {s i : Nat} {p : Int32} (hi : i < dn s) : fM_chance ffr se tm gs s i p = pChance (sdM dn (sg se tm gs) ffr fpr s) i p := by
  unfold fM_chance pChance
  rw [gM' (by omega) (by omega)]
  show _ = pCl (if i = 0 then clp (dn s) (fun i => ffr (24 * s + i)) i else (if p = 0 then clp (dn s) (fun i => ffr (24 * s + i)) i - sg se tm gs (9 * s + (1 - 1)) else clp (dn s) (fun i => ffr (24 * s + i)) i + sg se tm gs (9 * s + (1 - 1))))
  rw [clp_in hi]
  rfl
theorem xTakeBy {n see tm r i : Nat} {g ff fp fl : Nat → Int32} {w : Int32} (hi : i < n) (hl : fl r = pLate (sdX n see tm g ff fp) r) : fX_takingBy n fp fl w r i = pTakeBy (sdX n see tm g ff fp) w r i := by
  unfold fX_takingBy pTakeBy
  show _ = (clp n fp i + w * (nI n - nI i) + pLate (sdX n see tm g ff fp) r) * 1000
  rw [clp_in hi, hl]
theorem xTake {n see tm r i : Nat} {g ff fp fl : Nat → Int32} (hi : i < n) (hl : fl r = pLate (sdX n see tm g ff fp) r) : fX_taking n g fp fl r i = pTake (sdX n see tm g ff fp) r i := by
  unfold fX_taking pTake
  rw [xTakeBy hi hl, gX (by omega)]
theorem xGar {n see tm r : Nat} {g ff fp fl : Nat → Int32} (hl : fl r = pLate (sdX n see tm g ff fp) r) : fX_garage g fl r = pGar (sdX n see tm g ff fp) r := by
  unfold fX_garage pGar
  rw [gX (by omega), hl]
theorem xPass {n see tm : Nat} {g ff fp : Nat → Int32} : fX_passing g = pPass (sdX n see tm g ff fp) := by
  unfold fX_passing pPass
  rw [gX (by omega)]
theorem xRnd {n see tm : Nat} {g ff fp : Nat → Int32} : fX_round g = pRnd (sdX n see tm g ff fp) := by
  unfold fX_round pRnd
  rw [gX (by omega), gX (by omega)]
theorem mLate {dn se tm : Nat → Nat} {gs ffr fpr : Nat → Int32} {s r : Nat} : sg se tm gs (9 * s + 3) * fM_late se tm gs s (nI r * (nI (dn s) + sg se tm gs (9 * s + 6)) + nI (dn s)) = pLate (sdM dn (sg se tm gs) ffr fpr s) r := by
  unfold fM_late pLate pz0
  rw [gM' (by omega) (by omega), gM' (by omega) (by omega), gM' (by omega) (by omega)]
  rfl
theorem mTakeBy {dn se tm : Nat → Nat} {gs ffr fpr : Nat → Int32} {s r i : Nat} {w : Int32} (hi : i < dn s) : fM_takingBy dn se tm gs fpr s i (nI r) w = pTakeBy (sdM dn (sg se tm gs) ffr fpr s) w r i := by
  unfold fM_takingBy pTakeBy fM_tick
  rw [ac_sub, mLate (ffr := ffr) (fpr := fpr)]
  show _ = (clp (dn s) (fun i => fpr (24 * s + i)) i + w * (nI (dn s) - nI i) + _) * 1000
  rw [clp_in hi]
theorem mTake {dn se tm : Nat → Nat} {gs ffr fpr : Nat → Int32} {s r i : Nat} (hi : i < dn s) : fM_taking dn se tm gs fpr s i (nI r) = pTake (sdM dn (sg se tm gs) ffr fpr s) r i := by
  unfold fM_taking pTake
  rw [mTakeBy (ffr := ffr) hi, gM' (by omega) (by omega)]
theorem mGar {dn se tm : Nat → Nat} {gs ffr fpr : Nat → Int32} {s r : Nat} : fM_garage dn se tm gs s (nI r) = pGar (sdM dn (sg se tm gs) ffr fpr s) r := by
  unfold fM_garage pGar fM_tick
  rw [mLate (ffr := ffr) (fpr := fpr), gM' (by omega) (by omega)]
/-! answers at a door of a street -/
def dqP (sd : Nat → SDt) (p0 p1 : Int32) (F : SDt → Nat → Int32 → Prop) (r : Int32) : Prop := ((∀ s, s < 3 → p0 = nI s → ∀ i, p1 = nI i → ¬ i < (sd s).1) → r = -1001) ∧ ∀ s, s < 3 → p0 = nI s → ∀ i, p1 = nI i → i < (sd s).1 → F (sd s) i r
theorem dq_fun {sd se : Nat → SDt} {p0 p1 r q : Int32} {F : SDt → Nat → Int32 → Prop} (hF : ∀ d i x y, F d i x → F d i y → x = y) (h : dqP sd p0 p1 F r) (g : dqP se p0 p1 F q) (e : ∀ i, i < 3 → sd i = se i) : r = q := by
  rcases Classical.em (∃ s i, s < 3 ∧ p0 = nI s ∧ p1 = nI i ∧ i < (sd s).1) with ⟨s, i, h1, h2, h3, h4⟩ | hn
  · have a := h.2 s h1 h2 i h3 h4
    have b := g.2 s h1 h2 i h3 (by rw [← e s h1]; exact h4)
    rw [← e s h1] at b
    exact hF _ _ _ _ a b
  · have a := h.1 (fun s h1 h2 i h3 h4 => hn ⟨s, i, h1, h2, h3, h4⟩)
    have b := g.1 (fun s h1 h2 i h3 h4 => hn ⟨s, i, h1, h2, h3, by rw [e s h1]; exact h4⟩)
    exact a.trans b.symm
theorem dq_no {sd : Nat → SDt} {p0 p1 : Int32} {F : SDt → Nat → Int32 → Prop} (h : ∀ s, s < 3 → p0 = nI s → ∀ i, p1 = nI i → ¬ i < (sd s).1) : dqP sd p0 p1 F (-1001) := ⟨fun _ => rfl, fun s h1 h2 i h3 h4 => absurd h4 (h s h1 h2 i h3)⟩
theorem dq_at {sd : Nat → SDt} {s i : Nat} {r : Int32} {F : SDt → Nat → Int32 → Prop} (hs : s < 3) (hb : (sd s).1 ≤ 24) (hi : i < (sd s).1) (h : F (sd s) i r) : dqP sd (nI s) (nI i) F r := by
  refine ⟨fun q => absurd hi (q s hs rfl i rfl), fun t h1 h2 j h3 h4 => ?_⟩
  have := nI_inj (by omega) (by omega) h2
  subst this
  have := nI_inj (by omega) (by omega) h3
  subst this
  exact h
/-- chance -/
def chA (p2 : Int32) (d : SDt) (i : Nat) (r : Int32) : Prop := r = pChance d i p2
/-- taking: the round in its bounds or not -/
def tkA (p1 : Int32) (d : SDt) (i : Nat) (r : Int32) : Prop := (¬ inB p1 0 (d.2.1 8) → r = -1002) ∧ ∀ k : Nat, k < 2 ^ 31 → p1 = nI k → inB p1 0 (d.2.1 8) → r = pTake d k i
theorem tkA_fun {p1 : Int32} (d : SDt) (i : Nat) (x y : Int32) (h : tkA p1 d i x) (g : tkA p1 d i y) : x = y := by
  rcases Classical.em (inB p1 0 (d.2.1 8)) with c | c
  · obtain ⟨k, h2, e⟩ := nI_of (Int32.not_lt.mpr c.1)
    exact (h.2 k h2 e c).trans (g.2 k h2 e c).symm
  · exact (h.1 c).trans (g.1 c).symm
theorem tk_o {p1 : Int32} {d : SDt} {i : Nat} (h : ¬ inB p1 0 (d.2.1 8)) : tkA p1 d i (-1002) := ⟨fun _ => rfl, fun _ _ _ c => absurd c h⟩
theorem tk_i {k : Nat} {d : SDt} {i : Nat} {r : Int32} (hk : k ≤ 3) (hi : inB (nI k) 0 (d.2.1 8)) (h : r = pTake d k i) : tkA (nI k) d i r := by
  refine ⟨fun c => absurd hi c, fun q hq e _ => ?_⟩
  have := nI_inj (by omega) hq e
  subst this
  exact h
theorem rdX {n see tm : Nat} {g ff fp : Nat → Int32} : (sdX n see tm g ff fp).2.1 8 = nI tm := by
  show nG (vv n see tm g) 8 = nI tm
  rw [nG_in (by omega) (by omega)]
  rfl
theorem rdM {dn se tm : Nat → Nat} {gs ffr fpr : Nat → Int32} {s : Nat} : (sdM dn (sg se tm gs) ffr fpr s).2.1 8 = nI (tm s) := by
  rw [gM' (by omega) (by omega)]
  exact sg_tm _ _ _ _
theorem inr {k t : Nat} (h : k ≤ t) (ht : t ≤ 3) : inB (nI k) 0 (nI t) := ⟨nI_ge0 (by omega), (nI_leI (by omega) (by omega)).mpr h⟩
/-! chances told are within 0 and 100 -/
theorem doF_in {b : Nat → Int32} {n rd t p t1 m : Nat} {v3 v5 : Int32} (h : doF b n rd t = (0, p, t1, m, v3, v5)) : inB v3 0 100 := by
  unfold doF at h
  rcases h1 : nuR b n false 1 24 t with ⟨e1, p1, u1, v1, q1⟩
  simp only [h1] at h
  by_cases c1 : e1 = 0
  · rw [if_pos c1] at h
    by_cases c2 : rd + v1.toNatClampNeg ≤ 24
    · rw [if_pos c2] at h
      rcases h2 : wdR b n (sByt.getD 10 []) u1 with ⟨e2, p2, u2⟩
      simp only [h2] at h
      by_cases c3 : e2 = 0
      · rw [if_pos c3] at h
        rcases h3 : nuR b n false 0 100 u2 with ⟨e3, p3, u3, w3, q3⟩
        simp only [h3] at h
        by_cases c4 : e3 = 0
        · rw [if_pos c4] at h
          rcases h4 : wdR b n (sByt.getD 11 []) u3 with ⟨e4, p4, u4⟩
          simp only [h4] at h
          by_cases c5 : e4 = 0
          · rw [if_pos c5] at h
            rcases h5 : nuR b n false 0 999 u4 with ⟨e5, p5, u5, w5, q5⟩
            simp only [h5] at h
            by_cases c6 : e5 = 0
            · rw [if_pos c6] at h
              have e : w3 = v3 := congrArg (fun z => z.2.2.2.2.1) h
              rw [c4] at h3
              rw [← e]
              exact (nuR_in h3).1
            · rw [if_neg c6] at h
              exact absurd (congrArg Prod.fst h) c6
          · rw [if_neg c5] at h
            exact absurd (congrArg Prod.fst h) c5
        · rw [if_neg c4] at h
          exact absurd (congrArg Prod.fst h) c4
      · rw [if_neg c3] at h
        exact absurd (congrArg Prod.fst h) c3
    · rw [if_neg c2] at h
      exact absurd (show (4 : Nat) = 0 from congrArg Prod.fst h) (by decide)
  · rw [if_neg c1] at h
    exact absurd (congrArg Prod.fst h) c1
theorem doC_in {b : Nat → Int32} {n rd t p t1 m : Nat} {v3 v5 : Int32} (h : doC b n rd t = (0, p, t1, m, v3, v5)) : inB v3 0 100 := by
  unfold doC at h
  rcases h1 : doF b n rd t with ⟨e, p1, u1, m1, w3, w5⟩
  simp only [h1] at h
  by_cases c1 : e = 0
  · rw [if_pos c1] at h
    rcases h2 : smR b n u1 with ⟨e6, p6, u6⟩
    simp only [h2] at h
    by_cases c2 : e6 = 0
    · rw [if_pos c2] at h
      have e3 : w3 = v3 := congrArg (fun z => z.2.2.2.2.1) h
      rw [c1] at h1
      rw [← e3]
      exact doF_in h1
    · rw [if_neg c2] at h
      exact absurd (congrArg Prod.fst h) c2
  · rw [if_neg c1] at h
    exact absurd (congrArg Prod.fst h) c1
def okS (σ : PSt) : Prop := ∀ i, i < σ.1 → inB (σ.2.2.1 i) 0 100
theorem okS_cl {b : Nat → Int32} {n t : Nat} {σ : PSt} (h : (clF b n t σ).1 = 0) (ho : okS σ) : okS (clF b n t σ).2.2.2 := by
  unfold clF at h ⊢
  by_cases c1 : kwN (letA b n (skA b n t)) = 10
  · rw [if_pos c1] at h
    exact absurd (show (1 : Nat) = 0 from h) (by decide)
  · rw [if_neg c1] at h ⊢
    by_cases c2 : kwN (letA b n (skA b n t)) = 0
    · rw [if_pos c2] at h ⊢
      rcases h1 : doC b n σ.1 (skA b n t + (letA b n (skA b n t)).length) with ⟨e, p, u1, m, v3, v5⟩
      simp only [h1] at h ⊢
      by_cases c3 : e = 0
      · rw [if_pos c3]
        rw [c3] at h1
        intro i hi
        have hi2 : i < σ.1 + m := hi
        show inB (if σ.1 ≤ i ∧ i < σ.1 + m then v3 else σ.2.2.1 i) 0 100
        by_cases c4 : σ.1 ≤ i ∧ i < σ.1 + m
        · rw [if_pos c4]
          exact doC_in h1
        · rw [if_neg c4]
          exact ho i (by omega)
      · rw [if_neg c3] at h
        exact absurd h c3
    · rw [if_neg c2] at h ⊢
      by_cases c3 : σ.2.2.2.2 (kwN (letA b n (skA b n t))) = true
      · rw [if_pos c3] at h
        exact absurd (show (3 : Nat) = 0 from h) (by decide)
      · rw [if_neg c3] at h ⊢
        rcases h1 : siC b n (kwN (letA b n (skA b n t))) (skA b n t + (letA b n (skA b n t)).length) with ⟨e, p, u1, v, v2⟩
        simp only [h1] at h ⊢
        by_cases c4 : e = 0
        · rw [if_pos c4]
          exact ho
        · rw [if_neg c4] at h
          exact absurd h c4
theorem okS_L {b : Nat → Int32} {n : Nat} : ∀ k t σ, (stL b n k t σ).1 = 0 → okS σ → okS (stL b n k t σ).2.2 := by
  intro k
  induction k with
  | zero => intro t σ _ ho; exact ho
  | succ k ih =>
    intro t σ h ho
    have e : stL b n (k + 1) t σ = (if skA b n t < n then (if (clF b n t σ).1 = 0 then stL b n k (clF b n t σ).2.2.1 (clF b n t σ).2.2.2 else ((clF b n t σ).1, (clF b n t σ).2.1, σ)) else (0, 0, σ)) := rfl
    rw [e] at h ⊢
    by_cases c1 : skA b n t < n
    · rw [if_pos c1] at h ⊢
      by_cases c2 : (clF b n t σ).1 = 0
      · rw [if_pos c2] at h ⊢
        exact ih _ _ h (okS_cl c2 ho)
      · rw [if_neg c2] at h
        exact absurd h c2
    · rw [if_neg c1]
      exact ho
theorem okS_F {b : Nat → Int32} {n t : Nat} {σ : PSt} (h : stF b n t = (0, 0, σ)) : okS σ := by
  unfold stF at h
  by_cases c : (stL b n 240 t st0).1 = 0 ∧ (stL b n 240 t st0).2.2.1 = 0
  · rw [if_pos c] at h
    exact absurd (show (1 : Nat) = 0 from congrArg Prod.fst h) (by decide)
  · rw [if_neg c] at h
    have h1 := okS_L 240 t st0 (show (stL b n 240 t st0).1 = 0 by rw [h]) (fun i hi => absurd hi (Nat.not_lt_zero i))
    rw [h] at h1
    exact h1
def okD (d : SDt) : Prop := ∀ i, i < d.1 → inB (d.2.2.1 i) 0 100
theorem stP_ok {pz : Int32} {b : Nat → Int32} {n n' : Nat} {fp r fp' : Int32} {sd sd' : Nat → SDt} (h : stP pz b n fp sd r n' fp' sd') (e : ∀ i, i < 3 → okD (sd i)) : ∀ i, i < 3 → okD (sd' i) := by
  intro i hi3
  rcases Classical.em (inB pz 0 2) with hi | hi
  · obtain ⟨h1, h2⟩ := h.2 hi
    rcases h2 with ⟨e1, pl, a1, a2, a3, a4, a5, a6, a7⟩ | ⟨sn, σ, a1, a2, a3, a4, a5, a6, a7⟩
    · rw [a7 i hi3]
      exact e i hi3
    · by_cases hs : i = sn
      · rw [hs, a6]
        exact okS_F a3
      · rw [a7 i hi3 hs]
        exact e i hi3
  · rw [(h.1 hi).2.2.2 i hi3]
    exact e i hi3
theorem okX {n see tm i : Nat} {g ff fp : Nat → Int32} (h : okD (sdX n see tm g ff fp)) (hi : i < n) : inB (ff i) 0 100 := by
  have h1 : inB (clp n ff i) 0 100 := h i hi
  rw [clp_in hi] at h1
  exact h1
/-! how late one is, reckoned once -/
theorem pz0_x (z : Int32) : (if 0 < z then z else 0) = pz0 z := by
  have e0 : (0 : Int32).toInt = 0 := by decide
  unfold pz0
  by_cases h : 0 < z
  · have k := Int32.lt_iff_toInt_lt.mp h
    rw [if_pos h, if_pos (Int32.le_iff_toInt_le.mpr (by omega))]
  · have k : ¬ (0 : Int32).toInt < z.toInt := fun q => h (Int32.lt_iff_toInt_lt.mpr q)
    rw [if_neg h]
    by_cases h2 : 0 ≤ z
    · have k2 := Int32.le_iff_toInt_le.mp h2
      rw [if_pos h2]
      exact Int32.toInt_inj.mp (by omega)
    · rw [if_neg h2]
theorem la_step {n see tm r : Nat} {g g0 gg ff fp : Nat → Int32} {a b c q : Int32} (hg : gg = va_cpy g g0 0 0 10) (h0 : q = fX_arrival n gg r) (h1 : a = q - gg 5) (h2 : b = if 0 < a then a else 0) (h3 : c = gg 4 * b) : c = pLate (sdX n see tm g ff fp) r := by
  have e : ∀ k, k < 10 → gg k = g k := by
    intro k hk
    rw [hg, pk_cpy_in (by omega) (by omega), show 0 + (k - 0) = k by omega]
  rw [h3, h2, pz0_x, h1, h0]
  unfold pLate fX_arrival
  rw [gX (by omega), gX (by omega), gX (by omega), e 4 (by omega), e 5 (by omega), e 7 (by omega)]
  rfl
theorem la_upd {f F : Nat → Int32} {k : Nat} {c : Int32} (h : ∀ r, r < k → f r = F r) (hc : c = F k) : ∀ r, r < k + 1 → upd f k c r = F r := by
  intro r hr
  by_cases h1 : r = k
  · rw [h1, pk_us]
    exact hc
  · rw [pk_un h1]
    exact h r (by omega)
def ltP (fl : Nat → Nat → Int32) (sd : Nat → SDt) : Prop := ∀ i, i < 3 → ∀ r, r < 4 → fl i r = pLate (sd i) r


set_option maxHeartbeats 4000000 in
set_option maxRecDepth 100000 in
theorem y_become2 (l : Launch) (D : va_G) (k : Nat → ClassId) (st : Nat → Nat) (lo : Nat) (h0 : Nat) (h1 : Nat) (h2 : Nat) (h3 : Nat) (h4 : Nat) (n : Nat) (see : Nat) (tm : Nat) (g : Nat → Int32) (ff : Nat → Int32) (fp : Nat → Int32) (fl : Nat → Int32) (d0 : Nat) (d1 : Nat) (d2 : Nat) (d3 : Nat) (d4 : Nat) (nq : Nat) (seeq : Nat) (tmq : Nat) (gq : Nat → Int32) (ffq : Nat → Int32) (fpq : Nat → Int32) (flq : Nat → Int32) (hn : nq ≤ 24) : CWv l D k st lo yX5_become cX5_become 3 none ({ frames := 1, cells := 0, slots := 0, locals := 60 }) 0 0 [.ref h0, .ref d0] [(h0, .inr (5, (fX5 h1 h2 h3 h4))), (aI k h1 10 (vv n see tm g)), (aI k h2 24 ff), (aI k h3 24 fp), (aI k h4 4 fl), (d0, .inr (5, (fX5 d1 d2 d3 d4))), (aI k d1 10 (vv nq seeq tmq gq)), (aI k d2 24 ffq), (aI k d3 24 fpq), (aI k d4 4 flq)] (fun (u : Nat × Nat × Nat × (Nat → Int32) × (Nat → Int32) × (Nat → Int32) × (Nat → Int32)) => match u with | (n_, see_, tm_, g_, ff_, fp_, fl_) => n_ = nq ∧ see_ = seeq ∧ tm_ = tmq ∧ sdX nq seeq tmq g_ ff_ fp_ = (sdX nq seeq tmq gq ffq fpq) ∧ ∀ r, r < 4 → fl_ r = pLate (sdX nq seeq tmq gq ffq fpq) r) (fun (u : Nat × Nat × Nat × (Nat → Int32) × (Nat → Int32) × (Nat → Int32) × (Nat → Int32)) => match u with | (n_, see_, tm_, g_, ff_, fp_, fl_) => [(h0, .inr (5, (fX5 h1 h2 h3 h4))), (aI k h1 10 (vv n_ see_ tm_ g_)), (aI k h2 24 ff_), (aI k h3 24 fp_), (aI k h4 4 fl_), (d0, .inr (5, (fX5 d1 d2 d3 d4))), (aI k d1 10 (vv nq seeq tmq gq)), (aI k d2 24 ffq), (aI k d3 24 fpq), (aI k d4 4 flq)]) := by
  intro sz
  refine Met.ofW (cc := cX5_become) (maxL := 3) (ret := none) (by decide) rfl ?_
  intro p e s m args below meth c s₁ B hml hv
  obtain ⟨rfl, hsz, hlo, hP, hK, hDL, hZ⟩ := hv
  have hx := B.exec
  have hb := B.bytes
  have hr := B.returns
  have hts := WS_ts B.pre
  have hown : s.vm.findClass RX5 = some m.cls := findClass_of_methodNamed B.named
  have hlocks := B.notSynchronized
  subst hsz
  have hD := hDL.self (sz := s.heap.size)
  have hAlo := A_lo hDL hlo
  generalize hAe : va_A [(h0, .inr (5, (fX5 h1 h2 h3 h4))), (aI k h1 10 (vv n see tm g)), (aI k h2 24 ff), (aI k h3 24 fp), (aI k h4 4 fl), (d0, .inr (5, (fX5 d1 d2 d3 d4))), (aI k d1 10 (vv nq seeq tmq gq)), (aI k d2 24 ffq), (aI k d3 24 fpq), (aI k d4 4 flq)] s.heap.size = A at hD hAlo ⊢
  have hA : ∀ q : Nat, s.heap.size ≤ q → A q := fun q h => by rw [← hAe]; exact Or.inr h
  have hS : va_S A s.heap s.heap [] := va_S.rf
  have hl := lv_entry ([.ref h0, .ref d0]) (n := 3) (Nat.le_of_ble_eq_true rfl)
  rw [lg_entry_eq]
  generalize (lg_sl ([.ref h0, .ref d0]) ++ List.replicate (3 - (lg_sl ([.ref h0, .ref d0])).length) Slot.unset).toArray = ls at hl ⊢
  have hl : lv_has ls 3 [(0, .ref h0), (1, .ref d0)] := hl
  refine lv_aload_n hx hb dX5_become_0 rfl (lv_at hl 1 rfl) ?_
  refine va_get (D := D) (ci := 5) (v := .ref d1) (C := RX5) (T := TX5) (N := 4) hx hb hts inX5 hown hK hP 5 rfl rfl 0 (by decide) (hts _ tw_146) (fun _ h9 => h9) rfl dX5_become_1 ?_
  refine lv_iconst (v := 0) hx hb dX5_become_4 (by decide) ?_
  refine lv_aload_n hx hb dX5_become_5 rfl (lv_at hl 0 rfl) ?_
  refine va_get (D := D) (ci := 5) (v := .ref h1) (C := RX5) (T := TX5) (N := 4) hx hb hts inX5 hown hK hP 0 rfl rfl 0 (by decide) (hts _ tw_146) (fun _ h9 => h9) rfl dX5_become_6 ?_
  refine lv_iconst (v := 0) hx hb dX5_become_9 (by decide) ?_
  refine lv_bipush (v := 10) hx hb dX5_become_10 (by decide) ?_
  refine va_copyi hx hb (by rw [hml]; exact hl.1.symm) hown (hts _ tw_364) (hts _ tw_366) (hts _ tw_365) (hts _ tw_88) hK hP hD hS 6 1 1 1 rfl rfl rfl rfl rfl (by decide) (by decide) (by decide) (by decide) (by decide) (fun _ _ => rfl) (Nat.le_of_ble_eq_true rfl) (Nat.le_of_ble_eq_true rfl) dX5_become_12 (fun H locs hP hD hS => ?_)
  replace hP : va_P D classes [(h0, .inr (5, (fX5 h1 h2 h3 h4))), (aI k h1 10 (va_cpy (vv nq seeq tmq gq) (vv n see tm g) 0 0 10)), (aI k h2 24 ff), (aI k h3 24 fp), (aI k h4 4 fl), (d0, .inr (5, (fX5 d1 d2 d3 d4))), (aI k d1 10 (vv nq seeq tmq gq)), (aI k d2 24 ffq), (aI k d3 24 fpq), (aI k d4 4 flq)] H := hP
  replace hD : va_D A [(h0, .inr (5, (fX5 h1 h2 h3 h4))), (aI k h1 10 (va_cpy (vv nq seeq tmq gq) (vv n see tm g) 0 0 10)), (aI k h2 24 ff), (aI k h3 24 fp), (aI k h4 4 fl), (d0, .inr (5, (fX5 d1 d2 d3 d4))), (aI k d1 10 (vv nq seeq tmq gq)), (aI k d2 24 ffq), (aI k d3 24 fpq), (aI k d4 4 flq)] := hD
  rw [show va_cpy (vv nq seeq tmq gq) (vv n see tm g) 0 0 10 = vv nq seeq tmq (va_cpy gq g 0 0 10) from vv_cpy _ _ _ _ _ _ _ _] at hP hD
  obtain ⟨gg_1, hgg_1⟩ : ∃ z : Nat → Int32, z = va_cpy gq g 0 0 10 := ⟨_, rfl⟩
  rw [← hgg_1] at hP hD
  replace hP : va_P D classes [(h0, .inr (5, (fX5 h1 h2 h3 h4))), (aI k h1 10 (vv nq seeq tmq gg_1)), (aI k h2 24 ff), (aI k h3 24 fp), (aI k h4 4 fl), (d0, .inr (5, (fX5 d1 d2 d3 d4))), (aI k d1 10 (vv nq seeq tmq gq)), (aI k d2 24 ffq), (aI k d3 24 fpq), (aI k d4 4 flq)] H := hP
  replace hD : va_D A [(h0, .inr (5, (fX5 h1 h2 h3 h4))), (aI k h1 10 (vv nq seeq tmq gg_1)), (aI k h2 24 ff), (aI k h3 24 fp), (aI k h4 4 fl), (d0, .inr (5, (fX5 d1 d2 d3 d4))), (aI k d1 10 (vv nq seeq tmq gq)), (aI k d2 24 ffq), (aI k d3 24 fpq), (aI k d4 4 flq)] := hD
  refine lv_aload_n hx hb dX5_become_15 rfl (lv_at hl 1 rfl) ?_
  refine va_get (D := D) (ci := 5) (v := .ref d2) (C := RX5) (T := TX5) (N := 4) hx hb hts inX5 hown hK hP 5 rfl rfl 1 (by decide) (hts _ tw_150) (fun _ h9 => h9) rfl dX5_become_16 ?_
  refine lv_iconst (v := 0) hx hb dX5_become_19 (by decide) ?_
  refine lv_aload_n hx hb dX5_become_20 rfl (lv_at hl 0 rfl) ?_
  refine va_get (D := D) (ci := 5) (v := .ref h2) (C := RX5) (T := TX5) (N := 4) hx hb hts inX5 hown hK hP 0 rfl rfl 1 (by decide) (hts _ tw_150) (fun _ h9 => h9) rfl dX5_become_21 ?_
  refine lv_iconst (v := 0) hx hb dX5_become_24 (by decide) ?_
  refine lv_bipush (v := 24) hx hb dX5_become_25 (by decide) ?_
  refine va_copyi hx hb (by rw [hml]; exact hl.1.symm) hown (hts _ tw_364) (hts _ tw_366) (hts _ tw_365) (hts _ tw_88) hK hP hD hS 7 2 1 1 rfl rfl rfl rfl rfl (by decide) (by decide) (by decide) (by decide) (by decide) (fun _ _ => rfl) (Nat.le_of_ble_eq_true rfl) (Nat.le_of_ble_eq_true rfl) dX5_become_27 (fun H locs hP hD hS => ?_)
  replace hP : va_P D classes [(h0, .inr (5, (fX5 h1 h2 h3 h4))), (aI k h1 10 (vv nq seeq tmq gg_1)), (aI k h2 24 (va_cpy ffq ff 0 0 24)), (aI k h3 24 fp), (aI k h4 4 fl), (d0, .inr (5, (fX5 d1 d2 d3 d4))), (aI k d1 10 (vv nq seeq tmq gq)), (aI k d2 24 ffq), (aI k d3 24 fpq), (aI k d4 4 flq)] H := hP
  replace hD : va_D A [(h0, .inr (5, (fX5 h1 h2 h3 h4))), (aI k h1 10 (vv nq seeq tmq gg_1)), (aI k h2 24 (va_cpy ffq ff 0 0 24)), (aI k h3 24 fp), (aI k h4 4 fl), (d0, .inr (5, (fX5 d1 d2 d3 d4))), (aI k d1 10 (vv nq seeq tmq gq)), (aI k d2 24 ffq), (aI k d3 24 fpq), (aI k d4 4 flq)] := hD
  refine lv_aload_n hx hb dX5_become_30 rfl (lv_at hl 1 rfl) ?_
  refine va_get (D := D) (ci := 5) (v := .ref d3) (C := RX5) (T := TX5) (N := 4) hx hb hts inX5 hown hK hP 5 rfl rfl 2 (by decide) (hts _ tw_152) (fun _ h9 => h9) rfl dX5_become_31 ?_
  refine lv_iconst (v := 0) hx hb dX5_become_34 (by decide) ?_
  refine lv_aload_n hx hb dX5_become_35 rfl (lv_at hl 0 rfl) ?_
  refine va_get (D := D) (ci := 5) (v := .ref h3) (C := RX5) (T := TX5) (N := 4) hx hb hts inX5 hown hK hP 0 rfl rfl 2 (by decide) (hts _ tw_152) (fun _ h9 => h9) rfl dX5_become_36 ?_
  refine lv_iconst (v := 0) hx hb dX5_become_39 (by decide) ?_
  refine lv_bipush (v := 24) hx hb dX5_become_40 (by decide) ?_
  refine va_copyi hx hb (by rw [hml]; exact hl.1.symm) hown (hts _ tw_364) (hts _ tw_366) (hts _ tw_365) (hts _ tw_88) hK hP hD hS 8 3 1 1 rfl rfl rfl rfl rfl (by decide) (by decide) (by decide) (by decide) (by decide) (fun _ _ => rfl) (Nat.le_of_ble_eq_true rfl) (Nat.le_of_ble_eq_true rfl) dX5_become_42 (fun H locs hP hD hS => ?_)
  replace hP : va_P D classes [(h0, .inr (5, (fX5 h1 h2 h3 h4))), (aI k h1 10 (vv nq seeq tmq gg_1)), (aI k h2 24 (va_cpy ffq ff 0 0 24)), (aI k h3 24 (va_cpy fpq fp 0 0 24)), (aI k h4 4 fl), (d0, .inr (5, (fX5 d1 d2 d3 d4))), (aI k d1 10 (vv nq seeq tmq gq)), (aI k d2 24 ffq), (aI k d3 24 fpq), (aI k d4 4 flq)] H := hP
  replace hD : va_D A [(h0, .inr (5, (fX5 h1 h2 h3 h4))), (aI k h1 10 (vv nq seeq tmq gg_1)), (aI k h2 24 (va_cpy ffq ff 0 0 24)), (aI k h3 24 (va_cpy fpq fp 0 0 24)), (aI k h4 4 fl), (d0, .inr (5, (fX5 d1 d2 d3 d4))), (aI k d1 10 (vv nq seeq tmq gq)), (aI k d2 24 ffq), (aI k d3 24 fpq), (aI k d4 4 flq)] := hD
  refine lv_iconst (v := 0) hx hb dX5_become_45 (by decide) ?_
  refine lv_istore_n (lv' := [(2, .int 0), (0, .ref h0), (1, .ref d0)]) hx hb dX5_become_46 rfl hl (by decide) rfl (fun ls hl => ?_)
  refine W_loop (σ := Nat × (Nat → Int32)) (fun (n_ : Nat) (x_ : Nat × (Nat → Int32)) (H : Heap) (locs : List Loc) (ls : Array Slot) => match x_ with | (rn2_7, fl2_7) => n_ = 4 - rn2_7 ∧ (rn2_7 ≤ 4 ∧ ∀ r, r < rn2_7 → fl2_7 r = pLate (sdX nq seeq tmq gq ffq fpq) r) ∧ va_P D classes [(h0, .inr (5, (fX5 h1 h2 h3 h4))), (aI k h1 10 (vv nq seeq tmq gg_1)), (aI k h2 24 (va_cpy ffq ff 0 0 24)), (aI k h3 24 (va_cpy fpq fp 0 0 24)), (aI k h4 4 fl2_7), (d0, .inr (5, (fX5 d1 d2 d3 d4))), (aI k d1 10 (vv nq seeq tmq gq)), (aI k d2 24 ffq), (aI k d3 24 fpq), (aI k d4 4 flq)] H ∧ va_D A [(h0, .inr (5, (fX5 h1 h2 h3 h4))), (aI k h1 10 (vv nq seeq tmq gg_1)), (aI k h2 24 (va_cpy ffq ff 0 0 24)), (aI k h3 24 (va_cpy fpq fp 0 0 24)), (aI k h4 4 fl2_7), (d0, .inr (5, (fX5 d1 d2 d3 d4))), (aI k d1 10 (vv nq seeq tmq gq)), (aI k d2 24 ffq), (aI k d3 24 fpq), (aI k d4 4 flq)] ∧ va_S A s.heap H locs ∧ lv_has ls 3 [(2, .int (nI rn2_7)), (0, .ref h0), (1, .ref d0)]) (fun n_7 x_7 H locs ls hI ih_7 => ?_) _ (0, fl) ⟨rfl, ⟨by omega, fun r hr => absurd hr (Nat.not_lt_zero r)⟩, hP, hD, hS, (lv_sub hl [0, 1, 2] rfl)⟩
  obtain ⟨rn2_7, fl2_7⟩ := x_7
  obtain ⟨hm_7, hv_7, hP, hD, hS, hl⟩ := hI
  subst hm_7
  refine lv_iload_n hx hb dX5_become_47 rfl (lv_at hl 0 rfl) ?_
  refine lv_iconst (v := 4) hx hb dX5_become_48 (by decide) ?_
  refine lv_icmp_ge (tgt := 87) hx hb dX5_become_49 (by decide) (fun c_8 => ?_) (fun c_8 => ?_)
  · have c_8 := (nI_leI (a := 4) (b := rn2_7) (by omega) (by omega)).mp c_8
    have hP9 := hP.sub (ws' := [(h0, .inr (5, (fX5 h1 h2 h3 h4))), (aI k h1 10 (vv nq seeq tmq gg_1)), (aI k h2 24 (va_cpy ffq ff 0 0 24)), (aI k h3 24 (va_cpy fpq fp 0 0 24)), (aI k h4 4 fl2_7), (d0, .inr (5, (fX5 d1 d2 d3 d4))), (aI k d1 10 (vv nq seeq tmq gq)), (aI k d2 24 ffq), (aI k d3 24 fpq), (aI k d4 4 flq)]) [0, 1, 2, 3, 4, 5, 6, 7, 8, 9] rfl
    have hD9 := hD.sub (ws' := [(h0, .inr (5, (fX5 h1 h2 h3 h4))), (aI k h1 10 (vv nq seeq tmq gg_1)), (aI k h2 24 (va_cpy ffq ff 0 0 24)), (aI k h3 24 (va_cpy fpq fp 0 0 24)), (aI k h4 4 fl2_7), (d0, .inr (5, (fX5 d1 d2 d3 d4))), (aI k d1 10 (vv nq seeq tmq gq)), (aI k d2 24 ffq), (aI k d3 24 fpq), (aI k d4 4 flq)]) [0, 1, 2, 3, 4, 5, 6, 7, 8, 9] (by decide +kernel) rfl
    exact W.vret hx hb hr (fun t ht hW => ⟨⟨(nq, seeq, tmq, gg_1, (va_cpy ffq ff 0 0 24), (va_cpy fpq fp 0 0 24), fl2_7), rfl, ⟨rfl, rfl, rfl, sd_cp (by omega) hgg_1, fun r hr => hv_7.2 r (by omega)⟩, by rw [ht]; exact hP9, hD9⟩, hS.F ht⟩) hS.2.2 dX5_become_87
  · have c_8 : ¬ (4 ≤ rn2_7) := fun h => c_8 ((nI_leI (a := 4) (b := rn2_7) (by omega) (by omega)).mpr h)
    refine lv_aload_n hx hb dX5_become_52 rfl (lv_at hl 1 rfl) ?_
    refine va_get (D := D) (ci := 5) (v := .ref h4) (C := RX5) (T := TX5) (N := 4) hx hb hts inX5 hown hK hP 0 rfl rfl 3 (by decide) (hts _ tw_154) (fun _ h9 => h9) rfl dX5_become_53 ?_
    refine lv_iload_n hx hb dX5_become_56 rfl (lv_at hl 0 rfl) ?_
    refine lv_aload_n hx hb dX5_become_57 rfl (lv_at hl 1 rfl) ?_
    refine va_get (D := D) (ci := 5) (v := .ref h1) (C := RX5) (T := TX5) (N := 4) hx hb hts inX5 hown hK hP 0 rfl rfl 0 (by decide) (hts _ tw_146) (fun _ h9 => h9) rfl dX5_become_58 ?_
    refine lv_iconst (v := 4) hx hb dX5_become_61 (by decide) ?_
    refine va_iald hx hb hK hP 1 1 rfl rfl (by unfold vp_in; decide) dX5_become_62 ?_
    refine lv_ti (y := (gg_1 4)) (by rfl) ?_
    refine lv_iconst (v := 0) hx hb dX5_become_63 (by decide) ?_
    refine lv_aload_n hx hb dX5_become_64 rfl (lv_at hl 1 rfl) ?_
    refine lv_iload_n hx hb dX5_become_65 rfl (lv_at hl 0 rfl) ?_
    refine ro_i (D := D) (va_runV (As := [.int (nI rn2_7)]) (rest := [.int 0, .int (gg_1 4), .int (nI rn2_7), .ref h4]) ⟨hx, hb, hml, hown, hts⟩ ((y_arrivalOf l D k st lo h0 h1 h2 h3 h4 nq seeq tmq gg_1 rn2_7) H.size) (cwV 1 hts (gV tw_505 tw_507 tw_3 tw_81 tw_508) rfl rfl rfl (by decide +kernel) ⟨Nat.le_of_ble_eq_true rfl, Nat.le_of_ble_eq_true rfl⟩) (pV hS hAlo hlo hP hK (va_Dlo hD hAlo) hZ [0, 1] (by decide) rfl (ci := 5) (q := (RX5, TX5, 4)) (q0 := 0) rfl rfl) rfl rfl hl.1 rfl (lv_room (Nat.le_of_ble_eq_true rfl)) dX5_become_66 ⟨Nat.le_of_ble_eq_true rfl, Nat.le_of_ble_eq_true rfl⟩) hS hA hP (fun r_9 H locs hw_9 hP hS => ?_)
    try dsimp only at hw_9
    refine lv_aload_n hx hb dX5_become_69 rfl (lv_at hl 1 rfl) ?_
    refine va_get (D := D) (ci := 5) (v := .ref h1) (C := RX5) (T := TX5) (N := 4) hx hb hts inX5 hown hK hP 0 rfl rfl 0 (by decide) (hts _ tw_146) (fun _ h9 => h9) rfl dX5_become_70 ?_
    refine lv_iconst (v := 5) hx hb dX5_become_73 (by decide) ?_
    refine va_iald hx hb hK hP 1 1 rfl rfl (by unfold vp_in; decide) dX5_become_74 ?_
    refine lv_ti (y := (gg_1 5)) (by rfl) ?_
    refine lv_isub hx hb dX5_become_75 ?_
    refine lv_topi (fun x_10 ex_10 => ?_)
    refine va_mmax hx hb (by rw [hml]; exact hl.1.symm) hown (hts _ tw_509) (hts _ tw_510) (hts _ tw_93) (hts _ tw_511) (Nat.le_of_ble_eq_true rfl) (Nat.le_of_ble_eq_true rfl) (Nat.le_of_ble_eq_true rfl) (Nat.le_of_ble_eq_true rfl) dX5_become_76 ?_
    refine lv_topi (fun x_11 ex_11 => ?_)
    refine lv_imul hx hb dX5_become_79 ?_
    refine lv_topi (fun x_12 ex_12 => ?_)
    refine va_iast hx hb hK hP hD hS 4 1 rfl rfl (vp_in_nI (by omega) (by decide)) dX5_become_80 (fun H locs hP hD hS => ?_)
    replace hP : va_P D classes [(h0, .inr (5, (fX5 h1 h2 h3 h4))), (aI k h1 10 (vv nq seeq tmq gg_1)), (aI k h2 24 (va_cpy ffq ff 0 0 24)), (aI k h3 24 (va_cpy fpq fp 0 0 24)), (aI k h4 4 (upd fl2_7 (Int32.toNatClampNeg (nI rn2_7)) x_12)), (d0, .inr (5, (fX5 d1 d2 d3 d4))), (aI k d1 10 (vv nq seeq tmq gq)), (aI k d2 24 ffq), (aI k d3 24 fpq), (aI k d4 4 flq)] H := hP
    replace hD : va_D A [(h0, .inr (5, (fX5 h1 h2 h3 h4))), (aI k h1 10 (vv nq seeq tmq gg_1)), (aI k h2 24 (va_cpy ffq ff 0 0 24)), (aI k h3 24 (va_cpy fpq fp 0 0 24)), (aI k h4 4 (upd fl2_7 (Int32.toNatClampNeg (nI rn2_7)) x_12)), (d0, .inr (5, (fX5 d1 d2 d3 d4))), (aI k d1 10 (vv nq seeq tmq gq)), (aI k d2 24 ffq), (aI k d3 24 fpq), (aI k d4 4 flq)] := hD
    rw [nI_clamp (n := rn2_7) (by omega)] at hP hD
    replace hP : va_P D classes [(h0, .inr (5, (fX5 h1 h2 h3 h4))), (aI k h1 10 (vv nq seeq tmq gg_1)), (aI k h2 24 (va_cpy ffq ff 0 0 24)), (aI k h3 24 (va_cpy fpq fp 0 0 24)), (aI k h4 4 (upd fl2_7 rn2_7 x_12)), (d0, .inr (5, (fX5 d1 d2 d3 d4))), (aI k d1 10 (vv nq seeq tmq gq)), (aI k d2 24 ffq), (aI k d3 24 fpq), (aI k d4 4 flq)] H := hP
    replace hD : va_D A [(h0, .inr (5, (fX5 h1 h2 h3 h4))), (aI k h1 10 (vv nq seeq tmq gg_1)), (aI k h2 24 (va_cpy ffq ff 0 0 24)), (aI k h3 24 (va_cpy fpq fp 0 0 24)), (aI k h4 4 (upd fl2_7 rn2_7 x_12)), (d0, .inr (5, (fX5 d1 d2 d3 d4))), (aI k d1 10 (vv nq seeq tmq gq)), (aI k d2 24 ffq), (aI k d3 24 fpq), (aI k d4 4 flq)] := hD
    refine lv_iinc (v := (nI (rn2_7 + 1))) (lv' := [(2, .int (nI (rn2_7 + 1))), (0, .ref h0), (1, .ref d0)]) hx hb dX5_become_81 hl (k := 0) rfl (nI_add rn2_7 1) (by decide) rfl (fun ls hl => ?_)
    refine lv_goto (tgt := 47) hx hb dX5_become_84 (by decide) ?_
    exact ih_7 _ (rn2_7 + 1, (upd fl2_7 rn2_7 x_12)) _ _ _ (by omega) ⟨rfl, ⟨by omega, la_upd hv_7.2 (la_step hgg_1 hw_9 ex_10 ex_11 ex_12)⟩, hP, hD, hS, (lv_sub hl [0, 1, 2] rfl)⟩


set_option maxHeartbeats 4000000 in
set_option maxRecDepth 100000 in
theorem y_chance (l : Launch) (D : va_G) (k : Nat → ClassId) (st : Nat → Nat) (lo : Nat) (a : Nat → Nat) (rk : Nat) (lfa : Int32) (n0 : Nat) (see0 : Nat) (tm0 : Nat) (g0 : Nat → Int32) (ff0 : Nat → Int32) (fp0 : Nat → Int32) (n1 : Nat) (see1 : Nat) (tm1 : Nat) (g1 : Nat → Int32) (ff1 : Nat → Int32) (fp1 : Nat → Int32) (n2 : Nat) (see2 : Nat) (tm2 : Nat) (g2 : Nat → Int32) (ff2 : Nat → Int32) (fp2 : Nat → Int32) (p0 : Int32) (p1 : Int32) (p2 : Int32) (hn0 : n0 ≤ 24) (hse0 : see0 ≤ 2) (htm0 : tm0 ≤ 3) (hn1 : n1 ≤ 24) (hse1 : see1 ≤ 2) (htm1 : tm1 ≤ 3) (hn2 : n2 ≤ 24) (hse2 : see2 ≤ 2) (htm2 : tm2 ≤ 3) (hok : ∀ i, i < 3 → okD ((d3 (sdX n0 see0 tm0 g0 ff0 fp0) (sdX n1 see1 tm1 g1 ff1 fp1) (sdX n2 see2 tm2 g2 ff2 fp2)) i)) : CRi l D k st lo yX7_chance cX7_chance 4 (some .int) ({ frames := 3, cells := 0, slots := 0, locals := 83 }) [.ref (a 0), .int p0, .int p1, .int p2] [((a 0), .inr (7, (fX7 (a 1) (a 3) (a 19) (a 35) (a 40) (nI rk) lfa (a 53) (a 56) (a 63) (a 64) (a 68)))), ((a 3), .inl (k 3, 3, .inr (.inr (.inr (.inr (a3 (a 4) (a 9) (a 14))))))), ((a 4), .inr (5, (fX5 (a 5) (a 6) (a 7) (a 8)))), (aI k (a 5) 10 (vv n0 see0 tm0 g0)), (aI k (a 6) 24 ff0), (aI k (a 7) 24 fp0), ((a 9), .inr (5, (fX5 (a 10) (a 11) (a 12) (a 13)))), (aI k (a 10) 10 (vv n1 see1 tm1 g1)), (aI k (a 11) 24 ff1), (aI k (a 12) 24 fp1), ((a 14), .inr (5, (fX5 (a 15) (a 16) (a 17) (a 18)))), (aI k (a 15) 10 (vv n2 see2 tm2 g2)), (aI k (a 16) 24 ff2), (aI k (a 17) 24 fp2)] (fun r => dqP (d3 (sdX n0 see0 tm0 g0 ff0 fp0) (sdX n1 see1 tm1 g1 ff1 fp1) (sdX n2 see2 tm2 g2 ff2 fp2)) p0 p1 (chA p2) r) := by
  intro sz
  refine Met.ofW (cc := cX7_chance) (maxL := 4) (ret := (some .int)) (by decide) rfl ?_
  intro p e s m args below meth c s₁ B hml hv
  obtain ⟨rfl, hsz, hlo, hP, hK, hDL, hZ⟩ := hv
  have hx := B.exec
  have hb := B.bytes
  have hr := B.returns
  have hts := WS_ts B.pre
  have hown : s.vm.findClass RX7 = some m.cls := findClass_of_methodNamed B.named
  have hlocks := B.notSynchronized
  subst hsz
  have hA : ∀ q : Nat, s.heap.size ≤ q → (fun q : Nat => s.heap.size ≤ q) q := fun _ h => h
  have hAlo : ∀ q : Nat, (fun q : Nat => s.heap.size ≤ q) q → lo ≤ q := fun q h => Nat.le_trans hlo h
  have hS : va_S (fun q : Nat => s.heap.size ≤ q) s.heap s.heap [] := va_S.rf
  have hl := lv_entry ([.ref (a 0), .int p0, .int p1, .int p2]) (n := 4) (Nat.le_of_ble_eq_true rfl)
  rw [lg_entry_eq]
  generalize (lg_sl ([.ref (a 0), .int p0, .int p1, .int p2]) ++ List.replicate (4 - (lg_sl ([.ref (a 0), .int p0, .int p1, .int p2])).length) Slot.unset).toArray = ls at hl ⊢
  have hl : lv_has ls 4 [(0, .ref (a 0)), (1, .int p0), (2, .int p1), (3, .int p2)] := hl
  refine lv_aload_n hx hb dX7_chance_0 rfl (lv_at hl 0 rfl) ?_
  refine lv_iload_n hx hb dX7_chance_1 rfl (lv_at hl 1 rfl) ?_
  refine lv_iload_n hx hb dX7_chance_2 rfl (lv_at hl 2 rfl) ?_
  refine ro_i (D := D) (va_runV (As := [.int p0, .int p1]) (rest := []) ⟨hx, hb, hml, hown, hts⟩ ((y_isDoor l D k st lo a rk lfa n0 see0 tm0 g0 n1 see1 tm1 g1 n2 see2 tm2 g2 p0 p1 (by first | assumption | omega) (by first | assumption | omega) (by first | assumption | omega)) s.heap.size) (cwV 2 hts (gV tw_600 tw_602 tw_9 tw_79 tw_603) rfl rfl rfl (by decide +kernel) ⟨Nat.le_of_ble_eq_true rfl, Nat.le_of_ble_eq_true rfl⟩) (pV hS hAlo hlo hP hK hDL hZ [0, 1, 2, 3, 6, 7, 10, 11] (by decide) rfl (ci := 7) (q := (RX7, TX7, 12)) (q0 := 0) rfl rfl) rfl rfl hl.1 rfl (lv_room (Nat.le_of_ble_eq_true rfl)) dX7_chance_3 ⟨Nat.le_of_ble_eq_true rfl, Nat.le_of_ble_eq_true rfl⟩) hS hA hP (fun r_1 H locs hw_1 hP hS => ?_)
  try dsimp only at hw_1
  rcases hw_1 with ⟨rfl, ⟨rfl, id_2, hid_2, rfl⟩ | ⟨rfl, id_2, hid_2, rfl⟩ | ⟨rfl, id_2, hid_2, rfl⟩⟩ | ⟨rfl, hw_1⟩
  · refine lv_if_eq (tgt := 23) hx hb dX7_chance_6 (by decide) (fun h => absurd h (by decide)) (fun _ => ?_)
    refine lv_aload_n hx hb dX7_chance_9 rfl (lv_at hl 0 rfl) ?_
    refine va_get (D := D) (ci := 7) (v := .ref (a 3)) (C := RX7) (T := TX7) (N := 12) hx hb hts inX7 hown hK hP 0 rfl rfl 1 (by decide) (hts _ tw_306) (fun _ h9 => h9) rfl dX7_chance_10 ?_
    refine lv_iload_n hx hb dX7_chance_13 rfl (lv_at hl 1 rfl) ?_
    refine va_aldq hx hb hK hP 1 3 rfl rfl (by unfold vp_in; decide) dX7_chance_14 ?_
    refine lv_tr (y := .ref (a 4)) rfl ?_
    refine lv_iload_n hx hb dX7_chance_15 rfl (lv_at hl 2 rfl) ?_
    refine lv_iload_n hx hb dX7_chance_16 rfl (lv_at hl 3 rfl) ?_
    refine ro_i (D := D) (va_runV (As := [.int (nI id_2), .int p2]) (rest := []) ⟨hx, hb, hml, hown, hts⟩ ((y_chanceOf l D k st lo (a 4) (a 5) (a 6) (a 7) (a 8) n0 see0 tm0 g0 ff0 id_2 p2 (by first | assumption | omega)) H.size) (cwV 2 hts (gV tw_608 tw_565 tw_566 tw_81 tw_567) rfl rfl rfl (by decide +kernel) ⟨Nat.le_of_ble_eq_true rfl, Nat.le_of_ble_eq_true rfl⟩) (pV hS hAlo hlo hP hK hDL hZ [2, 3, 4] (by decide) rfl (ci := 5) (q := (RX5, TX5, 4)) (q0 := 0) rfl rfl) rfl rfl hl.1 rfl (lv_room (Nat.le_of_ble_eq_true rfl)) dX7_chance_17 ⟨Nat.le_of_ble_eq_true rfl, Nat.le_of_ble_eq_true rfl⟩) hS hA hP (fun r_3 H locs hw_3 hP hS => ?_)
    try dsimp only at hw_3
    refine lv_goto (tgt := 26) hx hb dX7_chance_20 (by decide) ?_
    exact W.iret (v := r_3) hx hb hr (fun t ht hW => ⟨⟨r_3, (), rfl, dq_at (s := 0) (by omega) (show n0 ≤ 24 by omega) (show id_2 < n0 by omega) (show chA p2 (sdX n0 see0 tm0 g0 ff0 fp0) _ _ from hw_3.trans (xChance (by omega) (okX (hok 0 (by omega)) (by omega)))), trivial⟩, hS.F ht⟩) hS.2.2 dX7_chance_26
  · refine lv_if_eq (tgt := 23) hx hb dX7_chance_6 (by decide) (fun h => absurd h (by decide)) (fun _ => ?_)
    refine lv_aload_n hx hb dX7_chance_9 rfl (lv_at hl 0 rfl) ?_
    refine va_get (D := D) (ci := 7) (v := .ref (a 3)) (C := RX7) (T := TX7) (N := 12) hx hb hts inX7 hown hK hP 0 rfl rfl 1 (by decide) (hts _ tw_306) (fun _ h9 => h9) rfl dX7_chance_10 ?_
    refine lv_iload_n hx hb dX7_chance_13 rfl (lv_at hl 1 rfl) ?_
    refine va_aldq hx hb hK hP 1 3 rfl rfl (by unfold vp_in; decide) dX7_chance_14 ?_
    refine lv_tr (y := .ref (a 9)) rfl ?_
    refine lv_iload_n hx hb dX7_chance_15 rfl (lv_at hl 2 rfl) ?_
    refine lv_iload_n hx hb dX7_chance_16 rfl (lv_at hl 3 rfl) ?_
    refine ro_i (D := D) (va_runV (As := [.int (nI id_2), .int p2]) (rest := []) ⟨hx, hb, hml, hown, hts⟩ ((y_chanceOf l D k st lo (a 9) (a 10) (a 11) (a 12) (a 13) n1 see1 tm1 g1 ff1 id_2 p2 (by first | assumption | omega)) H.size) (cwV 2 hts (gV tw_608 tw_565 tw_566 tw_81 tw_567) rfl rfl rfl (by decide +kernel) ⟨Nat.le_of_ble_eq_true rfl, Nat.le_of_ble_eq_true rfl⟩) (pV hS hAlo hlo hP hK hDL hZ [6, 7, 8] (by decide) rfl (ci := 5) (q := (RX5, TX5, 4)) (q0 := 0) rfl rfl) rfl rfl hl.1 rfl (lv_room (Nat.le_of_ble_eq_true rfl)) dX7_chance_17 ⟨Nat.le_of_ble_eq_true rfl, Nat.le_of_ble_eq_true rfl⟩) hS hA hP (fun r_4 H locs hw_4 hP hS => ?_)
    try dsimp only at hw_4
    refine lv_goto (tgt := 26) hx hb dX7_chance_20 (by decide) ?_
    exact W.iret (v := r_4) hx hb hr (fun t ht hW => ⟨⟨r_4, (), rfl, dq_at (s := 1) (by omega) (show n1 ≤ 24 by omega) (show id_2 < n1 by omega) (show chA p2 (sdX n1 see1 tm1 g1 ff1 fp1) _ _ from hw_4.trans (xChance (by omega) (okX (hok 1 (by omega)) (by omega)))), trivial⟩, hS.F ht⟩) hS.2.2 dX7_chance_26
  · refine lv_if_eq (tgt := 23) hx hb dX7_chance_6 (by decide) (fun h => absurd h (by decide)) (fun _ => ?_)
    refine lv_aload_n hx hb dX7_chance_9 rfl (lv_at hl 0 rfl) ?_
    refine va_get (D := D) (ci := 7) (v := .ref (a 3)) (C := RX7) (T := TX7) (N := 12) hx hb hts inX7 hown hK hP 0 rfl rfl 1 (by decide) (hts _ tw_306) (fun _ h9 => h9) rfl dX7_chance_10 ?_
    refine lv_iload_n hx hb dX7_chance_13 rfl (lv_at hl 1 rfl) ?_
    refine va_aldq hx hb hK hP 1 3 rfl rfl (by unfold vp_in; decide) dX7_chance_14 ?_
    refine lv_tr (y := .ref (a 14)) rfl ?_
    refine lv_iload_n hx hb dX7_chance_15 rfl (lv_at hl 2 rfl) ?_
    refine lv_iload_n hx hb dX7_chance_16 rfl (lv_at hl 3 rfl) ?_
    refine ro_i (D := D) (va_runV (As := [.int (nI id_2), .int p2]) (rest := []) ⟨hx, hb, hml, hown, hts⟩ ((y_chanceOf l D k st lo (a 14) (a 15) (a 16) (a 17) (a 18) n2 see2 tm2 g2 ff2 id_2 p2 (by first | assumption | omega)) H.size) (cwV 2 hts (gV tw_608 tw_565 tw_566 tw_81 tw_567) rfl rfl rfl (by decide +kernel) ⟨Nat.le_of_ble_eq_true rfl, Nat.le_of_ble_eq_true rfl⟩) (pV hS hAlo hlo hP hK hDL hZ [10, 11, 12] (by decide) rfl (ci := 5) (q := (RX5, TX5, 4)) (q0 := 0) rfl rfl) rfl rfl hl.1 rfl (lv_room (Nat.le_of_ble_eq_true rfl)) dX7_chance_17 ⟨Nat.le_of_ble_eq_true rfl, Nat.le_of_ble_eq_true rfl⟩) hS hA hP (fun r_5 H locs hw_5 hP hS => ?_)
    try dsimp only at hw_5
    refine lv_goto (tgt := 26) hx hb dX7_chance_20 (by decide) ?_
    exact W.iret (v := r_5) hx hb hr (fun t ht hW => ⟨⟨r_5, (), rfl, dq_at (s := 2) (by omega) (show n2 ≤ 24 by omega) (show id_2 < n2 by omega) (show chA p2 (sdX n2 see2 tm2 g2 ff2 fp2) _ _ from hw_5.trans (xChance (by omega) (okX (hok 2 (by omega)) (by omega)))), trivial⟩, hS.F ht⟩) hS.2.2 dX7_chance_26
  · refine lv_if_eq (tgt := 23) hx hb dX7_chance_6 (by decide) (fun _ => ?_) (fun h => absurd (by decide) h)
    refine lv_sipush (v := (-1001)) hx hb dX7_chance_23 (by decide) ?_
    exact W.iret (v := (-1001)) hx hb hr (fun t ht hW => ⟨⟨(-1001), (), rfl, dq_no (fun s h1 h2 i h3 h4 => hw_1 s h1 h2 i h3 (by rw [d3_n] at h4; exact h4)), trivial⟩, hS.F ht⟩) hS.2.2 dX7_chance_26


set_option maxHeartbeats 4000000 in
set_option maxRecDepth 100000 in
theorem n_chance (l : Launch) (D : va_G) (k : Nat → ClassId) (st : Nat → Nat) (lo : Nat) (a : Nat → Nat) (tx : Nat) (t0 : Nat) (we : Nat) (rd : Nat) (ru : Nat) (rw : Nat) (ca : Nat) (fp : Int32) (wd : Int64) (nu : Int32) (na : Int32) (ts : Int32) (df : Int32) (db : Int32) (sd : Int32) (dn : Nat → Nat) (se : Nat → Nat) (tm : Nat → Nat) (gs : Nat → Int32) (ffrees : Nat → Int32) (fprices : Nat → Int32) (p0 : Int32) (p1 : Int32) (p2 : Int32) (hdn : ∀ j, dn j ≤ 24) (hse : ∀ j, se j ≤ 2) (htm : ∀ j, tm j ≤ 3) : CRi l D k st lo yX8_chance cX8_chance 4 (some .int) ({ frames := 2, cells := 0, slots := 0, locals := 47 }) [.ref (a 0), .int p0, .int p1, .int p2] [((a 0), .inr (8, (fX8 a (nI tx) fp (nI t0) wd (nI we) nu na (nI rd) ts (nI ru) (nI rw) (nI ca) df db sd))), (aI k (a 1) 3 (nF dn)), (aI k (a 4) 27 (sg se tm gs)), (aI k (a 2) 72 ffrees), (aI k (a 3) 72 fprices)] (fun r => dqP (sdM dn (sg se tm gs) ffrees fprices) p0 p1 (chA p2) r) := by
  intro sz
  refine Met.ofW (cc := cX8_chance) (maxL := 4) (ret := (some .int)) (by decide) rfl ?_
  intro p e s m args below meth c s₁ B hml hv
  obtain ⟨rfl, hsz, hlo, hP, hK, hDL, hZ⟩ := hv
  have hx := B.exec
  have hb := B.bytes
  have hr := B.returns
  have hts := WS_ts B.pre
  have hown : s.vm.findClass RX8 = some m.cls := findClass_of_methodNamed B.named
  have hlocks := B.notSynchronized
  subst hsz
  have hA : ∀ q : Nat, s.heap.size ≤ q → (fun q : Nat => s.heap.size ≤ q) q := fun _ h => h
  have hAlo : ∀ q : Nat, (fun q : Nat => s.heap.size ≤ q) q → lo ≤ q := fun q h => Nat.le_trans hlo h
  have hS : va_S (fun q : Nat => s.heap.size ≤ q) s.heap s.heap [] := va_S.rf
  have hl := lv_entry ([.ref (a 0), .int p0, .int p1, .int p2]) (n := 4) (Nat.le_of_ble_eq_true rfl)
  rw [lg_entry_eq]
  generalize (lg_sl ([.ref (a 0), .int p0, .int p1, .int p2]) ++ List.replicate (4 - (lg_sl ([.ref (a 0), .int p0, .int p1, .int p2])).length) Slot.unset).toArray = ls at hl ⊢
  have hl : lv_has ls 4 [(0, .ref (a 0)), (1, .int p0), (2, .int p1), (3, .int p2)] := hl
  refine lv_aload_n hx hb dX8_chance_0 rfl (lv_at hl 0 rfl) ?_
  refine lv_iload_n hx hb dX8_chance_1 rfl (lv_at hl 1 rfl) ?_
  refine ro_i (D := D) (va_runV (As := [.int p0]) (rest := []) ⟨hx, hb, hml, hown, hts⟩ ((n_isStreet l D k st lo a tx t0 we rd ru rw ca fp wd nu na ts df db sd dn p0 hdn) s.heap.size) (cwV 1 hts (gV tw_1189 tw_1191 tw_38 tw_87 tw_1192) rfl rfl rfl (by decide +kernel) ⟨Nat.le_of_ble_eq_true rfl, Nat.le_of_ble_eq_true rfl⟩) (pV hS hAlo hlo hP hK hDL hZ [0, 1] (by decide) rfl (ci := 8) (q := (RX8, TX8, 44)) (q0 := 0) rfl rfl) rfl rfl hl.1 rfl (lv_room (Nat.le_of_ble_eq_true rfl)) dX8_chance_2 ⟨Nat.le_of_ble_eq_true rfl, Nat.le_of_ble_eq_true rfl⟩) hS hA hP (fun r_1 H locs hw_1 hP hS => ?_)
  try dsimp only at hw_1
  rcases hw_1 with ⟨rfl, j_2, hj_2, rfl, hw_1⟩ | ⟨rfl, hw_1⟩
  · have hdj_2 := hdn j_2
    have htj_2 := htm j_2
    refine lv_if_eq (tgt := 27) hx hb dX8_chance_5 (by decide) (fun h => absurd h (by decide)) (fun _ => ?_)
    refine lv_aload_n hx hb dX8_chance_8 rfl (lv_at hl 0 rfl) ?_
    refine lv_iload_n hx hb dX8_chance_9 rfl (lv_at hl 1 rfl) ?_
    refine lv_iload_n hx hb dX8_chance_10 rfl (lv_at hl 2 rfl) ?_
    refine ro_i (D := D) (va_runV (As := [.int (nI j_2), .int p1]) (rest := []) ⟨hx, hb, hml, hown, hts⟩ ((n_isDoor l D k st lo a tx t0 we rd ru rw ca fp wd nu na ts df db sd dn j_2 p1 hdn (by first | assumption | omega)) H.size) (cwV 2 hts (gV tw_1202 tw_1204 tw_40 tw_87 tw_1205) rfl rfl rfl (by decide +kernel) ⟨Nat.le_of_ble_eq_true rfl, Nat.le_of_ble_eq_true rfl⟩) (pV hS hAlo hlo hP hK hDL hZ [0, 1] (by decide) rfl (ci := 8) (q := (RX8, TX8, 44)) (q0 := 0) rfl rfl) rfl rfl hl.1 rfl (lv_room (Nat.le_of_ble_eq_true rfl)) dX8_chance_11 ⟨Nat.le_of_ble_eq_true rfl, Nat.le_of_ble_eq_true rfl⟩) hS hA hP (fun r_3 H locs hw_3 hP hS => ?_)
    try dsimp only at hw_3
    rcases hw_3 with ⟨rfl, j_4, hj_4, rfl, hw_3⟩ | ⟨rfl, hw_3⟩
    · refine lv_if_eq (tgt := 27) hx hb dX8_chance_14 (by decide) (fun h => absurd h (by decide)) (fun _ => ?_)
      refine lv_aload_n hx hb dX8_chance_17 rfl (lv_at hl 0 rfl) ?_
      refine lv_iload_n hx hb dX8_chance_18 rfl (lv_at hl 1 rfl) ?_
      refine lv_iload_n hx hb dX8_chance_19 rfl (lv_at hl 2 rfl) ?_
      refine lv_iload_n hx hb dX8_chance_20 rfl (lv_at hl 3 rfl) ?_
      refine ro_i (D := D) (va_runV (As := [.int (nI j_2), .int (nI j_4), .int p2]) (rest := []) ⟨hx, hb, hml, hown, hts⟩ ((n_chanceOf l D k st lo a tx t0 we rd ru rw ca fp wd nu na ts df db sd ffrees se tm gs j_2 j_4 p2 (by first | assumption | omega) (by first | assumption | omega)) H.size) (cwV 3 hts (gV tw_1210 tw_1212 tw_41 tw_87 tw_1213) rfl rfl rfl (by decide +kernel) ⟨Nat.le_of_ble_eq_true rfl, Nat.le_of_ble_eq_true rfl⟩) (pV hS hAlo hlo hP hK hDL hZ [0, 3, 2] (by decide) rfl (ci := 8) (q := (RX8, TX8, 44)) (q0 := 0) rfl rfl) rfl rfl hl.1 rfl (lv_room (Nat.le_of_ble_eq_true rfl)) dX8_chance_21 ⟨Nat.le_of_ble_eq_true rfl, Nat.le_of_ble_eq_true rfl⟩) hS hA hP (fun r_5 H locs hw_5 hP hS => ?_)
      try dsimp only at hw_5
      refine lv_goto (tgt := 30) hx hb dX8_chance_24 (by decide) ?_
      exact W.iret (v := r_5) hx hb hr (fun t ht hW => ⟨⟨r_5, (), rfl, dq_at (s := j_2) (by omega) (show dn j_2 ≤ 24 by omega) (show j_4 < dn j_2 by omega) (hw_5.trans (mChance (by omega))), trivial⟩, hS.F ht⟩) hS.2.2 dX8_chance_30
    · refine lv_if_eq (tgt := 27) hx hb dX8_chance_14 (by decide) (fun _ => ?_) (fun h => absurd (by decide) h)
      refine lv_sipush (v := (-1001)) hx hb dX8_chance_27 (by decide) ?_
      exact W.iret (v := (-1001)) hx hb hr (fun t ht hW => ⟨⟨(-1001), (), rfl, dq_no (fun s h1 h2 i h3 h4 => by have h9 := nI_inj (by omega) (by omega) h2; subst h9; exact hw_3 i h3 h4), trivial⟩, hS.F ht⟩) hS.2.2 dX8_chance_30
  · refine lv_if_eq (tgt := 27) hx hb dX8_chance_5 (by decide) (fun _ => ?_) (fun h => absurd (by decide) h)
    refine lv_sipush (v := (-1001)) hx hb dX8_chance_27 (by decide) ?_
    exact W.iret (v := (-1001)) hx hb hr (fun t ht hW => ⟨⟨(-1001), (), rfl, dq_no (fun s h1 h2 i h3 h4 => hw_1 s h1 h2 (by show 0 < dn s; replace h4 : i < dn s := h4; omega)), trivial⟩, hS.F ht⟩) hS.2.2 dX8_chance_30


set_option maxHeartbeats 4000000 in
set_option maxRecDepth 100000 in
theorem y_isRound_0 (l : Launch) (D : va_G) (k : Nat → ClassId) (st : Nat → Nat) (lo : Nat) (a : Nat → Nat) (rk : Nat) (lfa : Int32) (n0 : Nat) (see0 : Nat) (tm0 : Nat) (g0 : Nat → Int32) (p1 : Int32) (htm0 : tm0 ≤ 3) : CRi l D k st lo yX7_isRound cX7_isRound 3 (some .boolean) ({ frames := 1, cells := 0, slots := 0, locals := 22 }) [.ref (a 0), .int 0, .int p1] [((a 0), .inr (7, (fX7 (a 1) (a 3) (a 19) (a 35) (a 40) (nI rk) lfa (a 53) (a 56) (a 63) (a 64) (a 68)))), ((a 3), .inl (k 3, 3, .inr (.inr (.inr (.inr (a3 (a 4) (a 9) (a 14))))))), ((a 4), .inr (5, (fX5 (a 5) (a 6) (a 7) (a 8)))), (aI k (a 5) 10 (vv n0 see0 tm0 g0))] (fun r => (r = 1 ∧ ∃ q : Nat, q ≤ tm0 ∧ p1 = nI q) ∨ (r = 0 ∧ ¬ inB p1 0 (nI tm0))) := by
  intro sz
  refine Met.ofW (cc := cX7_isRound) (maxL := 3) (ret := (some .boolean)) (by decide) rfl ?_
  intro p e s m args below meth c s₁ B hml hv
  obtain ⟨rfl, hsz, hlo, hP, hK, hDL, hZ⟩ := hv
  have hx := B.exec
  have hb := B.bytes
  have hr := B.returns
  have hts := WS_ts B.pre
  have hown : s.vm.findClass RX7 = some m.cls := findClass_of_methodNamed B.named
  have hlocks := B.notSynchronized
  subst hsz
  have hA : ∀ q : Nat, s.heap.size ≤ q → (fun q : Nat => s.heap.size ≤ q) q := fun _ h => h
  have hAlo : ∀ q : Nat, (fun q : Nat => s.heap.size ≤ q) q → lo ≤ q := fun q h => Nat.le_trans hlo h
  have hS : va_S (fun q : Nat => s.heap.size ≤ q) s.heap s.heap [] := va_S.rf
  have hl := lv_entry ([.ref (a 0), .int 0, .int p1]) (n := 3) (Nat.le_of_ble_eq_true rfl)
  rw [lg_entry_eq]
  generalize (lg_sl ([.ref (a 0), .int 0, .int p1]) ++ List.replicate (3 - (lg_sl ([.ref (a 0), .int 0, .int p1])).length) Slot.unset).toArray = ls at hl ⊢
  have hl : lv_has ls 3 [(0, .ref (a 0)), (1, .int 0), (2, .int p1)] := hl
  refine lv_iload_n hx hb dX7_isRound_0 rfl (lv_at hl 2 rfl) ?_
  refine lv_iconst (v := 0) hx hb dX7_isRound_1 (by decide) ?_
  refine lv_aload_n hx hb dX7_isRound_2 rfl (lv_at hl 0 rfl) ?_
  refine va_get (D := D) (ci := 7) (v := .ref (a 3)) (C := RX7) (T := TX7) (N := 12) hx hb hts inX7 hown hK hP 0 rfl rfl 1 (by decide) (hts _ tw_306) (fun _ h9 => h9) rfl dX7_isRound_3 ?_
  refine lv_iload_n hx hb dX7_isRound_6 rfl (lv_at hl 1 rfl) ?_
  refine va_aldq hx hb hK hP 1 3 rfl rfl (by unfold vp_in; decide) dX7_isRound_7 ?_
  refine lv_tr (y := .ref (a 4)) rfl ?_
  refine va_get (D := D) (ci := 5) (v := .ref (a 5)) (C := RX5) (T := TX5) (N := 4) hx hb hts inX5 hown hK hP 2 rfl rfl 0 (by decide) (hts _ tw_149) (fun _ h9 => h9) rfl dX7_isRound_8 ?_
  refine lv_bipush (v := 8) hx hb dX7_isRound_11 (by decide) ?_
  refine va_iald hx hb hK hP 3 1 rfl rfl (by unfold vp_in; decide) dX7_isRound_13 ?_
  refine lv_ti (y := (nI tm0)) (by rfl) ?_
  refine ro_i (D := D) (va_runS (As := [.int p1, .int 0, .int (nI tm0)]) (rest := []) ⟨hx, hb, hml, hown, hts⟩ ((k_isIn l D k st lo p1 0 (nI tm0)) s.heap.size) (va_cwS 3 hts (gS tw_593 tw_594 tw_79 tw_595) rfl rfl rfl (by decide +kernel) ⟨Nat.le_of_ble_eq_true rfl, Nat.le_of_ble_eq_true rfl⟩) (pS hS hAlo hlo hP hK hDL hZ [] (by decide) rfl) rfl rfl hl.1 rfl (lv_room (Nat.le_of_ble_eq_true rfl)) dX7_isRound_14 ⟨Nat.le_of_ble_eq_true rfl, Nat.le_of_ble_eq_true rfl⟩) hS hA hP (fun r_1 H locs hw_1 hP hS => ?_)
  try dsimp only at hw_1
  rcases hw_1 with ⟨rfl, hw_1⟩ | ⟨rfl, hw_1⟩
  · exact W.zret (v := 1) (ty := .boolean) hx hb hr rfl (fun t ht hW => ⟨⟨1, (), rfl, .inl ⟨rfl, (by obtain ⟨j, hj, e⟩ := inB_of (by omega) hw_1; exact ⟨j, hj, e⟩)⟩, trivial⟩, hS.F ht⟩) hS.2.2 dX7_isRound_17
  · exact W.zret (v := 0) (ty := .boolean) hx hb hr rfl (fun t ht hW => ⟨⟨0, (), rfl, .inr ⟨rfl, hw_1⟩, trivial⟩, hS.F ht⟩) hS.2.2 dX7_isRound_17


set_option maxHeartbeats 4000000 in
set_option maxRecDepth 100000 in
theorem y_isRound_1 (l : Launch) (D : va_G) (k : Nat → ClassId) (st : Nat → Nat) (lo : Nat) (a : Nat → Nat) (rk : Nat) (lfa : Int32) (n1 : Nat) (see1 : Nat) (tm1 : Nat) (g1 : Nat → Int32) (p1 : Int32) (htm1 : tm1 ≤ 3) : CRi l D k st lo yX7_isRound cX7_isRound 3 (some .boolean) ({ frames := 1, cells := 0, slots := 0, locals := 22 }) [.ref (a 0), .int 1, .int p1] [((a 0), .inr (7, (fX7 (a 1) (a 3) (a 19) (a 35) (a 40) (nI rk) lfa (a 53) (a 56) (a 63) (a 64) (a 68)))), ((a 3), .inl (k 3, 3, .inr (.inr (.inr (.inr (a3 (a 4) (a 9) (a 14))))))), ((a 9), .inr (5, (fX5 (a 10) (a 11) (a 12) (a 13)))), (aI k (a 10) 10 (vv n1 see1 tm1 g1))] (fun r => (r = 1 ∧ ∃ q : Nat, q ≤ tm1 ∧ p1 = nI q) ∨ (r = 0 ∧ ¬ inB p1 0 (nI tm1))) := by
  intro sz
  refine Met.ofW (cc := cX7_isRound) (maxL := 3) (ret := (some .boolean)) (by decide) rfl ?_
  intro p e s m args below meth c s₁ B hml hv
  obtain ⟨rfl, hsz, hlo, hP, hK, hDL, hZ⟩ := hv
  have hx := B.exec
  have hb := B.bytes
  have hr := B.returns
  have hts := WS_ts B.pre
  have hown : s.vm.findClass RX7 = some m.cls := findClass_of_methodNamed B.named
  have hlocks := B.notSynchronized
  subst hsz
  have hA : ∀ q : Nat, s.heap.size ≤ q → (fun q : Nat => s.heap.size ≤ q) q := fun _ h => h
  have hAlo : ∀ q : Nat, (fun q : Nat => s.heap.size ≤ q) q → lo ≤ q := fun q h => Nat.le_trans hlo h
  have hS : va_S (fun q : Nat => s.heap.size ≤ q) s.heap s.heap [] := va_S.rf
  have hl := lv_entry ([.ref (a 0), .int 1, .int p1]) (n := 3) (Nat.le_of_ble_eq_true rfl)
  rw [lg_entry_eq]
  generalize (lg_sl ([.ref (a 0), .int 1, .int p1]) ++ List.replicate (3 - (lg_sl ([.ref (a 0), .int 1, .int p1])).length) Slot.unset).toArray = ls at hl ⊢
  have hl : lv_has ls 3 [(0, .ref (a 0)), (1, .int 1), (2, .int p1)] := hl
  refine lv_iload_n hx hb dX7_isRound_0 rfl (lv_at hl 2 rfl) ?_
  refine lv_iconst (v := 0) hx hb dX7_isRound_1 (by decide) ?_
  refine lv_aload_n hx hb dX7_isRound_2 rfl (lv_at hl 0 rfl) ?_
  refine va_get (D := D) (ci := 7) (v := .ref (a 3)) (C := RX7) (T := TX7) (N := 12) hx hb hts inX7 hown hK hP 0 rfl rfl 1 (by decide) (hts _ tw_306) (fun _ h9 => h9) rfl dX7_isRound_3 ?_
  refine lv_iload_n hx hb dX7_isRound_6 rfl (lv_at hl 1 rfl) ?_
  refine va_aldq hx hb hK hP 1 3 rfl rfl (by unfold vp_in; decide) dX7_isRound_7 ?_
  refine lv_tr (y := .ref (a 9)) rfl ?_
  refine va_get (D := D) (ci := 5) (v := .ref (a 10)) (C := RX5) (T := TX5) (N := 4) hx hb hts inX5 hown hK hP 2 rfl rfl 0 (by decide) (hts _ tw_149) (fun _ h9 => h9) rfl dX7_isRound_8 ?_
  refine lv_bipush (v := 8) hx hb dX7_isRound_11 (by decide) ?_
  refine va_iald hx hb hK hP 3 1 rfl rfl (by unfold vp_in; decide) dX7_isRound_13 ?_
  refine lv_ti (y := (nI tm1)) (by rfl) ?_
  refine ro_i (D := D) (va_runS (As := [.int p1, .int 0, .int (nI tm1)]) (rest := []) ⟨hx, hb, hml, hown, hts⟩ ((k_isIn l D k st lo p1 0 (nI tm1)) s.heap.size) (va_cwS 3 hts (gS tw_593 tw_594 tw_79 tw_595) rfl rfl rfl (by decide +kernel) ⟨Nat.le_of_ble_eq_true rfl, Nat.le_of_ble_eq_true rfl⟩) (pS hS hAlo hlo hP hK hDL hZ [] (by decide) rfl) rfl rfl hl.1 rfl (lv_room (Nat.le_of_ble_eq_true rfl)) dX7_isRound_14 ⟨Nat.le_of_ble_eq_true rfl, Nat.le_of_ble_eq_true rfl⟩) hS hA hP (fun r_1 H locs hw_1 hP hS => ?_)
  try dsimp only at hw_1
  rcases hw_1 with ⟨rfl, hw_1⟩ | ⟨rfl, hw_1⟩
  · exact W.zret (v := 1) (ty := .boolean) hx hb hr rfl (fun t ht hW => ⟨⟨1, (), rfl, .inl ⟨rfl, (by obtain ⟨j, hj, e⟩ := inB_of (by omega) hw_1; exact ⟨j, hj, e⟩)⟩, trivial⟩, hS.F ht⟩) hS.2.2 dX7_isRound_17
  · exact W.zret (v := 0) (ty := .boolean) hx hb hr rfl (fun t ht hW => ⟨⟨0, (), rfl, .inr ⟨rfl, hw_1⟩, trivial⟩, hS.F ht⟩) hS.2.2 dX7_isRound_17


set_option maxHeartbeats 4000000 in
set_option maxRecDepth 100000 in
theorem y_isRound_2 (l : Launch) (D : va_G) (k : Nat → ClassId) (st : Nat → Nat) (lo : Nat) (a : Nat → Nat) (rk : Nat) (lfa : Int32) (n2 : Nat) (see2 : Nat) (tm2 : Nat) (g2 : Nat → Int32) (p1 : Int32) (htm2 : tm2 ≤ 3) : CRi l D k st lo yX7_isRound cX7_isRound 3 (some .boolean) ({ frames := 1, cells := 0, slots := 0, locals := 22 }) [.ref (a 0), .int 2, .int p1] [((a 0), .inr (7, (fX7 (a 1) (a 3) (a 19) (a 35) (a 40) (nI rk) lfa (a 53) (a 56) (a 63) (a 64) (a 68)))), ((a 3), .inl (k 3, 3, .inr (.inr (.inr (.inr (a3 (a 4) (a 9) (a 14))))))), ((a 14), .inr (5, (fX5 (a 15) (a 16) (a 17) (a 18)))), (aI k (a 15) 10 (vv n2 see2 tm2 g2))] (fun r => (r = 1 ∧ ∃ q : Nat, q ≤ tm2 ∧ p1 = nI q) ∨ (r = 0 ∧ ¬ inB p1 0 (nI tm2))) := by
  intro sz
  refine Met.ofW (cc := cX7_isRound) (maxL := 3) (ret := (some .boolean)) (by decide) rfl ?_
  intro p e s m args below meth c s₁ B hml hv
  obtain ⟨rfl, hsz, hlo, hP, hK, hDL, hZ⟩ := hv
  have hx := B.exec
  have hb := B.bytes
  have hr := B.returns
  have hts := WS_ts B.pre
  have hown : s.vm.findClass RX7 = some m.cls := findClass_of_methodNamed B.named
  have hlocks := B.notSynchronized
  subst hsz
  have hA : ∀ q : Nat, s.heap.size ≤ q → (fun q : Nat => s.heap.size ≤ q) q := fun _ h => h
  have hAlo : ∀ q : Nat, (fun q : Nat => s.heap.size ≤ q) q → lo ≤ q := fun q h => Nat.le_trans hlo h
  have hS : va_S (fun q : Nat => s.heap.size ≤ q) s.heap s.heap [] := va_S.rf
  have hl := lv_entry ([.ref (a 0), .int 2, .int p1]) (n := 3) (Nat.le_of_ble_eq_true rfl)
  rw [lg_entry_eq]
  generalize (lg_sl ([.ref (a 0), .int 2, .int p1]) ++ List.replicate (3 - (lg_sl ([.ref (a 0), .int 2, .int p1])).length) Slot.unset).toArray = ls at hl ⊢
  have hl : lv_has ls 3 [(0, .ref (a 0)), (1, .int 2), (2, .int p1)] := hl
  refine lv_iload_n hx hb dX7_isRound_0 rfl (lv_at hl 2 rfl) ?_
  refine lv_iconst (v := 0) hx hb dX7_isRound_1 (by decide) ?_
  refine lv_aload_n hx hb dX7_isRound_2 rfl (lv_at hl 0 rfl) ?_
  refine va_get (D := D) (ci := 7) (v := .ref (a 3)) (C := RX7) (T := TX7) (N := 12) hx hb hts inX7 hown hK hP 0 rfl rfl 1 (by decide) (hts _ tw_306) (fun _ h9 => h9) rfl dX7_isRound_3 ?_
  refine lv_iload_n hx hb dX7_isRound_6 rfl (lv_at hl 1 rfl) ?_
  refine va_aldq hx hb hK hP 1 3 rfl rfl (by unfold vp_in; decide) dX7_isRound_7 ?_
  refine lv_tr (y := .ref (a 14)) rfl ?_
  refine va_get (D := D) (ci := 5) (v := .ref (a 15)) (C := RX5) (T := TX5) (N := 4) hx hb hts inX5 hown hK hP 2 rfl rfl 0 (by decide) (hts _ tw_149) (fun _ h9 => h9) rfl dX7_isRound_8 ?_
  refine lv_bipush (v := 8) hx hb dX7_isRound_11 (by decide) ?_
  refine va_iald hx hb hK hP 3 1 rfl rfl (by unfold vp_in; decide) dX7_isRound_13 ?_
  refine lv_ti (y := (nI tm2)) (by rfl) ?_
  refine ro_i (D := D) (va_runS (As := [.int p1, .int 0, .int (nI tm2)]) (rest := []) ⟨hx, hb, hml, hown, hts⟩ ((k_isIn l D k st lo p1 0 (nI tm2)) s.heap.size) (va_cwS 3 hts (gS tw_593 tw_594 tw_79 tw_595) rfl rfl rfl (by decide +kernel) ⟨Nat.le_of_ble_eq_true rfl, Nat.le_of_ble_eq_true rfl⟩) (pS hS hAlo hlo hP hK hDL hZ [] (by decide) rfl) rfl rfl hl.1 rfl (lv_room (Nat.le_of_ble_eq_true rfl)) dX7_isRound_14 ⟨Nat.le_of_ble_eq_true rfl, Nat.le_of_ble_eq_true rfl⟩) hS hA hP (fun r_1 H locs hw_1 hP hS => ?_)
  try dsimp only at hw_1
  rcases hw_1 with ⟨rfl, hw_1⟩ | ⟨rfl, hw_1⟩
  · exact W.zret (v := 1) (ty := .boolean) hx hb hr rfl (fun t ht hW => ⟨⟨1, (), rfl, .inl ⟨rfl, (by obtain ⟨j, hj, e⟩ := inB_of (by omega) hw_1; exact ⟨j, hj, e⟩)⟩, trivial⟩, hS.F ht⟩) hS.2.2 dX7_isRound_17
  · exact W.zret (v := 0) (ty := .boolean) hx hb hr rfl (fun t ht hW => ⟨⟨0, (), rfl, .inr ⟨rfl, hw_1⟩, trivial⟩, hS.F ht⟩) hS.2.2 dX7_isRound_17


set_option maxHeartbeats 4000000 in
set_option maxRecDepth 100000 in
theorem n_isRound (l : Launch) (D : va_G) (k : Nat → ClassId) (st : Nat → Nat) (lo : Nat) (a : Nat → Nat) (tx : Nat) (t0 : Nat) (we : Nat) (rd : Nat) (ru : Nat) (rw : Nat) (ca : Nat) (fp : Int32) (wd : Int64) (nu : Int32) (na : Int32) (ts : Int32) (df : Int32) (db : Int32) (sd : Int32) (se : Nat → Nat) (tm : Nat → Nat) (gs : Nat → Int32) (sn : Nat) (pz : Int32) (htm : ∀ j, tm j ≤ 3) (hs : sn < 3) : CRi l D k st lo yX8_isRound cX8_isRound 3 (some .boolean) ({ frames := 1, cells := 0, slots := 0, locals := 25 }) [.ref (a 0), .int (nI sn), .int pz] [((a 0), .inr (8, (fX8 a (nI tx) fp (nI t0) wd (nI we) nu na (nI rd) ts (nI ru) (nI rw) (nI ca) df db sd))), (aI k (a 4) 27 (sg se tm gs))] (fun r => (r = 1 ∧ ∃ j : Nat, j ≤ tm sn ∧ pz = nI j ∧ True) ∨ (r = 0 ∧ ¬ inB pz 0 (nI (tm sn)))) := by
  intro sz
  refine Met.ofW (cc := cX8_isRound) (maxL := 3) (ret := (some .boolean)) (by decide) rfl ?_
  intro p e s m args below meth c s₁ B hml hv
  obtain ⟨rfl, hsz, hlo, hP, hK, hDL, hZ⟩ := hv
  have hx := B.exec
  have hb := B.bytes
  have hr := B.returns
  have hts := WS_ts B.pre
  have hown : s.vm.findClass RX8 = some m.cls := findClass_of_methodNamed B.named
  have hlocks := B.notSynchronized
  subst hsz
  have hA : ∀ q : Nat, s.heap.size ≤ q → (fun q : Nat => s.heap.size ≤ q) q := fun _ h => h
  have hAlo : ∀ q : Nat, (fun q : Nat => s.heap.size ≤ q) q → lo ≤ q := fun q h => Nat.le_trans hlo h
  have hS : va_S (fun q : Nat => s.heap.size ≤ q) s.heap s.heap [] := va_S.rf
  have hl := lv_entry ([.ref (a 0), .int (nI sn), .int pz]) (n := 3) (Nat.le_of_ble_eq_true rfl)
  rw [lg_entry_eq]
  generalize (lg_sl ([.ref (a 0), .int (nI sn), .int pz]) ++ List.replicate (3 - (lg_sl ([.ref (a 0), .int (nI sn), .int pz])).length) Slot.unset).toArray = ls at hl ⊢
  have hl : lv_has ls 3 [(0, .ref (a 0)), (1, .int (nI sn)), (2, .int pz)] := hl
  have hd_9 := htm sn
  refine lv_iload_n hx hb dX8_isRound_0 rfl (lv_at hl 2 rfl) ?_
  refine lv_i2l (v := pz.toInt64) hx hb dX8_isRound_1 rfl ?_
  refine lv_lconst (v := (0 : Int32).toInt64) hx hb dX8_isRound_2 (by decide) ?_
  refine lv_aload_n hx hb dX8_isRound_3 rfl (lv_at hl 0 rfl) ?_
  refine lv_iload_n hx hb dX8_isRound_4 rfl (lv_at hl 1 rfl) ?_
  refine lv_bipush (v := 7) hx hb dX8_isRound_5 (by decide) ?_
  refine ro_i (D := D) (va_runV (As := [.int (nI sn), .int 7]) (rest := [.long ((0 : Int32).toInt64), .long (pz.toInt64)]) ⟨hx, hb, hml, hown, hts⟩ ((m_of l D k st lo a tx t0 we rd ru rw ca fp wd nu na ts df db sd se tm gs sn 7 (by first | assumption | omega) (by first | assumption | omega)) s.heap.size) (cwV 2 hts (gV tw_1194 tw_1196 tw_39 tw_87 tw_1197) rfl rfl rfl (by decide +kernel) ⟨Nat.le_of_ble_eq_true rfl, Nat.le_of_ble_eq_true rfl⟩) (pV hS hAlo hlo hP hK hDL hZ [0, 1] (by decide) rfl (ci := 8) (q := (RX8, TX8, 44)) (q0 := 0) rfl rfl) rfl rfl hl.1 rfl (lv_room (Nat.le_of_ble_eq_true rfl)) dX8_isRound_7 ⟨Nat.le_of_ble_eq_true rfl, Nat.le_of_ble_eq_true rfl⟩) hS hA hP (fun r_1 H locs hw_1 hP hS => ?_)
  try dsimp only at hw_1
  obtain rfl := hw_1.trans (sg_tm _ _ _ _)
  refine lv_i2l (v := (nI (tm sn)).toInt64) hx hb dX8_isRound_10 rfl ?_
  refine ro_i (D := D) (va_runS (As := [.long (pz.toInt64), .long ((0 : Int32).toInt64), .long ((nI (tm sn)).toInt64)]) (rest := []) ⟨hx, hb, hml, hown, hts⟩ ((k_in l D k st lo pz (0 : Int32) (nI (tm sn))) H.size) (va_cwS 3 hts (gS tw_1111 tw_1112 tw_87 tw_1113) rfl rfl rfl (by decide +kernel) ⟨Nat.le_of_ble_eq_true rfl, Nat.le_of_ble_eq_true rfl⟩) (pS hS hAlo hlo hP hK hDL hZ [] (by decide) rfl) rfl rfl hl.1 rfl (lv_room (Nat.le_of_ble_eq_true rfl)) dX8_isRound_11 ⟨Nat.le_of_ble_eq_true rfl, Nat.le_of_ble_eq_true rfl⟩) hS hA hP (fun r_2 H locs hw_2 hP hS => ?_)
  try dsimp only at hw_2
  rcases hw_2 with ⟨rfl, hw_2⟩ | ⟨rfl, hw_2⟩
  · exact W.zret (v := 1) (ty := .boolean) hx hb hr rfl (fun t ht hW => ⟨⟨1, (), rfl, .inl ⟨rfl, (by obtain ⟨j, hj, e⟩ := inB_of (by omega) hw_2; exact ⟨j, hj, e, trivial⟩)⟩, trivial⟩, hS.F ht⟩) hS.2.2 dX8_isRound_14
  · exact W.zret (v := 0) (ty := .boolean) hx hb hr rfl (fun t ht hW => ⟨⟨0, (), rfl, .inr ⟨rfl, hw_2⟩, trivial⟩, hS.F ht⟩) hS.2.2 dX8_isRound_14


set_option maxHeartbeats 4000000 in
set_option maxRecDepth 100000 in
theorem y_taking (l : Launch) (D : va_G) (k : Nat → ClassId) (st : Nat → Nat) (lo : Nat) (a : Nat → Nat) (rk : Nat) (lfa : Int32) (n0 : Nat) (see0 : Nat) (tm0 : Nat) (g0 : Nat → Int32) (ff0 : Nat → Int32) (fp0 : Nat → Int32) (fl0 : Nat → Int32) (n1 : Nat) (see1 : Nat) (tm1 : Nat) (g1 : Nat → Int32) (ff1 : Nat → Int32) (fp1 : Nat → Int32) (fl1 : Nat → Int32) (n2 : Nat) (see2 : Nat) (tm2 : Nat) (g2 : Nat → Int32) (ff2 : Nat → Int32) (fp2 : Nat → Int32) (fl2 : Nat → Int32) (p0 : Int32) (p1 : Int32) (p2 : Int32) (hn0 : n0 ≤ 24) (hse0 : see0 ≤ 2) (htm0 : tm0 ≤ 3) (hn1 : n1 ≤ 24) (hse1 : see1 ≤ 2) (htm1 : tm1 ≤ 3) (hn2 : n2 ≤ 24) (hse2 : see2 ≤ 2) (htm2 : tm2 ≤ 3) (hlt : ltP (d3 fl0 fl1 fl2) (d3 (sdX n0 see0 tm0 g0 ff0 fp0) (sdX n1 see1 tm1 g1 ff1 fp1) (sdX n2 see2 tm2 g2 ff2 fp2))) : CRi l D k st lo yX7_taking cX7_taking 4 (some .int) ({ frames := 3, cells := 0, slots := 0, locals := 63 }) [.ref (a 0), .int p0, .int p1, .int p2] [((a 0), .inr (7, (fX7 (a 1) (a 3) (a 19) (a 35) (a 40) (nI rk) lfa (a 53) (a 56) (a 63) (a 64) (a 68)))), ((a 3), .inl (k 3, 3, .inr (.inr (.inr (.inr (a3 (a 4) (a 9) (a 14))))))), ((a 4), .inr (5, (fX5 (a 5) (a 6) (a 7) (a 8)))), (aI k (a 5) 10 (vv n0 see0 tm0 g0)), (aI k (a 6) 24 ff0), (aI k (a 7) 24 fp0), (aI k (a 8) 4 fl0), ((a 9), .inr (5, (fX5 (a 10) (a 11) (a 12) (a 13)))), (aI k (a 10) 10 (vv n1 see1 tm1 g1)), (aI k (a 11) 24 ff1), (aI k (a 12) 24 fp1), (aI k (a 13) 4 fl1), ((a 14), .inr (5, (fX5 (a 15) (a 16) (a 17) (a 18)))), (aI k (a 15) 10 (vv n2 see2 tm2 g2)), (aI k (a 16) 24 ff2), (aI k (a 17) 24 fp2), (aI k (a 18) 4 fl2)] (fun r => dqP (d3 (sdX n0 see0 tm0 g0 ff0 fp0) (sdX n1 see1 tm1 g1 ff1 fp1) (sdX n2 see2 tm2 g2 ff2 fp2)) p0 p2 (tkA p1) r) := by
  intro sz
  refine Met.ofW (cc := cX7_taking) (maxL := 4) (ret := (some .int)) (by decide) rfl ?_
  intro p e s m args below meth c s₁ B hml hv
  obtain ⟨rfl, hsz, hlo, hP, hK, hDL, hZ⟩ := hv
  have hx := B.exec
  have hb := B.bytes
  have hr := B.returns
  have hts := WS_ts B.pre
  have hown : s.vm.findClass RX7 = some m.cls := findClass_of_methodNamed B.named
  have hlocks := B.notSynchronized
  subst hsz
  have hA : ∀ q : Nat, s.heap.size ≤ q → (fun q : Nat => s.heap.size ≤ q) q := fun _ h => h
  have hAlo : ∀ q : Nat, (fun q : Nat => s.heap.size ≤ q) q → lo ≤ q := fun q h => Nat.le_trans hlo h
  have hS : va_S (fun q : Nat => s.heap.size ≤ q) s.heap s.heap [] := va_S.rf
  have hl := lv_entry ([.ref (a 0), .int p0, .int p1, .int p2]) (n := 4) (Nat.le_of_ble_eq_true rfl)
  rw [lg_entry_eq]
  generalize (lg_sl ([.ref (a 0), .int p0, .int p1, .int p2]) ++ List.replicate (4 - (lg_sl ([.ref (a 0), .int p0, .int p1, .int p2])).length) Slot.unset).toArray = ls at hl ⊢
  have hl : lv_has ls 4 [(0, .ref (a 0)), (1, .int p0), (2, .int p1), (3, .int p2)] := hl
  refine lv_aload_n hx hb dX7_taking_0 rfl (lv_at hl 0 rfl) ?_
  refine lv_iload_n hx hb dX7_taking_1 rfl (lv_at hl 1 rfl) ?_
  refine lv_iload_n hx hb dX7_taking_2 rfl (lv_at hl 3 rfl) ?_
  refine ro_i (D := D) (va_runV (As := [.int p0, .int p2]) (rest := []) ⟨hx, hb, hml, hown, hts⟩ ((y_isDoor l D k st lo a rk lfa n0 see0 tm0 g0 n1 see1 tm1 g1 n2 see2 tm2 g2 p0 p2 (by first | assumption | omega) (by first | assumption | omega) (by first | assumption | omega)) s.heap.size) (cwV 2 hts (gV tw_600 tw_602 tw_9 tw_79 tw_603) rfl rfl rfl (by decide +kernel) ⟨Nat.le_of_ble_eq_true rfl, Nat.le_of_ble_eq_true rfl⟩) (pV hS hAlo hlo hP hK hDL hZ [0, 1, 2, 3, 7, 8, 12, 13] (by decide) rfl (ci := 7) (q := (RX7, TX7, 12)) (q0 := 0) rfl rfl) rfl rfl hl.1 rfl (lv_room (Nat.le_of_ble_eq_true rfl)) dX7_taking_3 ⟨Nat.le_of_ble_eq_true rfl, Nat.le_of_ble_eq_true rfl⟩) hS hA hP (fun r_1 H locs hw_1 hP hS => ?_)
  try dsimp only at hw_1
  rcases hw_1 with ⟨rfl, ⟨rfl, id_2, hid_2, rfl⟩ | ⟨rfl, id_2, hid_2, rfl⟩ | ⟨rfl, id_2, hid_2, rfl⟩⟩ | ⟨rfl, hw_1⟩
  · refine lv_if_ne (tgt := 13) hx hb dX7_taking_6 (by decide) (fun _ => ?_) (fun h => absurd h (by decide))
    refine lv_aload_n hx hb dX7_taking_13 rfl (lv_at hl 0 rfl) ?_
    refine lv_iload_n hx hb dX7_taking_14 rfl (lv_at hl 1 rfl) ?_
    refine lv_iload_n hx hb dX7_taking_15 rfl (lv_at hl 2 rfl) ?_
    refine ro_i (D := D) (va_runV (As := [.int 0, .int p1]) (rest := []) ⟨hx, hb, hml, hown, hts⟩ ((y_isRound_0 l D k st lo a rk lfa n0 see0 tm0 g0 p1 (by first | assumption | omega)) H.size) (cwV 2 hts (gV tw_613 tw_615 tw_10 tw_79 tw_616) rfl rfl rfl (by decide +kernel) ⟨Nat.le_of_ble_eq_true rfl, Nat.le_of_ble_eq_true rfl⟩) (pV hS hAlo hlo hP hK hDL hZ [0, 1, 2, 3] (by decide) rfl (ci := 7) (q := (RX7, TX7, 12)) (q0 := 0) rfl rfl) rfl rfl hl.1 rfl (lv_room (Nat.le_of_ble_eq_true rfl)) dX7_taking_16 ⟨Nat.le_of_ble_eq_true rfl, Nat.le_of_ble_eq_true rfl⟩) hS hA hP (fun r_3 H locs hw_3 hP hS => ?_)
    try dsimp only at hw_3
    rcases hw_3 with ⟨rfl, ir_4, hir_4, rfl⟩ | ⟨rfl, hw_3⟩
    · refine lv_if_eq (tgt := 36) hx hb dX7_taking_19 (by decide) (fun h => absurd h (by decide)) (fun _ => ?_)
      refine lv_aload_n hx hb dX7_taking_22 rfl (lv_at hl 0 rfl) ?_
      refine va_get (D := D) (ci := 7) (v := .ref (a 3)) (C := RX7) (T := TX7) (N := 12) hx hb hts inX7 hown hK hP 0 rfl rfl 1 (by decide) (hts _ tw_306) (fun _ h9 => h9) rfl dX7_taking_23 ?_
      refine lv_iload_n hx hb dX7_taking_26 rfl (lv_at hl 1 rfl) ?_
      refine va_aldq hx hb hK hP 1 3 rfl rfl (by unfold vp_in; decide) dX7_taking_27 ?_
      refine lv_tr (y := .ref (a 4)) rfl ?_
      refine lv_iload_n hx hb dX7_taking_28 rfl (lv_at hl 2 rfl) ?_
      refine lv_iload_n hx hb dX7_taking_29 rfl (lv_at hl 3 rfl) ?_
      refine ro_i (D := D) (va_runV (As := [.int (nI ir_4), .int (nI id_2)]) (rest := []) ⟨hx, hb, hml, hown, hts⟩ ((y_takingOf l D k st lo (a 4) (a 5) (a 6) (a 7) (a 8) n0 see0 tm0 g0 fp0 fl0 ir_4 id_2 (by first | assumption | omega) (by first | assumption | omega)) H.size) (cwV 2 hts (gV tw_617 tw_557 tw_558 tw_81 tw_559) rfl rfl rfl (by decide +kernel) ⟨Nat.le_of_ble_eq_true rfl, Nat.le_of_ble_eq_true rfl⟩) (pV hS hAlo hlo hP hK hDL hZ [2, 3, 5, 6] (by decide) rfl (ci := 5) (q := (RX5, TX5, 4)) (q0 := 0) rfl rfl) rfl rfl hl.1 rfl (lv_room (Nat.le_of_ble_eq_true rfl)) dX7_taking_30 ⟨Nat.le_of_ble_eq_true rfl, Nat.le_of_ble_eq_true rfl⟩) hS hA hP (fun r_5 H locs hw_5 hP hS => ?_)
      try dsimp only at hw_5
      refine lv_goto (tgt := 39) hx hb dX7_taking_33 (by decide) ?_
      exact W.iret (v := r_5) hx hb hr (fun t ht hW => ⟨⟨r_5, (), rfl, dq_at (s := 0) (by omega) (show n0 ≤ 24 by omega) (show id_2 < n0 by omega) (show tkA (nI ir_4) (sdX n0 see0 tm0 g0 ff0 fp0) _ _ from tk_i (by omega) (by rw [rdX]; exact inr (by omega) (by omega)) (hw_5.trans (xTake (by omega) (hlt 0 (by omega) _ (by omega))))), trivial⟩, hS.F ht⟩) hS.2.2 dX7_taking_39
    · refine lv_if_eq (tgt := 36) hx hb dX7_taking_19 (by decide) (fun _ => ?_) (fun h => absurd (by decide) h)
      refine lv_sipush (v := (-1002)) hx hb dX7_taking_36 (by decide) ?_
      exact W.iret (v := (-1002)) hx hb hr (fun t ht hW => ⟨⟨(-1002), (), rfl, dq_at (s := 0) (by omega) (show n0 ≤ 24 by omega) (show id_2 < n0 by omega) (show tkA p1 (sdX n0 see0 tm0 g0 ff0 fp0) _ _ from tk_o (by rw [rdX]; exact hw_3)), trivial⟩, hS.F ht⟩) hS.2.2 dX7_taking_39
  · refine lv_if_ne (tgt := 13) hx hb dX7_taking_6 (by decide) (fun _ => ?_) (fun h => absurd h (by decide))
    refine lv_aload_n hx hb dX7_taking_13 rfl (lv_at hl 0 rfl) ?_
    refine lv_iload_n hx hb dX7_taking_14 rfl (lv_at hl 1 rfl) ?_
    refine lv_iload_n hx hb dX7_taking_15 rfl (lv_at hl 2 rfl) ?_
    refine ro_i (D := D) (va_runV (As := [.int 1, .int p1]) (rest := []) ⟨hx, hb, hml, hown, hts⟩ ((y_isRound_1 l D k st lo a rk lfa n1 see1 tm1 g1 p1 (by first | assumption | omega)) H.size) (cwV 2 hts (gV tw_613 tw_615 tw_10 tw_79 tw_616) rfl rfl rfl (by decide +kernel) ⟨Nat.le_of_ble_eq_true rfl, Nat.le_of_ble_eq_true rfl⟩) (pV hS hAlo hlo hP hK hDL hZ [0, 1, 7, 8] (by decide) rfl (ci := 7) (q := (RX7, TX7, 12)) (q0 := 0) rfl rfl) rfl rfl hl.1 rfl (lv_room (Nat.le_of_ble_eq_true rfl)) dX7_taking_16 ⟨Nat.le_of_ble_eq_true rfl, Nat.le_of_ble_eq_true rfl⟩) hS hA hP (fun r_6 H locs hw_6 hP hS => ?_)
    try dsimp only at hw_6
    rcases hw_6 with ⟨rfl, ir_7, hir_7, rfl⟩ | ⟨rfl, hw_6⟩
    · refine lv_if_eq (tgt := 36) hx hb dX7_taking_19 (by decide) (fun h => absurd h (by decide)) (fun _ => ?_)
      refine lv_aload_n hx hb dX7_taking_22 rfl (lv_at hl 0 rfl) ?_
      refine va_get (D := D) (ci := 7) (v := .ref (a 3)) (C := RX7) (T := TX7) (N := 12) hx hb hts inX7 hown hK hP 0 rfl rfl 1 (by decide) (hts _ tw_306) (fun _ h9 => h9) rfl dX7_taking_23 ?_
      refine lv_iload_n hx hb dX7_taking_26 rfl (lv_at hl 1 rfl) ?_
      refine va_aldq hx hb hK hP 1 3 rfl rfl (by unfold vp_in; decide) dX7_taking_27 ?_
      refine lv_tr (y := .ref (a 9)) rfl ?_
      refine lv_iload_n hx hb dX7_taking_28 rfl (lv_at hl 2 rfl) ?_
      refine lv_iload_n hx hb dX7_taking_29 rfl (lv_at hl 3 rfl) ?_
      refine ro_i (D := D) (va_runV (As := [.int (nI ir_7), .int (nI id_2)]) (rest := []) ⟨hx, hb, hml, hown, hts⟩ ((y_takingOf l D k st lo (a 9) (a 10) (a 11) (a 12) (a 13) n1 see1 tm1 g1 fp1 fl1 ir_7 id_2 (by first | assumption | omega) (by first | assumption | omega)) H.size) (cwV 2 hts (gV tw_617 tw_557 tw_558 tw_81 tw_559) rfl rfl rfl (by decide +kernel) ⟨Nat.le_of_ble_eq_true rfl, Nat.le_of_ble_eq_true rfl⟩) (pV hS hAlo hlo hP hK hDL hZ [7, 8, 10, 11] (by decide) rfl (ci := 5) (q := (RX5, TX5, 4)) (q0 := 0) rfl rfl) rfl rfl hl.1 rfl (lv_room (Nat.le_of_ble_eq_true rfl)) dX7_taking_30 ⟨Nat.le_of_ble_eq_true rfl, Nat.le_of_ble_eq_true rfl⟩) hS hA hP (fun r_8 H locs hw_8 hP hS => ?_)
      try dsimp only at hw_8
      refine lv_goto (tgt := 39) hx hb dX7_taking_33 (by decide) ?_
      exact W.iret (v := r_8) hx hb hr (fun t ht hW => ⟨⟨r_8, (), rfl, dq_at (s := 1) (by omega) (show n1 ≤ 24 by omega) (show id_2 < n1 by omega) (show tkA (nI ir_7) (sdX n1 see1 tm1 g1 ff1 fp1) _ _ from tk_i (by omega) (by rw [rdX]; exact inr (by omega) (by omega)) (hw_8.trans (xTake (by omega) (hlt 1 (by omega) _ (by omega))))), trivial⟩, hS.F ht⟩) hS.2.2 dX7_taking_39
    · refine lv_if_eq (tgt := 36) hx hb dX7_taking_19 (by decide) (fun _ => ?_) (fun h => absurd (by decide) h)
      refine lv_sipush (v := (-1002)) hx hb dX7_taking_36 (by decide) ?_
      exact W.iret (v := (-1002)) hx hb hr (fun t ht hW => ⟨⟨(-1002), (), rfl, dq_at (s := 1) (by omega) (show n1 ≤ 24 by omega) (show id_2 < n1 by omega) (show tkA p1 (sdX n1 see1 tm1 g1 ff1 fp1) _ _ from tk_o (by rw [rdX]; exact hw_6)), trivial⟩, hS.F ht⟩) hS.2.2 dX7_taking_39
  · refine lv_if_ne (tgt := 13) hx hb dX7_taking_6 (by decide) (fun _ => ?_) (fun h => absurd h (by decide))
    refine lv_aload_n hx hb dX7_taking_13 rfl (lv_at hl 0 rfl) ?_
    refine lv_iload_n hx hb dX7_taking_14 rfl (lv_at hl 1 rfl) ?_
    refine lv_iload_n hx hb dX7_taking_15 rfl (lv_at hl 2 rfl) ?_
    refine ro_i (D := D) (va_runV (As := [.int 2, .int p1]) (rest := []) ⟨hx, hb, hml, hown, hts⟩ ((y_isRound_2 l D k st lo a rk lfa n2 see2 tm2 g2 p1 (by first | assumption | omega)) H.size) (cwV 2 hts (gV tw_613 tw_615 tw_10 tw_79 tw_616) rfl rfl rfl (by decide +kernel) ⟨Nat.le_of_ble_eq_true rfl, Nat.le_of_ble_eq_true rfl⟩) (pV hS hAlo hlo hP hK hDL hZ [0, 1, 12, 13] (by decide) rfl (ci := 7) (q := (RX7, TX7, 12)) (q0 := 0) rfl rfl) rfl rfl hl.1 rfl (lv_room (Nat.le_of_ble_eq_true rfl)) dX7_taking_16 ⟨Nat.le_of_ble_eq_true rfl, Nat.le_of_ble_eq_true rfl⟩) hS hA hP (fun r_9 H locs hw_9 hP hS => ?_)
    try dsimp only at hw_9
    rcases hw_9 with ⟨rfl, ir_10, hir_10, rfl⟩ | ⟨rfl, hw_9⟩
    · refine lv_if_eq (tgt := 36) hx hb dX7_taking_19 (by decide) (fun h => absurd h (by decide)) (fun _ => ?_)
      refine lv_aload_n hx hb dX7_taking_22 rfl (lv_at hl 0 rfl) ?_
      refine va_get (D := D) (ci := 7) (v := .ref (a 3)) (C := RX7) (T := TX7) (N := 12) hx hb hts inX7 hown hK hP 0 rfl rfl 1 (by decide) (hts _ tw_306) (fun _ h9 => h9) rfl dX7_taking_23 ?_
      refine lv_iload_n hx hb dX7_taking_26 rfl (lv_at hl 1 rfl) ?_
      refine va_aldq hx hb hK hP 1 3 rfl rfl (by unfold vp_in; decide) dX7_taking_27 ?_
      refine lv_tr (y := .ref (a 14)) rfl ?_
      refine lv_iload_n hx hb dX7_taking_28 rfl (lv_at hl 2 rfl) ?_
      refine lv_iload_n hx hb dX7_taking_29 rfl (lv_at hl 3 rfl) ?_
      refine ro_i (D := D) (va_runV (As := [.int (nI ir_10), .int (nI id_2)]) (rest := []) ⟨hx, hb, hml, hown, hts⟩ ((y_takingOf l D k st lo (a 14) (a 15) (a 16) (a 17) (a 18) n2 see2 tm2 g2 fp2 fl2 ir_10 id_2 (by first | assumption | omega) (by first | assumption | omega)) H.size) (cwV 2 hts (gV tw_617 tw_557 tw_558 tw_81 tw_559) rfl rfl rfl (by decide +kernel) ⟨Nat.le_of_ble_eq_true rfl, Nat.le_of_ble_eq_true rfl⟩) (pV hS hAlo hlo hP hK hDL hZ [12, 13, 15, 16] (by decide) rfl (ci := 5) (q := (RX5, TX5, 4)) (q0 := 0) rfl rfl) rfl rfl hl.1 rfl (lv_room (Nat.le_of_ble_eq_true rfl)) dX7_taking_30 ⟨Nat.le_of_ble_eq_true rfl, Nat.le_of_ble_eq_true rfl⟩) hS hA hP (fun r_11 H locs hw_11 hP hS => ?_)
      try dsimp only at hw_11
      refine lv_goto (tgt := 39) hx hb dX7_taking_33 (by decide) ?_
      exact W.iret (v := r_11) hx hb hr (fun t ht hW => ⟨⟨r_11, (), rfl, dq_at (s := 2) (by omega) (show n2 ≤ 24 by omega) (show id_2 < n2 by omega) (show tkA (nI ir_10) (sdX n2 see2 tm2 g2 ff2 fp2) _ _ from tk_i (by omega) (by rw [rdX]; exact inr (by omega) (by omega)) (hw_11.trans (xTake (by omega) (hlt 2 (by omega) _ (by omega))))), trivial⟩, hS.F ht⟩) hS.2.2 dX7_taking_39
    · refine lv_if_eq (tgt := 36) hx hb dX7_taking_19 (by decide) (fun _ => ?_) (fun h => absurd (by decide) h)
      refine lv_sipush (v := (-1002)) hx hb dX7_taking_36 (by decide) ?_
      exact W.iret (v := (-1002)) hx hb hr (fun t ht hW => ⟨⟨(-1002), (), rfl, dq_at (s := 2) (by omega) (show n2 ≤ 24 by omega) (show id_2 < n2 by omega) (show tkA p1 (sdX n2 see2 tm2 g2 ff2 fp2) _ _ from tk_o (by rw [rdX]; exact hw_9)), trivial⟩, hS.F ht⟩) hS.2.2 dX7_taking_39
  · refine lv_if_ne (tgt := 13) hx hb dX7_taking_6 (by decide) (fun h => absurd (by decide) h) (fun _ => ?_)
    refine lv_sipush (v := (-1001)) hx hb dX7_taking_9 (by decide) ?_
    exact W.iret (v := (-1001)) hx hb hr (fun t ht hW => ⟨⟨(-1001), (), rfl, dq_no (fun s h1 h2 i h3 h4 => hw_1 s h1 h2 i h3 (by rw [d3_n] at h4; exact h4)), trivial⟩, hS.F ht⟩) hS.2.2 dX7_taking_12


set_option maxHeartbeats 4000000 in
set_option maxRecDepth 100000 in
theorem n_taking (l : Launch) (D : va_G) (k : Nat → ClassId) (st : Nat → Nat) (lo : Nat) (a : Nat → Nat) (tx : Nat) (t0 : Nat) (we : Nat) (rd : Nat) (ru : Nat) (rw : Nat) (ca : Nat) (fp : Int32) (wd : Int64) (nu : Int32) (na : Int32) (ts : Int32) (df : Int32) (db : Int32) (sd : Int32) (dn : Nat → Nat) (se : Nat → Nat) (tm : Nat → Nat) (gs : Nat → Int32) (ffrees : Nat → Int32) (fprices : Nat → Int32) (p0 : Int32) (p1 : Int32) (p2 : Int32) (hdn : ∀ j, dn j ≤ 24) (hse : ∀ j, se j ≤ 2) (htm : ∀ j, tm j ≤ 3) : CRi l D k st lo yX8_taking cX8_taking 4 (some .int) ({ frames := 4, cells := 0, slots := 0, locals := 93 }) [.ref (a 0), .int p0, .int p1, .int p2] [((a 0), .inr (8, (fX8 a (nI tx) fp (nI t0) wd (nI we) nu na (nI rd) ts (nI ru) (nI rw) (nI ca) df db sd))), (aI k (a 1) 3 (nF dn)), (aI k (a 4) 27 (sg se tm gs)), (aI k (a 2) 72 ffrees), (aI k (a 3) 72 fprices)] (fun r => dqP (sdM dn (sg se tm gs) ffrees fprices) p0 p2 (tkA p1) r) := by
  intro sz
  refine Met.ofW (cc := cX8_taking) (maxL := 4) (ret := (some .int)) (by decide) rfl ?_
  intro p e s m args below meth c s₁ B hml hv
  obtain ⟨rfl, hsz, hlo, hP, hK, hDL, hZ⟩ := hv
  have hx := B.exec
  have hb := B.bytes
  have hr := B.returns
  have hts := WS_ts B.pre
  have hown : s.vm.findClass RX8 = some m.cls := findClass_of_methodNamed B.named
  have hlocks := B.notSynchronized
  subst hsz
  have hA : ∀ q : Nat, s.heap.size ≤ q → (fun q : Nat => s.heap.size ≤ q) q := fun _ h => h
  have hAlo : ∀ q : Nat, (fun q : Nat => s.heap.size ≤ q) q → lo ≤ q := fun q h => Nat.le_trans hlo h
  have hS : va_S (fun q : Nat => s.heap.size ≤ q) s.heap s.heap [] := va_S.rf
  have hl := lv_entry ([.ref (a 0), .int p0, .int p1, .int p2]) (n := 4) (Nat.le_of_ble_eq_true rfl)
  rw [lg_entry_eq]
  generalize (lg_sl ([.ref (a 0), .int p0, .int p1, .int p2]) ++ List.replicate (4 - (lg_sl ([.ref (a 0), .int p0, .int p1, .int p2])).length) Slot.unset).toArray = ls at hl ⊢
  have hl : lv_has ls 4 [(0, .ref (a 0)), (1, .int p0), (2, .int p1), (3, .int p2)] := hl
  refine lv_aload_n hx hb dX8_taking_0 rfl (lv_at hl 0 rfl) ?_
  refine lv_iload_n hx hb dX8_taking_1 rfl (lv_at hl 1 rfl) ?_
  refine ro_i (D := D) (va_runV (As := [.int p0]) (rest := []) ⟨hx, hb, hml, hown, hts⟩ ((n_isStreet l D k st lo a tx t0 we rd ru rw ca fp wd nu na ts df db sd dn p0 hdn) s.heap.size) (cwV 1 hts (gV tw_1189 tw_1191 tw_38 tw_87 tw_1192) rfl rfl rfl (by decide +kernel) ⟨Nat.le_of_ble_eq_true rfl, Nat.le_of_ble_eq_true rfl⟩) (pV hS hAlo hlo hP hK hDL hZ [0, 1] (by decide) rfl (ci := 8) (q := (RX8, TX8, 44)) (q0 := 0) rfl rfl) rfl rfl hl.1 rfl (lv_room (Nat.le_of_ble_eq_true rfl)) dX8_taking_2 ⟨Nat.le_of_ble_eq_true rfl, Nat.le_of_ble_eq_true rfl⟩) hS hA hP (fun r_1 H locs hw_1 hP hS => ?_)
  try dsimp only at hw_1
  rcases hw_1 with ⟨rfl, j_2, hj_2, rfl, hw_1⟩ | ⟨rfl, hw_1⟩
  · have hdj_2 := hdn j_2
    have htj_2 := htm j_2
    refine lv_if_eq (tgt := 17) hx hb dX8_taking_5 (by decide) (fun h => absurd h (by decide)) (fun _ => ?_)
    refine lv_aload_n hx hb dX8_taking_8 rfl (lv_at hl 0 rfl) ?_
    refine lv_iload_n hx hb dX8_taking_9 rfl (lv_at hl 1 rfl) ?_
    refine lv_iload_n hx hb dX8_taking_10 rfl (lv_at hl 3 rfl) ?_
    refine ro_i (D := D) (va_runV (As := [.int (nI j_2), .int p2]) (rest := []) ⟨hx, hb, hml, hown, hts⟩ ((n_isDoor l D k st lo a tx t0 we rd ru rw ca fp wd nu na ts df db sd dn j_2 p2 hdn (by first | assumption | omega)) H.size) (cwV 2 hts (gV tw_1202 tw_1204 tw_40 tw_87 tw_1205) rfl rfl rfl (by decide +kernel) ⟨Nat.le_of_ble_eq_true rfl, Nat.le_of_ble_eq_true rfl⟩) (pV hS hAlo hlo hP hK hDL hZ [0, 1] (by decide) rfl (ci := 8) (q := (RX8, TX8, 44)) (q0 := 0) rfl rfl) rfl rfl hl.1 rfl (lv_room (Nat.le_of_ble_eq_true rfl)) dX8_taking_11 ⟨Nat.le_of_ble_eq_true rfl, Nat.le_of_ble_eq_true rfl⟩) hS hA hP (fun r_3 H locs hw_3 hP hS => ?_)
    try dsimp only at hw_3
    rcases hw_3 with ⟨rfl, j_4, hj_4, rfl, hw_3⟩ | ⟨rfl, hw_3⟩
    · refine lv_if_ne (tgt := 21) hx hb dX8_taking_14 (by decide) (fun _ => ?_) (fun h => absurd h (by decide))
      refine lv_aload_n hx hb dX8_taking_21 rfl (lv_at hl 0 rfl) ?_
      refine lv_iload_n hx hb dX8_taking_22 rfl (lv_at hl 1 rfl) ?_
      refine lv_iload_n hx hb dX8_taking_23 rfl (lv_at hl 2 rfl) ?_
      refine ro_i (D := D) (va_runV (As := [.int (nI j_2), .int p1]) (rest := []) ⟨hx, hb, hml, hown, hts⟩ ((n_isRound l D k st lo a tx t0 we rd ru rw ca fp wd nu na ts df db sd se tm gs j_2 p1 htm (by first | assumption | omega)) H.size) (cwV 2 hts (gV tw_1218 tw_1220 tw_42 tw_87 tw_1221) rfl rfl rfl (by decide +kernel) ⟨Nat.le_of_ble_eq_true rfl, Nat.le_of_ble_eq_true rfl⟩) (pV hS hAlo hlo hP hK hDL hZ [0, 2] (by decide) rfl (ci := 8) (q := (RX8, TX8, 44)) (q0 := 0) rfl rfl) rfl rfl hl.1 rfl (lv_room (Nat.le_of_ble_eq_true rfl)) dX8_taking_24 ⟨Nat.le_of_ble_eq_true rfl, Nat.le_of_ble_eq_true rfl⟩) hS hA hP (fun r_5 H locs hw_5 hP hS => ?_)
      try dsimp only at hw_5
      rcases hw_5 with ⟨rfl, j_6, hj_6, rfl, hw_5⟩ | ⟨rfl, hw_5⟩
      · refine lv_if_eq (tgt := 40) hx hb dX8_taking_27 (by decide) (fun h => absurd h (by decide)) (fun _ => ?_)
        refine lv_aload_n hx hb dX8_taking_30 rfl (lv_at hl 0 rfl) ?_
        refine lv_iload_n hx hb dX8_taking_31 rfl (lv_at hl 1 rfl) ?_
        refine lv_iload_n hx hb dX8_taking_32 rfl (lv_at hl 2 rfl) ?_
        refine lv_iload_n hx hb dX8_taking_33 rfl (lv_at hl 3 rfl) ?_
        refine ro_i (D := D) (va_runV (As := [.int (nI j_2), .int (nI j_6), .int (nI j_4)]) (rest := []) ⟨hx, hb, hml, hown, hts⟩ ((n_takingOf l D k st lo a tx t0 we rd ru rw ca fp wd nu na ts df db sd dn se tm gs fprices j_2 j_4 (nI j_6) (by first | assumption | omega) (by first | assumption | omega)) H.size) (cwV 3 hts (gV tw_1222 tw_1224 tw_43 tw_87 tw_1225) rfl rfl rfl (by decide +kernel) ⟨Nat.le_of_ble_eq_true rfl, Nat.le_of_ble_eq_true rfl⟩) (pV hS hAlo hlo hP hK hDL hZ [0, 1, 2, 4] (by decide) rfl (ci := 8) (q := (RX8, TX8, 44)) (q0 := 0) rfl rfl) rfl rfl hl.1 rfl (lv_room (Nat.le_of_ble_eq_true rfl)) dX8_taking_34 ⟨Nat.le_of_ble_eq_true rfl, Nat.le_of_ble_eq_true rfl⟩) hS hA hP (fun r_7 H locs hw_7 hP hS => ?_)
        try dsimp only at hw_7
        refine lv_goto (tgt := 43) hx hb dX8_taking_37 (by decide) ?_
        exact W.iret (v := r_7) hx hb hr (fun t ht hW => ⟨⟨r_7, (), rfl, dq_at (s := j_2) (by omega) (show dn j_2 ≤ 24 by omega) (show j_4 < dn j_2 by omega) (tk_i (by omega) (by rw [rdM]; exact inr (by omega) (by omega)) (hw_7.trans (mTake (by omega)))), trivial⟩, hS.F ht⟩) hS.2.2 dX8_taking_43
      · refine lv_if_eq (tgt := 40) hx hb dX8_taking_27 (by decide) (fun _ => ?_) (fun h => absurd (by decide) h)
        refine lv_sipush (v := (-1002)) hx hb dX8_taking_40 (by decide) ?_
        exact W.iret (v := (-1002)) hx hb hr (fun t ht hW => ⟨⟨(-1002), (), rfl, dq_at (s := j_2) (by omega) (show dn j_2 ≤ 24 by omega) (show j_4 < dn j_2 by omega) (tk_o (by rw [rdM]; exact hw_5)), trivial⟩, hS.F ht⟩) hS.2.2 dX8_taking_43
    · refine lv_if_ne (tgt := 21) hx hb dX8_taking_14 (by decide) (fun h => absurd (by decide) h) (fun _ => ?_)
      refine lv_sipush (v := (-1001)) hx hb dX8_taking_17 (by decide) ?_
      exact W.iret (v := (-1001)) hx hb hr (fun t ht hW => ⟨⟨(-1001), (), rfl, dq_no (fun s h1 h2 i h3 h4 => by have h9 := nI_inj (by omega) (by omega) h2; subst h9; exact hw_3 i h3 h4), trivial⟩, hS.F ht⟩) hS.2.2 dX8_taking_20
  · refine lv_if_eq (tgt := 17) hx hb dX8_taking_5 (by decide) (fun _ => ?_) (fun h => absurd (by decide) h)
    refine lv_sipush (v := (-1001)) hx hb dX8_taking_17 (by decide) ?_
    exact W.iret (v := (-1001)) hx hb hr (fun t ht hW => ⟨⟨(-1001), (), rfl, dq_no (fun s h1 h2 i h3 h4 => hw_1 s h1 h2 (by show 0 < dn s; replace h4 : i < dn s := h4; omega)), trivial⟩, hS.F ht⟩) hS.2.2 dX8_taking_20


theorem f_glueP12 : True := trivial
/-! feed -/
theorem c255 : ∀ i, i < 32 → (255#32).getLsbD i = decide (i < 8) := by decide +kernel
theorem d255 : ∀ i, i < 32 → (255#64).getLsbD i = decide (i < 8) := by decide +kernel
theorem by_bits (x : Int64) : x.toInt32.toInt8.toInt32.toInt8.toInt32 &&& 255 = (x &&& 255).toInt32 := by
  apply Int32.toBitVec_inj.mp
  apply BitVec.eq_of_getLsbD_eq
  intro i hi
  show (((((x.toBitVec.signExtend 32).signExtend 8).signExtend 32).signExtend 8).signExtend 32 &&& 255#32).getLsbD i = ((x.toBitVec &&& 255#64).signExtend 32).getLsbD i
  have h1 : i < 64 := by omega
  rw [BitVec.getLsbD_and, c255 i hi]
  simp only [BitVec.getLsbD_signExtend, BitVec.getLsbD_and, d255 i hi]
  by_cases h : i < 8
  · simp [h, hi, h1]
  · simp [h, hi, h1]
/-- the byte k of a long, from its lowest -/
def byW (w : Int64) (k : Nat) : Int32 := ((w >>> ((nI (8 * k)).toInt64 &&& 63)) &&& 255).toInt32
theorem byW_x {w x : Int64} {y z : Int32} {k : Nat} (h1 : x = w >>> ((nI (8 * k)).toInt64 &&& 63)) (h2 : y = x.toInt32) (h3 : z = y.toInt8.toInt32) : (vp_nar .byte z) &&& 255 = byW w k := by
  show z.toInt8.toInt32 &&& 255 = _
  rw [h3, h2, h1]
  exact by_bits _
def feB (b : Nat → Int32) (tz : Nat) (w : Int64) (n m : Nat) : Nat → Int32 := fun j => if tz ≤ j ∧ j < tz + m then byW w (n - 1 - (j - tz)) else b j
theorem feB_0 {b : Nat → Int32} {tz n : Nat} {w : Int64} : feB b tz w n 0 = b := by
  funext j
  unfold feB
  rw [if_neg (by omega)]
theorem feB_s {b : Nat → Int32} {tz n q : Nat} {w : Int64} (hq : q + 1 ≤ n) : upd (feB b tz w n (n - (q + 1))) (tz + (n - (q + 1))) (byW w q) = feB b tz w n (n - q) := by
  funext j
  show (if j = tz + (n - (q + 1)) then byW w q else (if tz ≤ j ∧ j < tz + (n - (q + 1)) then byW w (n - 1 - (j - tz)) else b j)) = (if tz ≤ j ∧ j < tz + (n - q) then byW w (n - 1 - (j - tz)) else b j)
  by_cases h : j = tz + (n - (q + 1))
  · rw [if_pos h, if_pos (by omega), show n - 1 - (j - tz) = q by omega]
  · rw [if_neg h]
    by_cases h1 : tz ≤ j ∧ j < tz + (n - (q + 1))
    · rw [if_pos h1, if_pos (by omega)]
    · rw [if_neg h1, if_neg (by omega)]
theorem bF_upd {f : Nat → Int32} {i : Nat} {v : Int32} : bF (upd f i v) = upd (bF f) i (v &&& 255) := by
  funext j
  show (if j = i then v else f j) &&& 255 = (if j = i then v &&& 255 else f j &&& 255)
  by_cases h : j = i
  · rw [if_pos h, if_pos h]
  · rw [if_neg h, if_neg h]
theorem fe_step {f b : Nat → Int32} {t tz n q : Nat} {w : Int64} {v : Int32} (hB : bF f = feB b tz w n (n - (q + 1))) (ht : t = tz + (n - (q + 1))) (hq : q + 1 ≤ n) (hv : v &&& 255 = byW w q) : bF (upd f t v) = feB b tz w n (n - q) := by
  rw [bF_upd, hv, hB, ht, feB_s hq]
theorem fe_stepM {f b : Nat → Int32} {t tz n q : Nat} {w : Int64} (hB : f = feB b tz w n (n - (q + 1))) (ht : t = tz + (n - (q + 1))) (hq : q + 1 ≤ n) : upd f t (byW w q) = feB b tz w n (n - q) := by
  rw [hB, ht, feB_s hq]
def feP (p0 : Int32) (w : Int64) (tz : Nat) (b : Nat → Int32) (r : Int32) (tz' : Nat) (b' : Nat → Int32) : Prop := (¬ inB p0 1 8 → r = -1002 ∧ tz' = tz ∧ b' = b) ∧ ∀ n : Nat, 1 ≤ n → n ≤ 8 → p0 = nI n → (240 < tz + n → r = -1004 ∧ tz' = tz ∧ b' = b) ∧ (tz + n ≤ 240 → r = nI (tz + n) ∧ tz' = tz + n ∧ b' = feB b tz w n n)
theorem fe_in {n : Nat} (h1 : 1 ≤ n) (h2 : n ≤ 8) : inB (nI n) 1 8 := ⟨(nI_leI (a := 1) (b := n) (by omega) (by omega)).mpr h1, (nI_leI (a := n) (b := 8) (by omega) (by omega)).mpr h2⟩
theorem fe_out {p0 : Int32} {w : Int64} {tz : Nat} {b : Nat → Int32} (h : ¬ inB p0 1 8) : feP p0 w tz b (-1002) tz b := ⟨fun _ => ⟨rfl, rfl, rfl⟩, fun n h1 h2 e => absurd (by rw [e]; exact fe_in h1 h2) h⟩
theorem fe_full {w : Int64} {tz n : Nat} {b : Nat → Int32} (h1 : 1 ≤ n) (h2 : n ≤ 8) (h : 240 < tz + n) : feP (nI n) w tz b (-1004) tz b := by
  refine ⟨fun q => absurd (fe_in h1 h2) q, fun k h3 h4 e => ?_⟩
  have := nI_inj (by omega) (by omega) e
  subst this
  exact ⟨fun _ => ⟨rfl, rfl, rfl⟩, fun q => absurd h (by omega)⟩
theorem fe_ok {w : Int64} {tz n x : Nat} {r : Int32} {b c : Nat → Int32} (h1 : 1 ≤ n) (h2 : n ≤ 8) (h : tz + n ≤ 240) (hr : r = nI x) (hx : x = tz + n) (hc : c = feB b tz w n n) : feP (nI n) w tz b r x c := by
  refine ⟨fun q => absurd (fe_in h1 h2) q, fun k h3 h4 e => ?_⟩
  have := nI_inj (by omega) (by omega) e
  subst this
  exact ⟨fun q => absurd h (by omega), fun _ => ⟨by rw [hr, hx], hx, hc⟩⟩
theorem feP_fun {p0 : Int32} {w : Int64} {tz x y : Nat} {b c d : Nat → Int32} {r q : Int32} (h : feP p0 w tz b r x c) (g : feP p0 w tz b q y d) : r = q ∧ x = y ∧ c = d := by
  rcases Classical.em (inB p0 1 8) with hi | hi
  · obtain ⟨n, h1, h2, e⟩ := inB_ofc (a := 1) (b := 8) (by omega) (by omega) hi
    have a1 := h.2 n h1 h2 e
    have a2 := g.2 n h1 h2 e
    rcases Nat.lt_or_ge 240 (tz + n) with z | z
    · obtain ⟨u1, u2, u3⟩ := a1.1 z
      obtain ⟨v1, v2, v3⟩ := a2.1 z
      exact ⟨u1.trans v1.symm, u2.trans v2.symm, u3.trans v3.symm⟩
    · obtain ⟨u1, u2, u3⟩ := a1.2 z
      obtain ⟨v1, v2, v3⟩ := a2.2 z
      exact ⟨u1.trans v1.symm, u2.trans v2.symm, u3.trans v3.symm⟩
  · obtain ⟨u1, u2, u3⟩ := h.1 hi
    obtain ⟨v1, v2, v3⟩ := g.1 hi
    exact ⟨u1.trans v1.symm, u2.trans v2.symm, u3.trans v3.symm⟩
/-! street -/
def d3 {T : Type} (a b c : T) (q : Nat) : T := match q with | 0 => a | 1 => b | _ => c
def d4 {T : Type} (a b c d : T) (q : Nat) : T := match q with | 0 => a | 1 => b | 2 => c | _ => d
def stP (pz : Int32) (b : Nat → Int32) (n : Nat) (fp : Int32) (sd : Nat → SDt) (r : Int32) (n' : Nat) (fp' : Int32) (sd' : Nat → SDt) : Prop := (¬ inB pz 0 2 → r = -1001 ∧ n' = n ∧ fp' = fp ∧ (∀ q, q < 3 → sd' q = sd q)) ∧ (inB pz 0 2 → n' = 0 ∧ ((∃ e pl : Nat, 1 ≤ e ∧ e ≤ 4 ∧ (stF b n 0).1 = e ∧ (stF b n 0).2.1 = pl ∧ r = -10 - nI e ∧ fp' = nI pl ∧ (∀ q, q < 3 → sd' q = sd q)) ∨ (∃ (sn : Nat) (σ : PSt), sn < 3 ∧ pz = nI sn ∧ stF b n 0 = (0, 0, σ) ∧ r = nI σ.1 ∧ fp' = -1 ∧ sd' sn = sdP σ ∧ (∀ q, q < 3 → q ≠ sn → sd' q = sd q))))
theorem stP_of {pz : Int32} {b : Nat → Int32} {n n' : Nat} {fp r fp' : Int32} {sd sd' : Nat → SDt} (h : (¬ inB pz 0 2 → r = -1001 ∧ n' = n ∧ fp' = fp ∧ (∀ q, sd' q = sd q)) ∧ (inB pz 0 2 → n' = 0 ∧ ((∃ e pl : Nat, 1 ≤ e ∧ e ≤ 4 ∧ (stF b n 0).1 = e ∧ (stF b n 0).2.1 = pl ∧ r = -10 - nI e ∧ fp' = nI pl ∧ (∀ q, sd' q = sd q)) ∨ (∃ (sn : Nat) (σ : PSt), sn < 3 ∧ pz = nI sn ∧ stF b n 0 = (0, 0, σ) ∧ r = nI σ.1 ∧ fp' = -1 ∧ sd' sn = sdP σ ∧ (∀ q, q ≠ sn → sd' q = sd q))))) : stP pz b n fp sd r n' fp' sd' := by
  refine ⟨fun hi => ?_, fun hi => ?_⟩
  · obtain ⟨h1, h2, h3, h4⟩ := h.1 hi
    exact ⟨h1, h2, h3, fun q _ => h4 q⟩
  · obtain ⟨h1, h2⟩ := h.2 hi
    refine ⟨h1, ?_⟩
    rcases h2 with ⟨e, pl, a1, a2, a3, a4, a5, a6, a7⟩ | ⟨sn, σ, a1, a2, a3, a4, a5, a6, a7⟩
    · exact .inl ⟨e, pl, a1, a2, a3, a4, a5, a6, fun q _ => a7 q⟩
    · exact .inr ⟨sn, σ, a1, a2, a3, a4, a5, a6, fun q _ hn => a7 q hn⟩
theorem stP_fun {pz : Int32} {b : Nat → Int32} {n n' m' : Nat} {fp r fp' q fq' : Int32} {sd sd' se se' : Nat → SDt} (h : stP pz b n fp sd r n' fp' sd') (g : stP pz b n fp se q m' fq' se') (e : ∀ i, i < 3 → sd i = se i) : r = q ∧ n' = m' ∧ fp' = fq' ∧ ∀ i, i < 3 → sd' i = se' i := by
  rcases Classical.em (inB pz 0 2) with hi | hi
  · obtain ⟨h1, h2⟩ := h.2 hi
    obtain ⟨g1, g2⟩ := g.2 hi
    rcases h2 with ⟨e1, pl, a1, a2, a3, a4, a5, a6, a7⟩ | ⟨sn, σ, a1, a2, a3, a4, a5, a6, a7⟩
    · rcases g2 with ⟨e2, pm, c1, c2, c3, c4, c5, c6, c7⟩ | ⟨tn, τ, c1, c2, c3, c4, c5, c6, c7⟩
      · have x1 : e1 = e2 := a3.symm.trans c3
        have x2 : pl = pm := a4.symm.trans c4
        exact ⟨by rw [a5, c5, x1], h1.trans g1.symm, by rw [a6, c6, x2], fun i hi => (a7 i hi).trans ((e i hi).trans (c7 i hi).symm)⟩
      · rw [c3] at a3
        exact absurd a3 (by show ¬ 0 = e1; omega)
    · rcases g2 with ⟨e2, pm, c1, c2, c3, c4, c5, c6, c7⟩ | ⟨tn, τ, c1, c2, c3, c4, c5, c6, c7⟩
      · rw [a3] at c3
        exact absurd c3 (by show ¬ 0 = e2; omega)
      · have x1 : sn = tn := nI_inj (by omega) (by omega) (a2.symm.trans c2)
        have x2 : σ = τ := congrArg (fun z => z.2.2) (a3.symm.trans c3)
        subst x1 x2
        refine ⟨a4.trans c4.symm, h1.trans g1.symm, a5.trans c5.symm, fun i hi => ?_⟩
        by_cases hs : i = sn
        · subst hs
          exact a6.trans c6.symm
        · exact (a7 i hi hs).trans ((e i hi).trans (c7 i hi hs).symm)
  · obtain ⟨u1, u2, u3, u4⟩ := h.1 hi
    obtain ⟨v1, v2, v3, v4⟩ := g.1 hi
    exact ⟨u1.trans v1.symm, u2.trans v2.symm, u3.trans v3.symm, fun i hi => (u4 i hi).trans ((e i hi).trans (v4 i hi).symm)⟩
theorem neg10 {e : Nat} (h1 : 1 ≤ e) (h2 : e ≤ 4) : ¬ (0 : Int32) ≤ -10 - nI e := by
  rcases (show e = 1 ∨ e = 2 ∨ e = 3 ∨ e = 4 by omega) with rfl | rfl | rfl | rfl <;> decide
theorem sd_cp {n see tm : Nat} {g g0 gg ff f0 fp p0 : Nat → Int32} (hn : n ≤ 24) (hg : gg = va_cpy g g0 0 0 10) : sdX n see tm gg (va_cpy ff f0 0 0 24) (va_cpy fp p0 0 0 24) = sdX n see tm g ff fp := by
  have e1 : nG (vv n see tm gg) = nG (vv n see tm g) := by
    funext j
    unfold nG
    by_cases hj : 1 ≤ j ∧ j ≤ 9
    · rw [if_pos hj, if_pos hj]
      have h0 : ¬ j = 0 := by omega
      unfold vv
      rw [if_neg h0, if_neg h0]
      by_cases h6 : j = 6
      · rw [if_pos h6, if_pos h6]
      · rw [if_neg h6, if_neg h6]
        by_cases h8 : j = 8
        · rw [if_pos h8, if_pos h8]
        · rw [if_neg h8, if_neg h8, hg, pk_cpy_in (by omega) (by omega), show 0 + (j - 0) = j by omega]
    · rw [if_neg hj, if_neg hj]
  have e2 : ∀ x y : Nat → Int32, clp n (va_cpy x y 0 0 24) = clp n x := by
    intro x y
    funext j
    unfold clp
    by_cases hj : j < n
    · rw [if_pos hj, if_pos hj, pk_cpy_in (by omega) (by omega), show 0 + (j - 0) = j by omega]
    · rw [if_neg hj, if_neg hj]
  show (n, nG (vv n see tm gg), clp n (va_cpy ff f0 0 0 24), clp n (va_cpy fp p0 0 0 24)) = (n, nG (vv n see tm g), clp n ff, clp n fp)
  rw [e1, e2, e2]


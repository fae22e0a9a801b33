theorem f_glueP7 : True := trivial
theorem nuS_in {b : Nat → Int32} {n a f p t q : Nat} {mi : Bool} {lo hi v : Int32} (h : nuS b n mi lo hi a f = (0, p, t, v, q)) : inB v lo hi ∧ f < t := by
  unfold nuS at h
  by_cases h1 : figA b n f = []
  · rw [if_pos h1] at h
    exact absurd (show (1 : Nat) = 0 from congrArg Prod.fst h) (by decide)
  · rw [if_neg h1] at h
    by_cases h2 : 3 < (figA b n f).length ∨ ¬ (lo ≤ vS mi (figA b n f) ∧ vS mi (figA b n f) ≤ hi)
    · rw [if_pos h2] at h
      exact absurd (show (2 : Nat) = 0 from congrArg Prod.fst h) (by decide)
    · rw [if_neg h2] at h
      have e1 : f + (figA b n f).length = t := congrArg (fun z => z.2.2.1) h
      have e2 : vS mi (figA b n f) = v := congrArg (fun z => z.2.2.2.1) h
      have h3 : (figA b n f).length ≠ 0 := fun q => h1 (List.eq_nil_of_length_eq_zero q)
      refine ⟨?_, by omega⟩
      rw [← e2]
      exact Classical.not_not.mp (fun q => h2 (.inr q))
theorem nuR_in {b : Nat → Int32} {n p t t1 q : Nat} {sg : Bool} {lo hi v : Int32} (h : nuR b n sg lo hi t = (0, p, t1, v, q)) : inB v lo hi ∧ t < t1 := by
  have h0 := skA_ge b n t
  unfold nuR at h
  by_cases h1 : sg = true ∧ byF b n (skA b n t) = 45
  · rw [if_pos h1] at h
    have h2 := nuS_in h
    exact ⟨h2.1, by omega⟩
  · rw [if_neg h1] at h
    have h2 := nuS_in h
    exact ⟨h2.1, by omega⟩
theorem doC_0 {b : Nat → Int32} {n rd t t1 t6 m : Nat} {v3 v5 : Int32} (h : doF b n rd t = (0, 0, t1, m, v3, v5)) (hs : smR b n t1 = (0, 0, t6)) : doC b n rd t = (0, 0, t6, m, v3, v5) := by
  simp [doC, h, hs]
theorem doC_s {b : Nat → Int32} {n rd t t1 t6 m p : Nat} {v3 v5 : Int32} (h : doF b n rd t = (0, 0, t1, m, v3, v5)) (hs : smR b n t1 = (1, p, t6)) : (doC b n rd t).1 = 1 ∧ (doC b n rd t).2.1 = p := by
  simp [doC, h, hs]
theorem doC_e {b : Nat → Int32} {n rd t e p : Nat} (h : (doF b n rd t).1 = e) (h1 : 1 ≤ e) (hp : (doF b n rd t).2.1 = p) : (doC b n rd t).1 = e ∧ (doC b n rd t).2.1 = p := by
  rcases hd : doF b n rd t with ⟨e2, p2, t2, m, v3, v5⟩
  rw [hd] at h hp
  have he2 : e2 = e := h
  have hp2 : p2 = p := hp
  have h0 : ¬ e = 0 := by omega
  simp [doC, hd, h0, he2, hp2]
theorem siC_0 {b : Nat → Int32} {n k t t1 t6 : Nat} {v v2 : Int32} (h : siF b n k t = (0, 0, t1, v, v2)) (hs : smR b n t1 = (0, 0, t6)) : siC b n k t = (0, 0, t6, v, v2) := by
  simp [siC, h, hs]
theorem siC_s {b : Nat → Int32} {n k t t1 t6 p : Nat} {v v2 : Int32} (h : siF b n k t = (0, 0, t1, v, v2)) (hs : smR b n t1 = (1, p, t6)) : (siC b n k t).1 = 1 ∧ (siC b n k t).2.1 = p := by
  simp [siC, h, hs]
theorem siC_e {b : Nat → Int32} {n k t e p : Nat} (h : (siF b n k t).1 = e) (h1 : 1 ≤ e) (hp : (siF b n k t).2.1 = p) : (siC b n k t).1 = e ∧ (siC b n k t).2.1 = p := by
  rcases hd : siF b n k t with ⟨e2, p2, t2, v, v2⟩
  rw [hd] at h hp
  have he2 : e2 = e := h
  have hp2 : p2 = p := hp
  have h0 : ¬ e = 0 := by omega
  simp [siC, hd, h0, he2, hp2]
theorem kwsp {L : List Int32} {r : Int32} (h : r = clM (kwN L)) : (kwN L = 10 ∧ r = -1) ∨ (kwN L = 0 ∧ r = 9) ∨ ∃ c : Nat, c ≤ 8 ∧ c ≠ 7 ∧ kwN L = c + 1 ∧ r = nI c := by
  have hk := kwN_le L
  unfold clM at h
  by_cases h1 : kwN L = 10
  · rw [if_pos h1] at h
    exact .inl ⟨h1, h⟩
  · rw [if_neg h1] at h
    by_cases h2 : kwN L = 0
    · rw [if_pos h2] at h
      exact .inr (.inl ⟨h2, h⟩)
    · rw [if_neg h2] at h
      exact .inr (.inr ⟨kwN L - 1, by omega, by omega, by omega, h⟩)
theorem stM_do {rd m : Nat} {fs ff fp ff2 fp2 : Nat → Int32} {to : Int32} {v3 v5 : Int32} (h1 : ∀ j, ff2 j = if rd ≤ j ∧ j < rd + m then v3 else ff j) (h2 : ∀ j, fp2 j = if rd ≤ j ∧ j < rd + m then v5 else fp j) : stM (rd + m) fs ff2 fp2 (to ||| ((1 : Int32) <<< (nI 9 &&& 31))) = (rd + m, gM fs, filF (clp rd ff) rd m v3, filF (clp rd fp) rd m v5, toM to) := by
  unfold stM
  rw [clp_fil h1, clp_fil h2, toM_or9]
theorem stM_si {rd k : Nat} {fs fs2 ff fp : Nat → Int32} {to : Int32} {v v2 : Int32} (hk : k ≤ 8) (h : fs2 = if k = 6 then upd (upd fs 6 v) 7 v2 else upd fs k v) : stM rd fs2 ff fp (to ||| ((1 : Int32) <<< (nI k &&& 31))) = (rd, (if k + 1 = 7 then upd (upd (gM fs) 7 v) 8 v2 else upd (gM fs) (k + 1) v), clp rd ff, clp rd fp, setB (toM to) (k + 1)) := by
  unfold stM
  rw [toM_or hk, h]
  by_cases h6 : k = 6
  · rw [if_pos h6, if_pos (by omega), gM_upd (by omega), gM_upd (by omega)]
  · rw [if_neg h6, if_neg (by omega), gM_upd hk]


theorem f_glueP2 : True := trivial
def bF (f : Nat → Int32) : Nat → Int32 := fun j => f j &&& 255
theorem sKl : ∀ wi, wi < 14 → (sByt.getD wi []).length = sLen.getD wi 0 := by decide
theorem sKa : ∀ wi, wi < 14 → ∀ c ∈ sByt.getD wi [], (97 : Int32) ≤ c ∧ c ≤ 122 := by decide +kernel
theorem sKs : ∀ wi, wi < 14 → (wval (sByt.getD wi [])).toInt < 100000000000 := by decide +kernel
theorem chr_ok : ∀ wi, wi < 14 → ∀ i, i < sLen.getD wi 0 → ((sByt.getD wi []).getD i 0) &&& 255 = (sByt.getD wi []).getD i 0 ∧ (((sByt.getD wi []).getD i 0).toUInt32 % 65536).toInt32 = (sByt.getD wi []).getD i 0 ∧ narrow .char (.int ((sByt.getD wi []).getD i 0)) = .int ((sByt.getD wi []).getD i 0) := by decide +kernel
theorem tw_step {b : Nat → Int32} {n T kk : Nat} {K : List Int32} {r1 r2 : Int32} (hK : ∀ c ∈ K, inB c 97 122) (hk : kk < K.length) (HB : r1 = byF b n (T + kk)) (HC : r2 = K.getD kk 0) (C : r1 = r2) (h : letA b n (T + kk) = K.drop kk ↔ letA b n T = K) : (letA b n (T + (kk + 1)) = K.drop (kk + 1) ↔ letA b n T = K) ∧ T + (kk + 1) ≤ n := by
  have e : byF b n (T + kk) = K.getD kk 0 := HB.symm.trans (C.trans HC)
  have D := letA_drop (b := b) (n := n) (t := T) hK kk hk
  refine ⟨⟨fun q => h.mp (D.mpr ⟨e, q⟩), fun q => (D.mp (h.mpr q)).2⟩, ?_⟩
  rcases Nat.lt_or_ge (T + kk) n with q | q
  · omega
  · rw [byF_out (by omega)] at e
    have hm : K.getD kk 0 ∈ K := by
      rw [List.getD_eq_getElem?_getD, List.getElem?_eq_getElem hk]
      exact List.getElem_mem hk
    have h3 := hK _ hm
    rw [← e] at h3
    exact absurd h3.1 (by decide)
theorem tw_no {b : Nat → Int32} {n T kk : Nat} {K : List Int32} {r1 r2 : Int32} (hK : ∀ c ∈ K, inB c 97 122) (hk : kk < K.length) (HB : r1 = byF b n (T + kk)) (HC : r2 = K.getD kk 0) (C : ¬ r1 = r2) (h : letA b n (T + kk) = K.drop kk ↔ letA b n T = K) : ¬ letA b n T = K := by
  intro q
  have D := letA_drop (b := b) (n := n) (t := T) hK kk hk
  exact C (HB.trans ((D.mp (h.mpr q)).1.trans HC.symm))
theorem tw_end1 {b : Nat → Int32} {n T kk : Nat} {K : List Int32} (hk : kk = K.length) (h : letA b n (T + kk) = K.drop kk ↔ letA b n T = K) (hl : ¬ inB (byF b n (T + K.length)) 97 122) : letA b n T = K := by
  subst hk
  exact h.mp (letA_last.mpr hl)
theorem tw_end0 {b : Nat → Int32} {n T kk : Nat} {K : List Int32} (hk : kk = K.length) (h : letA b n (T + kk) = K.drop kk ↔ letA b n T = K) (hl : inB (byF b n (T + K.length)) 97 122) : ¬ letA b n T = K := by
  subst hk
  exact fun q => letA_last.mp (h.mpr q) hl
theorem wdR_1 {b : Nat → Int32} {n t t2 : Nat} {K : List Int32} (h : letA b n (skA b n t) = K) (e : t2 = skA b n t + K.length) : wdR b n K t = (0, 0, t2) := by
  unfold wdR
  rw [if_pos h, e]
theorem wdR_0 {b : Nat → Int32} {n t t2 : Nat} {K : List Int32} (h : ¬ letA b n (skA b n t) = K) (e : t2 = skA b n t) : wdR b n K t = (1, t2, t2) := by
  unfold wdR
  rw [if_neg h, e]
theorem smR_1 {b : Nat → Int32} {n t T : Nat} {r : Int32} (e : T = skA b n t) (h : r = byF b n T) (c : r = 59) : smR b n t = (0, 0, T + 1) := by
  unfold smR
  rw [← e, if_pos (h.symm.trans c)]
theorem smR_0 {b : Nat → Int32} {n t T : Nat} {r : Int32} (e : T = skA b n t) (h : r = byF b n T) (c : ¬ r = 59) : smR b n t = (1, T, T) := by
  unfold smR
  rw [← e, if_neg (fun q => c (h.trans q))]
theorem nn_step {b : Nat → Int32} {n F t : Nat} {va V : Int32} (ht : F ≤ t) (h : t < n) (hf : inB (byF b n t) 48 57) (hl : F + (figA b n F).length = t + (figA b n t).length) (hv : vXk (t - F) va (figA b n t) = V) : F + (figA b n F).length = t + 1 + (figA b n (t + 1)).length ∧ (t - F < 3 → ∀ r : Int32, r = byF b n t → vXk (t + 1 - F) (va * 10 + r - 48) (figA b n (t + 1)) = V) ∧ (¬ t - F < 3 → vXk (t + 1 - F) va (figA b n (t + 1)) = V) := by
  rw [byF_in h] at hf
  have g := figA_go h hf
  rw [g, List.length_cons] at hl
  rw [g] at hv
  have hv2 : vXk (t - F + 1) (if t - F < 3 then va * 10 + b t - 48 else va) (figA b n (t + 1)) = V := hv
  rw [show t - F + 1 = t + 1 - F by omega] at hv2
  refine ⟨by omega, fun c r hr => ?_, fun c => ?_⟩
  · rw [if_pos c] at hv2
    rw [hr, byF_in h]
    exact hv2
  · rw [if_neg c] at hv2
    exact hv2
/-- behind the figures -/
theorem nn_out {b : Nat → Int32} {n F t : Nat} {va V : Int32} (h : figA b n t = []) (hl : F + (figA b n F).length = t + (figA b n t).length) (hv : vXk (t - F) va (figA b n t) = V) : F + (figA b n F).length = t ∧ va = V := by
  rw [h] at hl hv
  exact ⟨hl, hv⟩
theorem nn_fe {b : Nat → Int32} {n t : Nat} (h : ¬ inB (byF b n t) 48 57) : figA b n t = [] := by
  rcases Nat.lt_or_ge t n with q | q
  · rw [byF_in q] at h
    exact figA_no h
  · exact figA_end q
theorem nuR_A {b : Nat → Int32} {n t a : Nat} {lo hi : Int32} (h : 0 ≤ lo) (e : a = skA b n t) : nuR b n (decide (lo < 0)) lo hi t = nuS b n false lo hi a a := by
  unfold nuR
  rw [if_neg (fun q => absurd (of_decide_eq_true q.1) (Int32.not_lt.mpr h)), e]
theorem nuR_B {b : Nat → Int32} {n t a : Nat} {lo hi r : Int32} {sg : Bool} (hr : r = byF b n a) (h : ¬ r = 45) (e : a = skA b n t) : nuR b n sg lo hi t = nuS b n false lo hi a a := by
  unfold nuR
  rw [if_neg (fun q => h (hr.trans (by rw [e]; exact q.2))), e]
theorem nuR_C {b : Nat → Int32} {n t a : Nat} {lo hi r : Int32} (h0 : ¬ 0 ≤ lo) (hr : r = byF b n a) (h : r = 45) (e : a = skA b n t) : nuR b n (decide (lo < 0)) lo hi t = nuS b n true lo hi a (a + 1) := by
  unfold nuR
  rw [if_pos ⟨decide_eq_true (Int32.not_le.mp h0), by rw [← e]; exact hr.symm.trans h⟩, e]
theorem nuS_1 {b : Nat → Int32} {n a f : Nat} {mi : Bool} {lo hi : Int32} (h : figA b n f = []) : nuS b n mi lo hi a f = (1, f, f, 0, a) := by
  unfold nuS
  rw [if_pos h]
theorem nuS_2 {b : Nat → Int32} {n a f t : Nat} {mi : Bool} {lo hi v : Int32} (hl : f + (figA b n f).length = t) (h : t ≠ f) (hv : vS mi (figA b n f) = v) (h2 : 3 < t - f ∨ ¬ (lo ≤ v ∧ v ≤ hi)) : nuS b n mi lo hi a f = (2, a, t, 0, a) := by
  unfold nuS
  rw [if_neg (fun q => h (by rw [← hl, q]; rfl)), hv, if_pos (h2.imp (fun q => by omega) id), hl]
theorem nuS_0 {b : Nat → Int32} {n a f t : Nat} {mi : Bool} {lo hi v : Int32} (hl : f + (figA b n f).length = t) (h : t ≠ f) (hv : vS mi (figA b n f) = v) (h2 : ¬ 3 < t - f) (h3 : lo ≤ v ∧ v ≤ hi) : nuS b n mi lo hi a f = (0, 0, t, v, a) := by
  unfold nuS
  rw [if_neg (fun q => h (by rw [← hl, q]; rfl)), hv, if_neg (fun q => q.elim (fun q => h2 (by omega)) (fun q => q h3)), hl]
theorem vS_f {L : List Int32} {v : Int32} (h : v = vX L) : vS false L = v := by
  rw [h]
  rfl
theorem vS_t {L : List Int32} {v w : Int32} (h : v = vX L) (e : w = -v) : vS true L = w := by
  rw [e, h]
  rfl
theorem nuS_1t {b : Nat → Int32} {n a f t : Nat} {mi : Bool} {lo hi : Int32} (hl : f + (figA b n f).length = t) (h : t = f) : nuS b n mi lo hi a f = (1, t, t, 0, a) := by
  have e : figA b n f = [] := List.eq_nil_of_length_eq_zero (by omega)
  rw [nuS_1 e, h]


theorem f_glueP1 : True := trivial
/-! what a text tells: runs of bytes of one kind, words, numbers -/
def blB (c : Int32) : Bool := decide (c = 32)
def letB (c : Int32) : Bool := decide (97 ≤ c) && decide (c ≤ 122)
def figB (c : Int32) : Bool := decide (48 ≤ c) && decide (c ≤ 57)
theorem blB_t {c : Int32} : blB c = true ↔ c = 32 := by
  unfold blB
  simp only [decide_eq_true_eq]
theorem blB_f {c : Int32} (h : ¬ c = 32) : blB c = false := by
  unfold blB
  simp only [decide_eq_false_iff_not]
  exact h
theorem letB_t {c : Int32} : letB c = true ↔ inB c 97 122 := by
  unfold letB inB
  simp only [Bool.and_eq_true, decide_eq_true_eq]
theorem letB_f {c : Int32} (h : ¬ inB c 97 122) : letB c = false := by
  rcases hq : letB c with _ | _
  · rfl
  · exact absurd (letB_t.mp hq) h
theorem figB_t {c : Int32} : figB c = true ↔ inB c 48 57 := by
  unfold figB inB
  simp only [Bool.and_eq_true, decide_eq_true_eq]
theorem figB_f {c : Int32} (h : ¬ inB c 48 57) : figB c = false := by
  rcases hq : figB c with _ | _
  · rfl
  · exact absurd (figB_t.mp hq) h
def runF (q : Int32 → Bool) (b : Nat → Int32) : Nat → Nat → List Int32
  | 0, _ => []
  | k + 1, t => if q (b t) = true then b t :: runF q b k (t + 1) else []
/-- the run of bytes of one kind that begins at t -/
def runA (q : Int32 → Bool) (b : Nat → Int32) (n t : Nat) : List Int32 := runF q b (n - t) t
theorem runA_go {q : Int32 → Bool} {b : Nat → Int32} {n t : Nat} (h : t < n) (hq : q (b t) = true) : runA q b n t = b t :: runA q b n (t + 1) := by
  unfold runA
  rw [show n - t = (n - (t + 1)) + 1 by omega]
  show (if q (b t) = true then b t :: runF q b (n - (t + 1)) (t + 1) else []) = _
  rw [if_pos hq]
theorem runA_no {q : Int32 → Bool} {b : Nat → Int32} {n t : Nat} (hq : q (b t) = false) : runA q b n t = [] := by
  unfold runA
  rcases n - t with _ | k
  · rfl
  · show (if q (b t) = true then b t :: runF q b k (t + 1) else []) = _
    rw [if_neg (by rw [hq]; decide)]
theorem runA_end {q : Int32 → Bool} {b : Nat → Int32} {n t : Nat} (h : n ≤ t) : runA q b n t = [] := by
  unfold runA
  rw [show n - t = 0 by omega]
  rfl
theorem runF_len (q : Int32 → Bool) (b : Nat → Int32) : ∀ k t, (runF q b k t).length ≤ k := by
  intro k
  induction k with
  | zero => intro t; exact Nat.le_refl 0
  | succ k ih =>
    intro t
    show (if q (b t) = true then b t :: runF q b k (t + 1) else []).length ≤ k + 1
    split
    · exact Nat.succ_le_succ (ih (t + 1))
    · exact Nat.zero_le _
theorem runA_len {q : Int32 → Bool} {b : Nat → Int32} {n t : Nat} (h : t ≤ n) : t + (runA q b n t).length ≤ n := by
  have h2 := runF_len q b (n - t) t
  unfold runA
  omega
theorem runF_all (q : Int32 → Bool) (b : Nat → Int32) : ∀ k t, ∀ c ∈ runF q b k t, q c = true := by
  intro k
  induction k with
  | zero => intro t c hc; exact absurd hc (List.not_mem_nil)
  | succ k ih =>
    intro t c hc
    have hc2 : c ∈ (if q (b t) = true then b t :: runF q b k (t + 1) else []) := hc
    split at hc2
    · rename_i hq
      rcases List.mem_cons.mp hc2 with rfl | h
      · exact hq
      · exact ih (t + 1) c h
    · exact absurd hc2 (List.not_mem_nil)
theorem runA_all {q : Int32 → Bool} {b : Nat → Int32} {n t : Nat} : ∀ c ∈ runA q b n t, q c = true := runF_all q b (n - t) t
/-- behind the blanks -/
def skA (b : Nat → Int32) (n t : Nat) : Nat := t + (runA blB b n t).length
theorem skA_go {b : Nat → Int32} {n t : Nat} (h : t < n) (hq : b t = 32) : skA b n (t + 1) = skA b n t := by
  unfold skA
  rw [runA_go h (blB_t.mpr hq), List.length_cons]
  omega
theorem skA_no {b : Nat → Int32} {n t : Nat} (hq : ¬ b t = 32) : skA b n t = t := by
  unfold skA
  rw [runA_no (blB_f hq)]
  rfl
theorem skA_end {b : Nat → Int32} {n t : Nat} (h : n ≤ t) : skA b n t = t := by
  unfold skA
  rw [runA_end h]
  rfl
theorem skA_ge (b : Nat → Int32) (n t : Nat) : t ≤ skA b n t := by
  unfold skA
  omega
theorem skA_le {b : Nat → Int32} {n t : Nat} (h : t ≤ n) : skA b n t ≤ n := runA_len h
theorem runA_stop {q : Int32 → Bool} {b : Nat → Int32} {n : Nat} : ∀ k t, n - t = k → t + (runA q b n t).length < n → q (b (t + (runA q b n t).length)) = false := by
  intro k
  induction k with
  | zero => intro t hk h; omega
  | succ k ih =>
    intro t hk h
    rcases hq : q (b t) with _ | _
    · rw [runA_no hq]
      exact hq
    · rw [runA_go (by omega) hq, List.length_cons] at h ⊢
      rw [show t + ((runA q b n (t + 1)).length + 1) = (t + 1) + (runA q b n (t + 1)).length by omega] at h ⊢
      exact ih (t + 1) (by omega) h
theorem skA_idem {b : Nat → Int32} {n t : Nat} : skA b n (skA b n t) = skA b n t := by
  rcases Nat.lt_or_ge (skA b n t) n with h | h
  · have h2 : blB (b (skA b n t)) = false := runA_stop _ t rfl h
    exact skA_no (fun e => absurd (blB_t.mpr e) (by rw [h2]; decide))
  · exact skA_end h
/-- the byte at t, or NONE -/
def byF (b : Nat → Int32) (n t : Nat) : Int32 := if t < n then b t else -1
theorem byF_in {b : Nat → Int32} {n t : Nat} (h : t < n) : byF b n t = b t := if_pos h
theorem byF_out {b : Nat → Int32} {n t : Nat} (h : ¬ t < n) : byF b n t = -1 := if_neg h
/-- the letters that begin at t -/
def letA (b : Nat → Int32) (n t : Nat) : List Int32 := runA letB b n t
/-- the word's bytes stand there, and no letter behind them -/
theorem letA_nil {b : Nat → Int32} {n t : Nat} : letA b n t = [] ↔ ¬ inB (byF b n t) 97 122 := by
  unfold letA
  rcases Nat.lt_or_ge t n with h | h
  · rw [byF_in h]
    rcases hq : letB (b t) with _ | _
    · rw [runA_no hq]
      exact ⟨fun _ hc => absurd (letB_t.mpr hc) (by rw [hq]; decide), fun _ => rfl⟩
    · rw [runA_go h hq]
      exact ⟨fun hc => absurd hc (List.cons_ne_nil _ _), fun hc => absurd (letB_t.mp hq) hc⟩
  · rw [byF_out (by omega), runA_end h]
    exact ⟨fun _ => by unfold inB; decide, fun _ => rfl⟩
theorem letA_cons {b : Nat → Int32} {n t : Nat} {k : Int32} {K : List Int32} (hk : inB k 97 122) : letA b n t = k :: K ↔ byF b n t = k ∧ letA b n (t + 1) = K := by
  unfold letA
  rcases Nat.lt_or_ge t n with h | h
  · rw [byF_in h]
    rcases hq : letB (b t) with _ | _
    · rw [runA_no hq]
      exact ⟨fun hc => absurd hc.symm (List.cons_ne_nil _ _), fun hc => absurd (letB_t.mpr hk) (by rw [← hc.1, hq]; decide)⟩
    · rw [runA_go h hq, List.cons.injEq]
  · rw [byF_out (by omega), runA_end h]
    exact ⟨fun hc => absurd hc.symm (List.cons_ne_nil _ _), fun hc => absurd hk (by rw [← hc.1]; unfold inB; decide)⟩
/-- the same, byte by byte from place j of the word on -/
theorem letA_drop {b : Nat → Int32} {n t : Nat} {K : List Int32} (hK : ∀ c ∈ K, inB c 97 122) : ∀ j, j < K.length → (letA b n (t + j) = K.drop j ↔ byF b n (t + j) = K.getD j 0 ∧ letA b n (t + (j + 1)) = K.drop (j + 1)) := by
  intro j hj
  rw [List.drop_eq_getElem_cons hj, letA_cons (hK _ (List.getElem_mem hj))]
  have e : K.getD j 0 = K[j] := by simp [List.getD_eq_getElem?_getD, List.getElem?_eq_getElem hj]
  rw [e]
  exact Iff.rfl
theorem letA_last {b : Nat → Int32} {n t : Nat} {K : List Int32} : letA b n (t + K.length) = K.drop K.length ↔ ¬ inB (byF b n (t + K.length)) 97 122 := by
  rw [List.drop_length]
  exact letA_nil
/-! a word as a number -/
def stW (w : Int64) (c : Int32) : Int64 := if 1000000000000 < w then 2000000000000 else ((27 : Int32).toInt64) * w + c.toInt64 - ((96 : Int32).toInt64)
def wval (L : List Int32) : Int64 := L.foldl stW ((0 : Int32).toInt64)
def gN (L : List Int32) : Int := L.foldr (fun c w => if 1000000000000 < w then 2000000000000 else 27 * w + c.toInt - 96) 0
theorem gN_pos : ∀ L : List Int32, (∀ c ∈ L, inB c 97 122) → 0 ≤ gN L ∧ gN L ≤ 28000000000000 ∧ (L ≠ [] → 1 ≤ gN L) := by
  intro L
  induction L with
  | nil => intro _; exact ⟨by decide, by decide, fun h => absurd rfl h⟩
  | cons c L ih =>
    intro h
    obtain ⟨h1, h2, -⟩ := ih (fun x hx => h x (List.mem_cons_of_mem _ hx))
    have hc := h c List.mem_cons_self
    unfold inB at hc
    rw [Int32.le_iff_toInt_le, Int32.le_iff_toInt_le] at hc
    have e1 : (97 : Int32).toInt = 97 := by decide
    have e2 : (122 : Int32).toInt = 122 := by decide
    rw [e1, e2] at hc
    show 0 ≤ (if 1000000000000 < gN L then 2000000000000 else 27 * gN L + c.toInt - 96) ∧ (if 1000000000000 < gN L then 2000000000000 else 27 * gN L + c.toInt - 96) ≤ 28000000000000 ∧ (_ → 1 ≤ (if 1000000000000 < gN L then 2000000000000 else 27 * gN L + c.toInt - 96))
    split
    · exact ⟨by omega, by omega, fun _ => by omega⟩
    · exact ⟨by omega, by omega, fun _ => by omega⟩
theorem gN_inj : ∀ K L : List Int32, (∀ c ∈ K, inB c 97 122) → (∀ c ∈ L, inB c 97 122) → gN K < 100000000000 → gN L = gN K → L = K := by
  intro K
  induction K with
  | nil =>
    intro L hK hL _ h
    rcases L with _ | ⟨d, L⟩
    · rfl
    · have h2 := (gN_pos (d :: L) hL).2.2 (List.cons_ne_nil _ _)
      rw [h] at h2
      exact absurd h2 (by decide)
  | cons k K ih =>
    intro L hK hL hs h
    rcases L with _ | ⟨d, L⟩
    · have h2 := (gN_pos (k :: K) hK).2.2 (List.cons_ne_nil _ _)
      rw [← h] at h2
      exact absurd h2 (by decide)
    · have hk := hK k List.mem_cons_self
      have hd := hL d List.mem_cons_self
      have hK2 : ∀ c ∈ K, inB c 97 122 := fun c hc => hK c (List.mem_cons_of_mem _ hc)
      have hL2 : ∀ c ∈ L, inB c 97 122 := fun c hc => hL c (List.mem_cons_of_mem _ hc)
      have p1 := gN_pos K hK2
      have p2 := gN_pos L hL2
      unfold inB at hk hd
      rw [Int32.le_iff_toInt_le, Int32.le_iff_toInt_le] at hk hd
      have e1 : (97 : Int32).toInt = 97 := by decide
      have e2 : (122 : Int32).toInt = 122 := by decide
      rw [e1, e2] at hk hd
      have hs2 : (if 1000000000000 < gN K then 2000000000000 else 27 * gN K + k.toInt - 96) < 100000000000 := hs
      have h2 : (if 1000000000000 < gN L then 2000000000000 else 27 * gN L + d.toInt - 96) = (if 1000000000000 < gN K then 2000000000000 else 27 * gN K + k.toInt - 96) := h
      have c1 : ¬ 1000000000000 < gN K := fun hc => by rw [if_pos hc] at hs2; omega
      rw [if_neg c1] at hs2 h2
      have c2 : ¬ 1000000000000 < gN L := fun hc => by rw [if_pos hc] at h2; omega
      rw [if_neg c2] at h2
      have hdk : d = k := Int32.toInt_inj.mp (by omega)
      rw [hdk, ih L hK2 hL2 (by omega) (by omega)]
theorem stW_toInt {w : Int64} {c : Int32} (h0 : 0 ≤ w.toInt) (h1 : w.toInt ≤ 28000000000000) (hc : inB c 97 122) : (stW w c).toInt = if 1000000000000 < w.toInt then 2000000000000 else 27 * w.toInt + c.toInt - 96 := by
  unfold inB at hc
  rw [Int32.le_iff_toInt_le, Int32.le_iff_toInt_le] at hc
  have e1 : (97 : Int32).toInt = 97 := by decide
  have e2 : (122 : Int32).toInt = 122 := by decide
  rw [e1, e2] at hc
  have e3 : (1000000000000 : Int64).toInt = 1000000000000 := by decide
  have e4 : (2000000000000 : Int64).toInt = 2000000000000 := by decide
  have e5 : ((27 : Int32).toInt64).toInt = 27 := by decide
  have e6 : ((96 : Int32).toInt64).toInt = 96 := by decide
  have hb : ∀ z : Int, -4000000000000000 ≤ z → z ≤ 4000000000000000 → z.bmod (2 ^ 64) = z := fun z h2 h3 => Int.bmod_eq_of_le (by omega) (by omega)
  unfold stW
  by_cases h : 1000000000000 < w
  · have h2 := Int64.lt_iff_toInt_lt.mp h
    rw [e3] at h2
    rw [if_pos h, if_pos h2, e4]
  · have h2 : ¬ 1000000000000 < w.toInt := fun q => h (Int64.lt_iff_toInt_lt.mpr (by rw [e3]; exact q))
    rw [if_neg h, if_neg h2, Int64.toInt_sub, Int64.toInt_add, Int64.toInt_mul, e5, e6, Int32.toInt_toInt64, hb (27 * w.toInt) (by omega) (by omega), hb (27 * w.toInt + c.toInt) (by omega) (by omega), hb _ (by omega) (by omega)]
theorem wval_snoc (L : List Int32) (c : Int32) : wval (L ++ [c]) = stW (wval L) c := by
  unfold wval
  rw [List.foldl_append]
  rfl
theorem wval_g : ∀ R : List Int32, (∀ c ∈ R, inB c 97 122) → (wval R.reverse).toInt = gN R := by
  intro R
  induction R with
  | nil => intro _; decide
  | cons c R ih =>
    intro h
    have h2 : ∀ x ∈ R, inB x 97 122 := fun x hx => h x (List.mem_cons_of_mem _ hx)
    have p := gN_pos R h2
    have e := ih h2
    rw [List.reverse_cons, wval_snoc, stW_toInt (by rw [e]; exact p.1) (by rw [e]; exact p.2.1) (h c List.mem_cons_self), e]
    rfl
theorem wval_inj {K L : List Int32} (hK : ∀ c ∈ K, inB c 97 122) (hL : ∀ c ∈ L, inB c 97 122) (hs : (wval K).toInt < 100000000000) : wval L = wval K ↔ L = K := by
  refine ⟨fun h => ?_, fun h => by rw [h]⟩
  have hK2 : ∀ c ∈ K.reverse, inB c 97 122 := fun c hc => hK c (List.mem_reverse.mp hc)
  have hL2 : ∀ c ∈ L.reverse, inB c 97 122 := fun c hc => hL c (List.mem_reverse.mp hc)
  have g1 := wval_g K.reverse hK2
  have g2 := wval_g L.reverse hL2
  rw [List.reverse_reverse] at g1 g2
  have h3 := gN_inj K.reverse L.reverse hK2 hL2 (by rw [← g1]; exact hs) (by rw [← g1, ← g2, h])
  have h4 := congrArg List.reverse h3
  rw [List.reverse_reverse, List.reverse_reverse] at h4
  exact h4
theorem letA_all {b : Nat → Int32} {n t : Nat} : ∀ c ∈ letA b n t, inB c 97 122 := fun c hc => letB_t.mp (runA_all c hc)
/-! numbers -/
def stN (v c : Int32) : Int32 := if 10000 < v then v else 10 * v + c - 48
def vM (L : List Int32) : Int32 := L.foldl stN 0
def vXk : Nat → Int32 → List Int32 → Int32
  | _, v, [] => v
  | k, v, c :: L => vXk (k + 1) (if k < 3 then v * 10 + c - 48 else v) L
def vX (L : List Int32) : Int32 := vXk 0 0 L
theorem fig_step : ∀ a, a < 1000 → ∀ d, d < 10 → (10 : Int32) * nI a + nI (48 + d) - 48 = nI (10 * a + d) := by
  intro a _ d _
  show nI 10 * nI a + nI (48 + d) - nI 48 = _
  rw [pk_mul, nI_add, pk_sub (by omega)]
  congr 1
  omega
theorem fig_stepX : ∀ a, a < 1000 → ∀ d, d < 10 → nI a * (10 : Int32) + nI (48 + d) - 48 = nI (10 * a + d) := by
  intro a _ d _
  show nI a * nI 10 + nI (48 + d) - nI 48 = _
  rw [pk_mul, nI_add, pk_sub (by omega)]
  congr 1
  omega
theorem fig_of {c : Int32} (h : inB c 48 57) : ∃ d : Nat, d < 10 ∧ c = nI (48 + d) := by
  obtain ⟨j, h1, h2, rfl⟩ := inB_ofc (a := 48) (b := 57) (by omega) (by omega) h
  exact ⟨j - 48, by omega, by rw [show 48 + (j - 48) = j by omega]⟩
theorem stN_nI {a d : Nat} (ha : a < 1000) (hd : d < 10) : stN (nI a) (nI (48 + d)) = nI (10 * a + d) := by
  unfold stN
  rw [if_neg (fun h : (10000 : Int32) < nI a => absurd ((nI_ltI (a := 10000) (b := a) (by omega) (by omega)).mp h) (by omega)), fig_step a ha d hd]
/-- up to three figures: both ways of reading come to the same number -/
theorem v_same : ∀ L : List Int32, (∀ c ∈ L, inB c 48 57) → L.length ≤ 3 → ∃ m : Nat, m < 1000 ∧ vM L = nI m ∧ vX L = nI m := by
  intro L h hl
  have hz : (0 : Int32) = nI 0 := rfl
  rcases L with _ | ⟨c1, _ | ⟨c2, _ | ⟨c3, _ | ⟨c4, L⟩⟩⟩⟩
  · exact ⟨0, by omega, rfl, rfl⟩
  · obtain ⟨d1, h1, rfl⟩ := fig_of (h c1 (by simp))
    refine ⟨d1, by omega, ?_, ?_⟩
    · show stN 0 (nI (48 + d1)) = _
      rw [hz, stN_nI (by omega) h1]
      congr 1
      omega
    · show (0 : Int32) * 10 + nI (48 + d1) - 48 = _
      rw [hz, fig_stepX 0 (by omega) d1 h1]
      congr 1
      omega
  · obtain ⟨d1, h1, rfl⟩ := fig_of (h c1 (by simp))
    obtain ⟨d2, h2, rfl⟩ := fig_of (h c2 (by simp))
    refine ⟨10 * d1 + d2, by omega, ?_, ?_⟩
    · show stN (stN 0 (nI (48 + d1))) (nI (48 + d2)) = _
      rw [hz, stN_nI (by omega) h1, stN_nI (by omega) h2]
      congr 1
      omega
    · show ((0 : Int32) * 10 + nI (48 + d1) - 48) * 10 + nI (48 + d2) - 48 = _
      rw [hz, fig_stepX 0 (by omega) d1 h1, fig_stepX _ (by omega) d2 h2]
      congr 1
      omega
  · obtain ⟨d1, h1, rfl⟩ := fig_of (h c1 (by simp))
    obtain ⟨d2, h2, rfl⟩ := fig_of (h c2 (by simp))
    obtain ⟨d3, h3, rfl⟩ := fig_of (h c3 (by simp))
    refine ⟨100 * d1 + 10 * d2 + d3, by omega, ?_, ?_⟩
    · show stN (stN (stN 0 (nI (48 + d1))) (nI (48 + d2))) (nI (48 + d3)) = _
      rw [hz, stN_nI (by omega) h1, stN_nI (by omega) h2, stN_nI (by omega) h3]
      congr 1
      omega
    · show (((0 : Int32) * 10 + nI (48 + d1) - 48) * 10 + nI (48 + d2) - 48) * 10 + nI (48 + d3) - 48 = _
      rw [hz, fig_stepX 0 (by omega) d1 h1, fig_stepX _ (by omega) d2 h2, fig_stepX _ (by omega) d3 h3]
      congr 1
      omega
  · simp only [List.length_cons] at hl
    omega
def figA (b : Nat → Int32) (n t : Nat) : List Int32 := runA figB b n t
theorem figA_all {b : Nat → Int32} {n t : Nat} : ∀ c ∈ figA b n t, inB c 48 57 := fun c hc => figB_t.mp (runA_all c hc)
theorem figA_go {b : Nat → Int32} {n t : Nat} (h : t < n) (hq : inB (b t) 48 57) : figA b n t = b t :: figA b n (t + 1) := runA_go h (figB_t.mpr hq)
theorem figA_no {b : Nat → Int32} {n t : Nat} (hq : ¬ inB (b t) 48 57) : figA b n t = [] := runA_no (figB_f hq)
theorem figA_end {b : Nat → Int32} {n t : Nat} (h : n ≤ t) : figA b n t = [] := runA_end h
theorem letA_go {b : Nat → Int32} {n t : Nat} (h : t < n) (hq : inB (b t) 97 122) : letA b n t = b t :: letA b n (t + 1) := runA_go h (letB_t.mpr hq)
theorem letA_no {b : Nat → Int32} {n t : Nat} (hq : ¬ inB (b t) 97 122) : letA b n t = [] := runA_no (letB_f hq)
theorem letA_end {b : Nat → Int32} {n t : Nat} (h : n ≤ t) : letA b n t = [] := runA_end h
/-- a NUMBER: its fault (0, 1, 2), the fault's place, where one stands behind it, its value, where it began -/
def vS (mi : Bool) (L : List Int32) : Int32 := if mi = true then -vX L else vX L
def nuS (b : Nat → Int32) (n : Nat) (mi : Bool) (lo hi : Int32) (a f : Nat) : Nat × Nat × Nat × Int32 × Nat :=
  if figA b n f = [] then (1, f, f, 0, a)
  else if 3 < (figA b n f).length ∨ ¬ (lo ≤ vS mi (figA b n f) ∧ vS mi (figA b n f) ≤ hi) then (2, a, f + (figA b n f).length, 0, a)
  else (0, 0, f + (figA b n f).length, vS mi (figA b n f), a)
def nuR (b : Nat → Int32) (n : Nat) (sg : Bool) (lo hi : Int32) (t : Nat) : Nat × Nat × Nat × Int32 × Nat :=
  if sg = true ∧ byF b n (skA b n t) = 45 then nuS b n true lo hi (skA b n t) (skA b n t + 1) else nuS b n false lo hi (skA b n t) (skA b n t)
/-- a word that must stand; a semicolon -/
def wdR (b : Nat → Int32) (n : Nat) (K : List Int32) (t : Nat) : Nat × Nat × Nat :=
  if letA b n (skA b n t) = K then (0, 0, skA b n t + K.length) else (1, skA b n t, skA b n t)
def smR (b : Nat → Int32) (n t : Nat) : Nat × Nat × Nat :=
  if byF b n (skA b n t) = 59 then (0, 0, skA b n t + 1) else (1, skA b n t, skA b n t)

theorem f_glueP2 : True := trivial
def bF (f : Nat → Int32) : Nat → Int32 := fun j => f j &&& 255
theorem sKl : ∀ wi, wi < 14 → (sByt.getD wi []).length = sLen.getD wi 0 := by decide
theorem sKa : ∀ wi, wi < 14 → ∀ c ∈ sByt.getD wi [], (97 : Int32) ≤ c ∧ c ≤ 122 := by decide +kernel
theorem sKs : ∀ wi, wi < 14 → (wval (sByt.getD wi [])).toInt < 100000000000 := by decide +kernel
theorem chr_ok : ∀ wi, wi < 14 → ∀ i, i < sLen.getD wi 0 → ((sByt.getD wi []).getD i 0) &&& 255 = (sByt.getD wi []).getD i 0 ∧ (((sByt.getD wi []).getD i 0).toUInt32 % 65536).toInt32 = (sByt.getD wi []).getD i 0 ∧ narrow .char (.int ((sByt.getD wi []).getD i 0)) = .int ((sByt.getD wi []).getD i 0) := by decide +kernel
theorem tw_step {b : Nat → Int32} {n T kk : Nat} {K : List Int32} {r1 r2 : Int32} (hK : ∀ c ∈ K, inB c 97 122) (hk : kk < K.length) (HB : r1 = byF b n (T + kk)) (HC : r2 = K.getD kk 0) (C : r1 = r2) (h : letA b n (T + kk) = K.drop kk ↔ letA b n T = K) : (letA b n (T + (kk + 1)) = K.drop (kk + 1) ↔ letA b n T = K) ∧ T + (kk + 1) ≤ n := by
  have e : byF b n (T + kk) = K.getD kk 0 := HB.symm.trans (C.trans HC)
  have D := letA_drop (b := b) (n := n) (t := T) hK kk hk
  refine ⟨⟨fun q => h.mp (D.mpr ⟨e, q⟩), fun q => (D.mp (h.mpr q)).2⟩, ?_⟩
  rcases Nat.lt_or_ge (T + kk) n with q | q
  · omega
  · rw [byF_out (by omega)] at e
    have hm : K.getD kk 0 ∈ K := by
      rw [List.getD_eq_getElem?_getD, List.getElem?_eq_getElem hk]
      exact List.getElem_mem hk
    have h3 := hK _ hm
    rw [← e] at h3
    exact absurd h3.1 (by decide)
theorem tw_no {b : Nat → Int32} {n T kk : Nat} {K : List Int32} {r1 r2 : Int32} (hK : ∀ c ∈ K, inB c 97 122) (hk : kk < K.length) (HB : r1 = byF b n (T + kk)) (HC : r2 = K.getD kk 0) (C : ¬ r1 = r2) (h : letA b n (T + kk) = K.drop kk ↔ letA b n T = K) : ¬ letA b n T = K := by
  intro q
  have D := letA_drop (b := b) (n := n) (t := T) hK kk hk
  exact C (HB.trans ((D.mp (h.mpr q)).1.trans HC.symm))
theorem tw_end1 {b : Nat → Int32} {n T kk : Nat} {K : List Int32} (hk : kk = K.length) (h : letA b n (T + kk) = K.drop kk ↔ letA b n T = K) (hl : ¬ inB (byF b n (T + K.length)) 97 122) : letA b n T = K := by
  subst hk
  exact h.mp (letA_last.mpr hl)
theorem tw_end0 {b : Nat → Int32} {n T kk : Nat} {K : List Int32} (hk : kk = K.length) (h : letA b n (T + kk) = K.drop kk ↔ letA b n T = K) (hl : inB (byF b n (T + K.length)) 97 122) : ¬ letA b n T = K := by
  subst hk
  exact fun q => letA_last.mp (h.mpr q) hl
theorem wdR_1 {b : Nat → Int32} {n t t2 : Nat} {K : List Int32} (h : letA b n (skA b n t) = K) (e : t2 = skA b n t + K.length) : wdR b n K t = (0, 0, t2) := by
  unfold wdR
  rw [if_pos h, e]
theorem wdR_0 {b : Nat → Int32} {n t t2 : Nat} {K : List Int32} (h : ¬ letA b n (skA b n t) = K) (e : t2 = skA b n t) : wdR b n K t = (1, t2, t2) := by
  unfold wdR
  rw [if_neg h, e]
theorem smR_1 {b : Nat → Int32} {n t T : Nat} {r : Int32} (e : T = skA b n t) (h : r = byF b n T) (c : r = 59) : smR b n t = (0, 0, T + 1) := by
  unfold smR
  rw [← e, if_pos (h.symm.trans c)]
theorem smR_0 {b : Nat → Int32} {n t T : Nat} {r : Int32} (e : T = skA b n t) (h : r = byF b n T) (c : ¬ r = 59) : smR b n t = (1, T, T) := by
  unfold smR
  rw [← e, if_neg (fun q => c (h.trans q))]
theorem nn_step {b : Nat → Int32} {n F t : Nat} {va V : Int32} (ht : F ≤ t) (h : t < n) (hf : inB (byF b n t) 48 57) (hl : F + (figA b n F).length = t + (figA b n t).length) (hv : vXk (t - F) va (figA b n t) = V) : F + (figA b n F).length = t + 1 + (figA b n (t + 1)).length ∧ (t - F < 3 → ∀ r : Int32, r = byF b n t → vXk (t + 1 - F) (va * 10 + r - 48) (figA b n (t + 1)) = V) ∧ (¬ t - F < 3 → vXk (t + 1 - F) va (figA b n (t + 1)) = V) := by
  rw [byF_in h] at hf
  have g := figA_go h hf
  rw [g, List.length_cons] at hl
  rw [g] at hv
  have hv2 : vXk (t - F + 1) (if t - F < 3 then va * 10 + b t - 48 else va) (figA b n (t + 1)) = V := hv
  rw [show t - F + 1 = t + 1 - F by omega] at hv2
  refine ⟨by omega, fun c r hr => ?_, fun c => ?_⟩
  · rw [if_pos c] at hv2
    rw [hr, byF_in h]
    exact hv2
  · rw [if_neg c] at hv2
    exact hv2
/-- behind the figures -/
theorem nn_out {b : Nat → Int32} {n F t : Nat} {va V : Int32} (h : figA b n t = []) (hl : F + (figA b n F).length = t + (figA b n t).length) (hv : vXk (t - F) va (figA b n t) = V) : F + (figA b n F).length = t ∧ va = V := by
  rw [h] at hl hv
  exact ⟨hl, hv⟩
theorem nn_fe {b : Nat → Int32} {n t : Nat} (h : ¬ inB (byF b n t) 48 57) : figA b n t = [] := by
  rcases Nat.lt_or_ge t n with q | q
  · rw [byF_in q] at h
    exact figA_no h
  · exact figA_end q
theorem nuR_A {b : Nat → Int32} {n t a : Nat} {lo hi : Int32} (h : 0 ≤ lo) (e : a = skA b n t) : nuR b n (decide (lo < 0)) lo hi t = nuS b n false lo hi a a := by
  unfold nuR
  rw [if_neg (fun q => absurd (of_decide_eq_true q.1) (Int32.not_lt.mpr h)), e]
theorem nuR_B {b : Nat → Int32} {n t a : Nat} {lo hi r : Int32} {sg : Bool} (hr : r = byF b n a) (h : ¬ r = 45) (e : a = skA b n t) : nuR b n sg lo hi t = nuS b n false lo hi a a := by
  unfold nuR
  rw [if_neg (fun q => h (hr.trans (by rw [e]; exact q.2))), e]
theorem nuR_C {b : Nat → Int32} {n t a : Nat} {lo hi r : Int32} (h0 : ¬ 0 ≤ lo) (hr : r = byF b n a) (h : r = 45) (e : a = skA b n t) : nuR b n (decide (lo < 0)) lo hi t = nuS b n true lo hi a (a + 1) := by
  unfold nuR
  rw [if_pos ⟨decide_eq_true (Int32.not_le.mp h0), by rw [← e]; exact hr.symm.trans h⟩, e]
theorem nuS_1 {b : Nat → Int32} {n a f : Nat} {mi : Bool} {lo hi : Int32} (h : figA b n f = []) : nuS b n mi lo hi a f = (1, f, f, 0, a) := by
  unfold nuS
  rw [if_pos h]
theorem nuS_2 {b : Nat → Int32} {n a f t : Nat} {mi : Bool} {lo hi v : Int32} (hl : f + (figA b n f).length = t) (h : t ≠ f) (hv : vS mi (figA b n f) = v) (h2 : 3 < t - f ∨ ¬ (lo ≤ v ∧ v ≤ hi)) : nuS b n mi lo hi a f = (2, a, t, 0, a) := by
  unfold nuS
  rw [if_neg (fun q => h (by rw [← hl, q]; rfl)), hv, if_pos (h2.imp (fun q => by omega) id), hl]
theorem nuS_0 {b : Nat → Int32} {n a f t : Nat} {mi : Bool} {lo hi v : Int32} (hl : f + (figA b n f).length = t) (h : t ≠ f) (hv : vS mi (figA b n f) = v) (h2 : ¬ 3 < t - f) (h3 : lo ≤ v ∧ v ≤ hi) : nuS b n mi lo hi a f = (0, 0, t, v, a) := by
  unfold nuS
  rw [if_neg (fun q => h (by rw [← hl, q]; rfl)), hv, if_neg (fun q => q.elim (fun q => h2 (by omega)) (fun q => q h3)), hl]
theorem vS_f {L : List Int32} {v : Int32} (h : v = vX L) : vS false L = v := by
  rw [h]
  rfl
theorem vS_t {L : List Int32} {v w : Int32} (h : v = vX L) (e : w = -v) : vS true L = w := by
  rw [e, h]
  rfl
theorem nuS_1t {b : Nat → Int32} {n a f t : Nat} {mi : Bool} {lo hi : Int32} (hl : f + (figA b n f).length = t) (h : t = f) : nuS b n mi lo hi a f = (1, t, t, 0, a) := by
  have e : figA b n f = [] := List.eq_nil_of_length_eq_zero (by omega)
  rw [nuS_1 e, h]


set_option maxHeartbeats 4000000 in
set_option maxRecDepth 100000 in
theorem y_charAtL (l : Launch) (D : va_G) (k : Nat → ClassId) (st : Nat → Nat) (lo : Nat) (wi : Nat) (i : Nat) (hwi : wi < 14) (hi : i < sLen.getD wi 0) : CWi l D k st lo yJ1_charAt_3b067 cJ1_charAt_3b067 2 (some .char) ({ frames := 2, cells := 0, slots := 0, locals := 43 }) 0 0 [.ref (st (200 + wi)), .int (nI i)] [] (fun (r : Int32) (_ : Unit) => r = (sByt.getD wi []).getD i 0) (fun (_ : Unit) => []) := by
  intro sz
  refine Met.ofW (cc := cJ1_charAt_3b067) (maxL := 2) (ret := (some .char)) (by decide) rfl ?_
  intro p e s m args below meth c s₁ B hml hv
  obtain ⟨rfl, hsz, hlo, hP, hK, hDL, hZ⟩ := hv
  have hx := B.exec
  have hb := B.bytes
  have hr := B.returns
  have hts := WS_ts B.pre
  have hown : s.vm.findClass RJ1 = some m.cls := findClass_of_methodNamed B.named
  have hlocks := B.notSynchronized
  subst hsz
  have hD := hDL.self (sz := s.heap.size)
  have hAlo := A_lo hDL hlo
  generalize hAe : va_A [] s.heap.size = A at hD hAlo ⊢
  have hA : ∀ q : Nat, s.heap.size ≤ q → A q := fun q h => by rw [← hAe]; exact Or.inr h
  have hS : va_S A s.heap s.heap [] := va_S.rf
  have hl := lv_entry ([.ref (st (200 + wi)), .int (nI i)]) (n := 2) (Nat.le_of_ble_eq_true rfl)
  rw [lg_entry_eq]
  generalize (lg_sl ([.ref (st (200 + wi)), .int (nI i)]) ++ List.replicate (2 - (lg_sl ([.ref (st (200 + wi)), .int (nI i)])).length) Slot.unset).toArray = ls at hl ⊢
  have hl : lv_has ls 2 [(0, .ref (st (200 + wi))), (1, .int (nI i))] := hl
  have hsl := sLen_le wi hwi
  refine lv_iload_n hx hb dJ1_charAt_3b067_0 rfl (lv_at hl 1 rfl) ?_
  refine lv_aload_n hx hb dJ1_charAt_3b067_1 rfl (lv_at hl 0 rfl) ?_
  refine va_tlen (A := A) hx hb ((hZ.2.2.2.2.2.2.2.2.2.1.1 wi (by omega)).2.2.2.narrow hAlo) hS (v := (nI (sLen.getD wi 0))) rfl dJ1_charAt_3b067_2 ?_
  refine rw_v (D := D) (wr := []) (va_runS (As := [.int (nI i), .int (nI (sLen.getD wi 0))]) (rest := []) ⟨hx, hb, hml, hown, hts⟩ ((x_six l D k st lo i (sLen.getD wi 0) (by first | assumption | omega) (by first | assumption | omega)) s.heap.size) (va_cwS 2 hts (gS tw_424 tw_425 tw_89 tw_426) rfl rfl rfl (by decide +kernel) ⟨Nat.le_of_ble_eq_true rfl, Nat.le_of_ble_eq_true rfl⟩) (pS hS hAlo hlo hP hK (va_Dlo hD hAlo) hZ [] (by decide) rfl) rfl rfl hl.1 rfl (lv_room (Nat.le_of_ble_eq_true rfl)) dJ1_charAt_3b067_3 ⟨Nat.le_of_ble_eq_true rfl, Nat.le_of_ble_eq_true rfl⟩) hS hA hP hD [] [] rfl rfl (by decide) (by decide) (fun u H locs hw_1 hP hD hS => ?_)
  replace hP : va_P D classes [] H := hP
  replace hD : va_D A [] := hD
  try dsimp only at hw_1
  refine lv_aload_n hx hb dJ1_charAt_3b067_6 rfl (lv_at hl 0 rfl) ?_
  refine lv_iload_n hx hb dJ1_charAt_3b067_7 rfl (lv_at hl 1 rfl) ?_
  refine va_tb (A := A) hx hb ((hZ.2.2.2.2.2.2.2.2.2.1.1 wi (by omega)).2.2.2.narrow hAlo) hS (i := (nI i)) (vp_in_nI (by omega) (by omega)) (v := .int ((sByt.getD wi []).getD i 0)) (by show Value.int ((sByt.getD wi []).getD ((nI i)).toNatClampNeg 0) = _; rw [nI_clamp (by omega)]) dJ1_charAt_3b067_8 ?_
  refine lv_sipush (v := 255) hx hb dJ1_charAt_3b067_9 (by decide) ?_
  refine lv_iand hx hb dJ1_charAt_3b067_12 ?_
  refine lv_topi (fun x_2 ex_2 => ?_)
  refine lv_ti (y := ((sByt.getD wi []).getD i 0)) (by rw [ex_2]; exact (chr_ok wi hwi i hi).1) ?_
  refine lv_i2c (v := ((sByt.getD wi []).getD i 0)) hx hb dJ1_charAt_3b067_13 (chr_ok wi hwi i hi).2.1 ?_
  have hP9 := hP.sub (ws' := []) [] rfl
  have hD9 := hD.sub (ws' := []) [] (by decide) rfl
  exact W.zret (v := ((sByt.getD wi []).getD i 0)) (ty := .char) hx hb hr (chr_ok wi hwi i hi).2.2 (fun t ht hW => ⟨⟨((sByt.getD wi []).getD i 0), (), rfl, rfl, by rw [ht]; exact hP9, hD9⟩, hS.F ht⟩) hS.2.2 dJ1_charAt_3b067_14


set_option maxHeartbeats 4000000 in
set_option maxRecDepth 100000 in
theorem y_charAt (l : Launch) (D : va_G) (k : Nat → ClassId) (st : Nat → Nat) (lo : Nat) (wi : Nat) (i : Nat) (hwi : wi < 14) (hi : i < sLen.getD wi 0) : CWi l D k st lo yJ0_charAt_5068e cJ0_charAt_5068e 2 (some .char) ({ frames := 3, cells := 0, slots := 0, locals := 64 }) 0 0 [.ref (st (100 + wi)), .int (nI i)] [] (fun (r : Int32) (_ : Unit) => r = (sByt.getD wi []).getD i 0) (fun (_ : Unit) => []) := by
  intro sz
  refine Met.ofW (cc := cJ0_charAt_5068e) (maxL := 2) (ret := (some .char)) (by decide) rfl ?_
  intro p e s m args below meth c s₁ B hml hv
  obtain ⟨rfl, hsz, hlo, hP, hK, hDL, hZ⟩ := hv
  have hx := B.exec
  have hb := B.bytes
  have hr := B.returns
  have hts := WS_ts B.pre
  have hown : s.vm.findClass RJ0 = some m.cls := findClass_of_methodNamed B.named
  have hlocks := B.notSynchronized
  subst hsz
  have hD := hDL.self (sz := s.heap.size)
  have hAlo := A_lo hDL hlo
  generalize hAe : va_A [] s.heap.size = A at hD hAlo ⊢
  have hA : ∀ q : Nat, s.heap.size ≤ q → A q := fun q h => by rw [← hAe]; exact Or.inr h
  have hS : va_S A s.heap s.heap [] := va_S.rf
  have hl := lv_entry ([.ref (st (100 + wi)), .int (nI i)]) (n := 2) (Nat.le_of_ble_eq_true rfl)
  rw [lg_entry_eq]
  generalize (lg_sl ([.ref (st (100 + wi)), .int (nI i)]) ++ List.replicate (2 - (lg_sl ([.ref (st (100 + wi)), .int (nI i)])).length) Slot.unset).toArray = ls at hl ⊢
  have hl : lv_has ls 2 [(0, .ref (st (100 + wi))), (1, .int (nI i))] := hl
  have hsl := sLen_le wi hwi
  refine lv_aload_n hx hb dJ0_charAt_5068e_0 rfl (lv_at hl 0 rfl) ?_
  refine ro_i (D := D) (va_runV (As := []) (rest := []) ⟨hx, hb, hml, hown, hts⟩ ((x_isLatin1 l D k st lo wi (by first | assumption | omega)) s.heap.size) (cwV 0 hts (gV tw_417 tw_418 tw_419 tw_89 tw_420) rfl rfl rfl (by decide +kernel) ⟨Nat.le_of_ble_eq_true rfl, Nat.le_of_ble_eq_true rfl⟩) (pVs (i := wi) (by omega) hS hAlo hlo hP hK (va_Dlo hD hAlo) hZ [] (by decide) rfl) rfl rfl hl.1 rfl (lv_room (Nat.le_of_ble_eq_true rfl)) dJ0_charAt_5068e_1 ⟨Nat.le_of_ble_eq_true rfl, Nat.le_of_ble_eq_true rfl⟩) hS hA hP (fun r_1 H locs hw_1 hP hS => ?_)
  try dsimp only at hw_1
  subst hw_1
  refine lv_if_eq (tgt := 16) hx hb dJ0_charAt_5068e_4 (by decide) (fun h => absurd h (by decide)) (fun _ => ?_)
  refine lv_aload_n hx hb dJ0_charAt_5068e_7 rfl (lv_at hl 0 rfl) ?_
  refine vk_getf (A := A) hx hb ((hZ.2.2.2.2.2.2.2.2.2.1.1 wi (by omega)).2.2.1.narrow hAlo) hS hown (hts _ tw_1502) (fun _ h9 => h9) dJ0_charAt_5068e_8 ?_
  refine lv_iload_n hx hb dJ0_charAt_5068e_11 rfl (lv_at hl 1 rfl) ?_
  refine rw_i (D := D) (wr := []) (va_runS (As := [.ref (st (200 + wi)), .int (nI i)]) (rest := []) ⟨hx, hb, hml, hown, hts⟩ ((y_charAtL l D k st lo wi i (by first | assumption | omega) (by first | assumption | omega)) H.size) (va_cwS 2 hts (gS tw_421 tw_422 tw_90 tw_423) rfl rfl rfl (by decide +kernel) ⟨Nat.le_of_ble_eq_true rfl, Nat.le_of_ble_eq_true rfl⟩) (pS hS hAlo hlo hP hK (va_Dlo hD hAlo) hZ [] (by decide) rfl) rfl rfl hl.1 rfl (lv_room (Nat.le_of_ble_eq_true rfl)) dJ0_charAt_5068e_12 ⟨Nat.le_of_ble_eq_true rfl, Nat.le_of_ble_eq_true rfl⟩) hS hA hP hD [] [] rfl rfl (by decide) (by decide) (fun r_2 u H locs hw_2 hP hD hS => ?_)
  replace hP : va_P D classes [] H := hP
  replace hD : va_D A [] := hD
  try dsimp only at hw_2
  have hP9 := hP.sub (ws' := []) [] rfl
  have hD9 := hD.sub (ws' := []) [] (by decide) rfl
  exact W.zret (v := r_2) (ty := .char) hx hb hr (by rw [hw_2]; exact (chr_ok wi hwi i hi).2.2) (fun t ht hW => ⟨⟨r_2, (), rfl, hw_2, by rw [ht]; exact hP9, hD9⟩, hS.F ht⟩) hS.2.2 dJ0_charAt_5068e_15


set_option maxHeartbeats 4000000 in
set_option maxRecDepth 100000 in
theorem y_byteAt (l : Launch) (D : va_G) (k : Nat → ClassId) (st : Nat → Nat) (lo : Nat) (x0 : Nat) (x1 : Nat) (tz : Nat) (ta : Nat) (na : Int32) (fn : Int32) (fb : Int32) (fx : Nat → Int32) (i : Nat) (hz : tz ≤ 240) (hi : i < 2 ^ 31) : CRi l D k st lo yX6_byteAt cX6_byteAt 2 (some .int) ({ frames := 0, cells := 0, slots := 0, locals := 0 }) [.ref x0, .int (nI i)] [(x0, .inr (6, (fX6 x1 (nI tz) (nI ta) na fn fb))), (aB k x1 240 fx)] (fun r => r = byF (bF fx) tz i) := by
  intro sz
  refine Met.ofW (cc := cX6_byteAt) (maxL := 2) (ret := (some .int)) (by decide) rfl ?_
  intro p e s m args below meth c s₁ B hml hv
  obtain ⟨rfl, hsz, hlo, hP, hK, hDL, hZ⟩ := hv
  have hx := B.exec
  have hb := B.bytes
  have hr := B.returns
  have hts := WS_ts B.pre
  have hown : s.vm.findClass RX6 = some m.cls := findClass_of_methodNamed B.named
  have hlocks := B.notSynchronized
  subst hsz
  have hA : ∀ q : Nat, s.heap.size ≤ q → (fun q : Nat => s.heap.size ≤ q) q := fun _ h => h
  have hAlo : ∀ q : Nat, (fun q : Nat => s.heap.size ≤ q) q → lo ≤ q := fun q h => Nat.le_trans hlo h
  have hS : va_S (fun q : Nat => s.heap.size ≤ q) s.heap s.heap [] := va_S.rf
  have hl := lv_entry ([.ref x0, .int (nI i)]) (n := 2) (Nat.le_of_ble_eq_true rfl)
  rw [lg_entry_eq]
  generalize (lg_sl ([.ref x0, .int (nI i)]) ++ List.replicate (2 - (lg_sl ([.ref x0, .int (nI i)])).length) Slot.unset).toArray = ls at hl ⊢
  have hl : lv_has ls 2 [(0, .ref x0), (1, .int (nI i))] := hl
  refine lv_iload_n hx hb dX6_byteAt_0 rfl (lv_at hl 1 rfl) ?_
  refine lv_if_lt (tgt := 25) hx hb dX6_byteAt_1 (by decide) (fun h => absurd h (nI_pos0 (by omega))) (fun _ => ?_)
  refine lv_iload_n hx hb dX6_byteAt_4 rfl (lv_at hl 1 rfl) ?_
  refine lv_aload_n hx hb dX6_byteAt_5 rfl (lv_at hl 0 rfl) ?_
  refine va_get (D := D) (ci := 6) (v := .int (nI tz)) (C := RX6) (T := TX6) (N := 6) hx hb hts inX6 hown hK hP 0 rfl rfl 1 (by decide) (hts _ tw_110) (fun _ h9 => h9) rfl dX6_byteAt_6 ?_
  refine lv_icmp_ge (tgt := 25) hx hb dX6_byteAt_9 (by decide) (fun c_1 => ?_) (fun c_1 => ?_)
  · have c_1 := (nI_leI (a := tz) (b := i) (by omega) (by omega)).mp c_1
    refine lv_iconst (v := (-1)) hx hb dX6_byteAt_25 (by decide) ?_
    exact W.iret (v := (-1)) hx hb hr (fun t ht hW => ⟨⟨(-1), (), rfl, (byF_out (by omega)).symm, trivial⟩, hS.F ht⟩) hS.2.2 dX6_byteAt_26
  · have c_1 : ¬ (tz ≤ i) := fun h => c_1 ((nI_leI (a := tz) (b := i) (by omega) (by omega)).mpr h)
    refine lv_aload_n hx hb dX6_byteAt_12 rfl (lv_at hl 0 rfl) ?_
    refine va_get (D := D) (ci := 6) (v := .ref x1) (C := RX6) (T := TX6) (N := 6) hx hb hts inX6 hown hK hP 0 rfl rfl 0 (by decide) (hts _ tw_109) (fun _ h9 => h9) rfl dX6_byteAt_13 ?_
    refine lv_iload_n hx hb dX6_byteAt_16 rfl (lv_at hl 1 rfl) ?_
    refine va_bald hx hb hK hP 1 0 rfl rfl (vp_in_nI (by omega) (by decide)) dX6_byteAt_17 ?_
    refine lv_ti (y := (fx i)) (by rw [nI_clamp (by omega)]) ?_
    refine lv_sipush (v := 255) hx hb dX6_byteAt_18 (by decide) ?_
    refine lv_iand hx hb dX6_byteAt_21 ?_
    refine lv_topi (fun x_2 ex_2 => ?_)
    refine lv_goto (tgt := 26) hx hb dX6_byteAt_22 (by decide) ?_
    exact W.iret (v := x_2) hx hb hr (fun t ht hW => ⟨⟨x_2, (), rfl, (by rw [byF_in (by omega), ex_2]; rfl), trivial⟩, hS.F ht⟩) hS.2.2 dX6_byteAt_26


set_option maxHeartbeats 4000000 in
set_option maxRecDepth 100000 in
theorem y_skip (l : Launch) (D : va_G) (k : Nat → ClassId) (st : Nat → Nat) (lo : Nat) (x0 : Nat) (x1 : Nat) (tz : Nat) (ta : Nat) (na : Int32) (fn : Int32) (fb : Int32) (fx : Nat → Int32) (ht : ta ≤ tz) (hz : tz ≤ 240) : CWv l D k st lo yX6_skipBlanks cX6_skipBlanks 1 none ({ frames := 1, cells := 0, slots := 0, locals := 21 }) 0 0 [.ref x0] [(x0, .inr (6, (fX6 x1 (nI tz) (nI ta) na fn fb))), (aB k x1 240 fx)] (fun (ta_ : Nat) => ta_ = skA (bF fx) tz ta ∧ ta ≤ ta_ ∧ ta_ ≤ tz) (fun (ta_ : Nat) => [(x0, .inr (6, (fX6 x1 (nI tz) (nI ta_) na fn fb))), (aB k x1 240 fx)]) := by
  intro sz
  refine Met.ofW (cc := cX6_skipBlanks) (maxL := 1) (ret := none) (by decide) rfl ?_
  intro p e s m args below meth c s₁ B hml hv
  obtain ⟨rfl, hsz, hlo, hP, hK, hDL, hZ⟩ := hv
  have hx := B.exec
  have hb := B.bytes
  have hr := B.returns
  have hts := WS_ts B.pre
  have hown : s.vm.findClass RX6 = some m.cls := findClass_of_methodNamed B.named
  have hlocks := B.notSynchronized
  subst hsz
  have hD := hDL.self (sz := s.heap.size)
  have hAlo := A_lo hDL hlo
  generalize hAe : va_A [(x0, .inr (6, (fX6 x1 (nI tz) (nI ta) na fn fb))), (aB k x1 240 fx)] s.heap.size = A at hD hAlo ⊢
  have hA : ∀ q : Nat, s.heap.size ≤ q → A q := fun q h => by rw [← hAe]; exact Or.inr h
  have hS : va_S A s.heap s.heap [] := va_S.rf
  have hl := lv_entry ([.ref x0]) (n := 1) (Nat.le_of_ble_eq_true rfl)
  rw [lg_entry_eq]
  generalize (lg_sl ([.ref x0]) ++ List.replicate (1 - (lg_sl ([.ref x0])).length) Slot.unset).toArray = ls at hl ⊢
  have hl : lv_has ls 1 [(0, .ref x0)] := hl
  refine W_loop (σ := Nat) (fun (n_ : Nat) (t2_1 : Nat) (H : Heap) (locs : List Loc) (ls : Array Slot) => n_ = tz - t2_1 ∧ (skA (bF fx) tz t2_1 = skA (bF fx) tz ta ∧ ta ≤ t2_1 ∧ t2_1 ≤ tz) ∧ va_P D classes [(x0, .inr (6, (fX6 x1 (nI tz) (nI t2_1) na fn fb))), (aB k x1 240 fx)] H ∧ va_D A [(x0, .inr (6, (fX6 x1 (nI tz) (nI t2_1) na fn fb))), (aB k x1 240 fx)] ∧ va_S A s.heap H locs ∧ lv_has ls 1 [(0, .ref x0)]) (fun n_1 x_1 H locs ls hI ih_1 => ?_) _ ta ⟨rfl, ⟨rfl, by omega, by omega⟩, hP, hD, hS, (lv_sub hl [0] rfl)⟩
  obtain ⟨t2_1, rfl⟩ : ∃ z, z = x_1 := ⟨_, rfl⟩
  obtain ⟨hm_1, hv_1, hP, hD, hS, hl⟩ := hI
  subst hm_1
  refine lv_aload_n hx hb dX6_skipBlanks_0 rfl (lv_at hl 0 rfl) ?_
  refine va_get (D := D) (ci := 6) (v := .int (nI t2_1)) (C := RX6) (T := TX6) (N := 6) hx hb hts inX6 hown hK hP 0 rfl rfl 2 (by decide) (hts _ tw_113) (fun _ h9 => h9) rfl dX6_skipBlanks_1 ?_
  refine lv_aload_n hx hb dX6_skipBlanks_4 rfl (lv_at hl 0 rfl) ?_
  refine va_get (D := D) (ci := 6) (v := .int (nI tz)) (C := RX6) (T := TX6) (N := 6) hx hb hts inX6 hown hK hP 0 rfl rfl 1 (by decide) (hts _ tw_110) (fun _ h9 => h9) rfl dX6_skipBlanks_5 ?_
  refine lv_icmp_ge (tgt := 37) hx hb dX6_skipBlanks_8 (by decide) (fun c_2 => ?_) (fun c_2 => ?_)
  · have c_2 := (nI_leI (a := tz) (b := t2_1) (by omega) (by omega)).mp c_2
    have hP9 := hP.sub (ws' := [(x0, .inr (6, (fX6 x1 (nI tz) (nI t2_1) na fn fb))), (aB k x1 240 fx)]) [0, 1] rfl
    have hD9 := hD.sub (ws' := [(x0, .inr (6, (fX6 x1 (nI tz) (nI t2_1) na fn fb))), (aB k x1 240 fx)]) [0, 1] (by decide) rfl
    exact W.vret hx hb hr (fun t ht hW => ⟨⟨t2_1, rfl, ⟨(skA_end (by omega)).symm.trans hv_1.1, by omega, by omega⟩, by rw [ht]; exact hP9, hD9⟩, hS.F ht⟩) hS.2.2 dX6_skipBlanks_37
  · have c_2 : ¬ (tz ≤ t2_1) := fun h => c_2 ((nI_leI (a := tz) (b := t2_1) (by omega) (by omega)).mpr h)
    refine lv_aload_n hx hb dX6_skipBlanks_11 rfl (lv_at hl 0 rfl) ?_
    refine lv_aload_n hx hb dX6_skipBlanks_12 rfl (lv_at hl 0 rfl) ?_
    refine va_get (D := D) (ci := 6) (v := .int (nI t2_1)) (C := RX6) (T := TX6) (N := 6) hx hb hts inX6 hown hK hP 0 rfl rfl 2 (by decide) (hts _ tw_113) (fun _ h9 => h9) rfl dX6_skipBlanks_13 ?_
    refine ro_i (D := D) (va_runV (As := [.int (nI t2_1)]) (rest := []) ⟨hx, hb, hml, hown, hts⟩ ((y_byteAt l D k st lo x0 x1 tz t2_1 na fn fb fx t2_1 (by first | assumption | omega) (by first | assumption | omega)) H.size) (cwV 1 hts (gV tw_379 tw_380 tw_381 tw_80 tw_382) rfl rfl rfl (by decide +kernel) ⟨Nat.le_of_ble_eq_true rfl, Nat.le_of_ble_eq_true rfl⟩) (pV hS hAlo hlo hP hK (va_Dlo hD hAlo) hZ [0, 1] (by decide) rfl (ci := 6) (q := (RX6, TX6, 6)) (q0 := 0) rfl rfl) rfl rfl hl.1 rfl (lv_room (Nat.le_of_ble_eq_true rfl)) dX6_skipBlanks_16 ⟨Nat.le_of_ble_eq_true rfl, Nat.le_of_ble_eq_true rfl⟩) hS hA hP (fun r_3 H locs hw_3 hP hS => ?_)
    try dsimp only at hw_3
    refine lv_bipush (v := 32) hx hb dX6_skipBlanks_19 (by decide) ?_
    refine lv_icmp_ne (tgt := 37) hx hb dX6_skipBlanks_21 (by decide) (fun c_4 => ?_) (fun c_4 => ?_)
    · have hP9 := hP.sub (ws' := [(x0, .inr (6, (fX6 x1 (nI tz) (nI t2_1) na fn fb))), (aB k x1 240 fx)]) [0, 1] rfl
      have hD9 := hD.sub (ws' := [(x0, .inr (6, (fX6 x1 (nI tz) (nI t2_1) na fn fb))), (aB k x1 240 fx)]) [0, 1] (by decide) rfl
      exact W.vret hx hb hr (fun t ht hW => ⟨⟨t2_1, rfl, ⟨(skA_no (fun e => c_4 (hw_3.trans ((byF_in (by omega)).trans e)))).symm.trans hv_1.1, by omega, by omega⟩, by rw [ht]; exact hP9, hD9⟩, hS.F ht⟩) hS.2.2 dX6_skipBlanks_37
    · refine lv_aload_n hx hb dX6_skipBlanks_24 rfl (lv_at hl 0 rfl) ?_
      refine lv_dup hx hb dX6_skipBlanks_25 rfl ?_
      refine va_get (D := D) (ci := 6) (v := .int (nI t2_1)) (C := RX6) (T := TX6) (N := 6) hx hb hts inX6 hown hK hP 0 rfl rfl 2 (by decide) (hts _ tw_113) (fun _ h9 => h9) rfl dX6_skipBlanks_26 ?_
      refine lv_iconst (v := 1) hx hb dX6_skipBlanks_29 (by decide) ?_
      refine lv_iadd hx hb dX6_skipBlanks_30 ?_
      refine lv_ti (y := (nI (t2_1 + 1))) (nI_add t2_1 1) ?_
      refine va_put (D := D) (ci := 6) (v := .int (nI (t2_1 + 1))) (ty := .int) (C := RX6) (T := TX6) (N := 6) hx hb hts inX6 tyX6 tyX6_ok nmX6 hown hK hP hD hS 0 rfl rfl 2 (by decide) (hts _ tw_113) (fun _ h9 => h9) rfl (by decide +kernel) rfl rfl (Nat.le_of_ble_eq_true rfl) dX6_skipBlanks_31 (fun H locs hP hD hS => ?_)
      replace hP : va_P D classes [(x0, .inr (6, (fX6 x1 (nI tz) (nI (t2_1 + 1)) na fn fb))), (aB k x1 240 fx)] H := hP
      replace hD : va_D A [(x0, .inr (6, (fX6 x1 (nI tz) (nI (t2_1 + 1)) na fn fb))), (aB k x1 240 fx)] := hD
      refine lv_goto (tgt := 0) hx hb dX6_skipBlanks_34 (by decide) ?_
      exact ih_1 _ (t2_1 + 1) _ _ _ (by omega) ⟨rfl, ⟨(skA_go (by omega) (((byF_in (by omega)).symm.trans hw_3.symm).trans c_4)).trans hv_1.1, by omega, by omega⟩, hP, hD, hS, (lv_sub hl [0] rfl)⟩


set_option maxHeartbeats 4000000 in
set_option maxRecDepth 100000 in
theorem y_isAtEnd (l : Launch) (D : va_G) (k : Nat → ClassId) (st : Nat → Nat) (lo : Nat) (x0 : Nat) (x1 : Nat) (tz : Nat) (ta : Nat) (na : Int32) (fn : Int32) (fb : Int32) (fx : Nat → Int32) (ht : ta ≤ tz) (hz : tz ≤ 240) : CWi l D k st lo yX6_isAtEnd cX6_isAtEnd 1 (some .boolean) ({ frames := 2, cells := 0, slots := 0, locals := 41 }) 0 0 [.ref x0] [(x0, .inr (6, (fX6 x1 (nI tz) (nI ta) na fn fb))), (aB k x1 240 fx)] (fun (r : Int32) (ta_ : Nat) => ((r = 1 ∧ tz ≤ ta_) ∨ (r = 0 ∧ ta_ < tz)) ∧ ta_ = skA (bF fx) tz ta ∧ ta ≤ ta_ ∧ ta_ ≤ tz) (fun (ta_ : Nat) => [(x0, .inr (6, (fX6 x1 (nI tz) (nI ta_) na fn fb))), (aB k x1 240 fx)]) := by
  intro sz
  refine Met.ofW (cc := cX6_isAtEnd) (maxL := 1) (ret := (some .boolean)) (by decide) rfl ?_
  intro p e s m args below meth c s₁ B hml hv
  obtain ⟨rfl, hsz, hlo, hP, hK, hDL, hZ⟩ := hv
  have hx := B.exec
  have hb := B.bytes
  have hr := B.returns
  have hts := WS_ts B.pre
  have hown : s.vm.findClass RX6 = some m.cls := findClass_of_methodNamed B.named
  have hlocks := B.notSynchronized
  subst hsz
  have hD := hDL.self (sz := s.heap.size)
  have hAlo := A_lo hDL hlo
  generalize hAe : va_A [(x0, .inr (6, (fX6 x1 (nI tz) (nI ta) na fn fb))), (aB k x1 240 fx)] s.heap.size = A at hD hAlo ⊢
  have hA : ∀ q : Nat, s.heap.size ≤ q → A q := fun q h => by rw [← hAe]; exact Or.inr h
  have hS : va_S A s.heap s.heap [] := va_S.rf
  have hl := lv_entry ([.ref x0]) (n := 1) (Nat.le_of_ble_eq_true rfl)
  rw [lg_entry_eq]
  generalize (lg_sl ([.ref x0]) ++ List.replicate (1 - (lg_sl ([.ref x0])).length) Slot.unset).toArray = ls at hl ⊢
  have hl : lv_has ls 1 [(0, .ref x0)] := hl
  refine lv_aload_n hx hb dX6_isAtEnd_0 rfl (lv_at hl 0 rfl) ?_
  refine rw_v (D := D) (wr := []) (va_runV (As := []) (rest := []) ⟨hx, hb, hml, hown, hts⟩ ((y_skip l D k st lo x0 x1 tz ta na fn fb fx (by first | assumption | omega) (by first | assumption | omega)) s.heap.size) (cwV 0 hts (gV tw_375 tw_376 tw_377 tw_80 tw_378) rfl rfl rfl (by decide +kernel) ⟨Nat.le_of_ble_eq_true rfl, Nat.le_of_ble_eq_true rfl⟩) (pV hS hAlo hlo hP hK (va_Dlo hD hAlo) hZ [0, 1] (by decide) rfl (ci := 6) (q := (RX6, TX6, 6)) (q0 := 0) rfl rfl) rfl rfl hl.1 rfl (lv_room (Nat.le_of_ble_eq_true rfl)) dX6_isAtEnd_1 ⟨Nat.le_of_ble_eq_true rfl, Nat.le_of_ble_eq_true rfl⟩) hS hA hP hD [0, 1] [] rfl rfl (by decide) (by decide) (fun u H locs hw_1 hP hD hS => ?_)
  obtain ⟨ta__1, rfl⟩ : ∃ z, z = u := ⟨_, rfl⟩
  replace hP : va_P D classes [(x0, .inr (6, (fX6 x1 (nI tz) (nI ta__1) na fn fb))), (aB k x1 240 fx)] H := hP
  replace hD : va_D A [(x0, .inr (6, (fX6 x1 (nI tz) (nI ta__1) na fn fb))), (aB k x1 240 fx)] := hD
  try dsimp only at hw_1
  refine lv_aload_n hx hb dX6_isAtEnd_4 rfl (lv_at hl 0 rfl) ?_
  refine va_get (D := D) (ci := 6) (v := .int (nI ta__1)) (C := RX6) (T := TX6) (N := 6) hx hb hts inX6 hown hK hP 0 rfl rfl 2 (by decide) (hts _ tw_113) (fun _ h9 => h9) rfl dX6_isAtEnd_5 ?_
  refine lv_aload_n hx hb dX6_isAtEnd_8 rfl (lv_at hl 0 rfl) ?_
  refine va_get (D := D) (ci := 6) (v := .int (nI tz)) (C := RX6) (T := TX6) (N := 6) hx hb hts inX6 hown hK hP 0 rfl rfl 1 (by decide) (hts _ tw_110) (fun _ h9 => h9) rfl dX6_isAtEnd_9 ?_
  refine lv_icmp_lt (tgt := 19) hx hb dX6_isAtEnd_12 (by decide) (fun c_2 => ?_) (fun c_2 => ?_)
  · have c_2 := (nI_ltI (a := ta__1) (b := tz) (by omega) (by omega)).mp c_2
    refine lv_iconst (v := 0) hx hb dX6_isAtEnd_19 (by decide) ?_
    have hP9 := hP.sub (ws' := [(x0, .inr (6, (fX6 x1 (nI tz) (nI ta__1) na fn fb))), (aB k x1 240 fx)]) [0, 1] rfl
    have hD9 := hD.sub (ws' := [(x0, .inr (6, (fX6 x1 (nI tz) (nI ta__1) na fn fb))), (aB k x1 240 fx)]) [0, 1] (by decide) rfl
    exact W.zret (v := 0) (ty := .boolean) hx hb hr rfl (fun t ht hW => ⟨⟨0, ta__1, rfl, ⟨.inr ⟨rfl, by omega⟩, hw_1.1, by omega, by omega⟩, by rw [ht]; exact hP9, hD9⟩, hS.F ht⟩) hS.2.2 dX6_isAtEnd_20
  · have c_2 : ¬ (ta__1 < tz) := fun h => c_2 ((nI_ltI (a := ta__1) (b := tz) (by omega) (by omega)).mpr h)
    refine lv_iconst (v := 1) hx hb dX6_isAtEnd_15 (by decide) ?_
    refine lv_goto (tgt := 20) hx hb dX6_isAtEnd_16 (by decide) ?_
    have hP9 := hP.sub (ws' := [(x0, .inr (6, (fX6 x1 (nI tz) (nI ta__1) na fn fb))), (aB k x1 240 fx)]) [0, 1] rfl
    have hD9 := hD.sub (ws' := [(x0, .inr (6, (fX6 x1 (nI tz) (nI ta__1) na fn fb))), (aB k x1 240 fx)]) [0, 1] (by decide) rfl
    exact W.zret (v := 1) (ty := .boolean) hx hb hr rfl (fun t ht hW => ⟨⟨1, ta__1, rfl, ⟨.inl ⟨rfl, by omega⟩, hw_1.1, by omega, by omega⟩, by rw [ht]; exact hP9, hD9⟩, hS.F ht⟩) hS.2.2 dX6_isAtEnd_20


set_option maxHeartbeats 4000000 in
set_option maxRecDepth 100000 in
theorem y_isLetterAt (l : Launch) (D : va_G) (k : Nat → ClassId) (st : Nat → Nat) (lo : Nat) (x0 : Nat) (x1 : Nat) (tz : Nat) (ta : Nat) (na : Int32) (fn : Int32) (fb : Int32) (fx : Nat → Int32) (i : Nat) (hz : tz ≤ 240) (hi : i < 2 ^ 31) : CRi l D k st lo yX6_isLetterAt cX6_isLetterAt 3 (some .boolean) ({ frames := 1, cells := 0, slots := 0, locals := 21 }) [.ref x0, .int (nI i)] [(x0, .inr (6, (fX6 x1 (nI tz) (nI ta) na fn fb))), (aB k x1 240 fx)] (fun r => isB r (byF (bF fx) tz i) 97 122) := by
  intro sz
  refine Met.ofW (cc := cX6_isLetterAt) (maxL := 3) (ret := (some .boolean)) (by decide) rfl ?_
  intro p e s m args below meth c s₁ B hml hv
  obtain ⟨rfl, hsz, hlo, hP, hK, hDL, hZ⟩ := hv
  have hx := B.exec
  have hb := B.bytes
  have hr := B.returns
  have hts := WS_ts B.pre
  have hown : s.vm.findClass RX6 = some m.cls := findClass_of_methodNamed B.named
  have hlocks := B.notSynchronized
  subst hsz
  have hA : ∀ q : Nat, s.heap.size ≤ q → (fun q : Nat => s.heap.size ≤ q) q := fun _ h => h
  have hAlo : ∀ q : Nat, (fun q : Nat => s.heap.size ≤ q) q → lo ≤ q := fun q h => Nat.le_trans hlo h
  have hS : va_S (fun q : Nat => s.heap.size ≤ q) s.heap s.heap [] := va_S.rf
  have hl := lv_entry ([.ref x0, .int (nI i)]) (n := 3) (Nat.le_of_ble_eq_true rfl)
  rw [lg_entry_eq]
  generalize (lg_sl ([.ref x0, .int (nI i)]) ++ List.replicate (3 - (lg_sl ([.ref x0, .int (nI i)])).length) Slot.unset).toArray = ls at hl ⊢
  have hl : lv_has ls 3 [(0, .ref x0), (1, .int (nI i))] := hl
  refine lv_aload_n hx hb dX6_isLetterAt_0 rfl (lv_at hl 0 rfl) ?_
  refine lv_iload_n hx hb dX6_isLetterAt_1 rfl (lv_at hl 1 rfl) ?_
  refine ro_i (D := D) (va_runV (As := [.int (nI i)]) (rest := []) ⟨hx, hb, hml, hown, hts⟩ ((y_byteAt l D k st lo x0 x1 tz ta na fn fb fx i (by first | assumption | omega) (by first | assumption | omega)) s.heap.size) (cwV 1 hts (gV tw_379 tw_380 tw_381 tw_80 tw_382) rfl rfl rfl (by decide +kernel) ⟨Nat.le_of_ble_eq_true rfl, Nat.le_of_ble_eq_true rfl⟩) (pV hS hAlo hlo hP hK hDL hZ [0, 1] (by decide) rfl (ci := 6) (q := (RX6, TX6, 6)) (q0 := 0) rfl rfl) rfl rfl hl.1 rfl (lv_room (Nat.le_of_ble_eq_true rfl)) dX6_isLetterAt_2 ⟨Nat.le_of_ble_eq_true rfl, Nat.le_of_ble_eq_true rfl⟩) hS hA hP (fun r_1 H locs hw_1 hP hS => ?_)
  try dsimp only at hw_1
  refine lv_istore_n (lv' := [(2, .int r_1), (0, .ref x0), (1, .int (nI i))]) hx hb dX6_isLetterAt_5 rfl hl (by decide) rfl (fun ls hl => ?_)
  refine lv_iload_n hx hb dX6_isLetterAt_6 rfl (lv_at hl 0 rfl) ?_
  refine lv_bipush (v := 97) hx hb dX6_isLetterAt_7 (by decide) ?_
  refine lv_icmp_lt (tgt := 22) hx hb dX6_isLetterAt_9 (by decide) (fun c_2 => ?_) (fun c_2 => ?_)
  · refine lv_iconst (v := 0) hx hb dX6_isLetterAt_22 (by decide) ?_
    exact W.zret (v := 0) (ty := .boolean) hx hb hr rfl (fun t ht hW => ⟨⟨0, (), rfl, .inr ⟨rfl, fun h => absurd (show (97 : Int32) ≤ r_1 by rw [hw_1]; exact h.1) (Int32.not_le.mpr c_2)⟩, trivial⟩, hS.F ht⟩) hS.2.2 dX6_isLetterAt_23
  · refine lv_iload_n hx hb dX6_isLetterAt_12 rfl (lv_at hl 0 rfl) ?_
    refine lv_bipush (v := 122) hx hb dX6_isLetterAt_13 (by decide) ?_
    refine lv_icmp_gt (tgt := 22) hx hb dX6_isLetterAt_15 (by decide) (fun c_3 => ?_) (fun c_3 => ?_)
    · refine lv_iconst (v := 0) hx hb dX6_isLetterAt_22 (by decide) ?_
      exact W.zret (v := 0) (ty := .boolean) hx hb hr rfl (fun t ht hW => ⟨⟨0, (), rfl, .inr ⟨rfl, fun h => absurd (show r_1 ≤ 122 by rw [hw_1]; exact h.2) (Int32.not_le.mpr c_3)⟩, trivial⟩, hS.F ht⟩) hS.2.2 dX6_isLetterAt_23
    · refine lv_iconst (v := 1) hx hb dX6_isLetterAt_18 (by decide) ?_
      refine lv_goto (tgt := 23) hx hb dX6_isLetterAt_19 (by decide) ?_
      exact W.zret (v := 1) (ty := .boolean) hx hb hr rfl (fun t ht hW => ⟨⟨1, (), rfl, .inl ⟨rfl, by rw [← hw_1]; exact ⟨Int32.not_lt.mp c_2, Int32.not_lt.mp c_3⟩⟩, trivial⟩, hS.F ht⟩) hS.2.2 dX6_isLetterAt_23


set_option maxHeartbeats 4000000 in
set_option maxRecDepth 100000 in
theorem y_isFigureAt (l : Launch) (D : va_G) (k : Nat → ClassId) (st : Nat → Nat) (lo : Nat) (x0 : Nat) (x1 : Nat) (tz : Nat) (ta : Nat) (na : Int32) (fn : Int32) (fb : Int32) (fx : Nat → Int32) (i : Nat) (hz : tz ≤ 240) (hi : i < 2 ^ 31) : CRi l D k st lo yX6_isFigureAt cX6_isFigureAt 3 (some .boolean) ({ frames := 1, cells := 0, slots := 0, locals := 21 }) [.ref x0, .int (nI i)] [(x0, .inr (6, (fX6 x1 (nI tz) (nI ta) na fn fb))), (aB k x1 240 fx)] (fun r => isB r (byF (bF fx) tz i) 48 57) := by
  intro sz
  refine Met.ofW (cc := cX6_isFigureAt) (maxL := 3) (ret := (some .boolean)) (by decide) rfl ?_
  intro p e s m args below meth c s₁ B hml hv
  obtain ⟨rfl, hsz, hlo, hP, hK, hDL, hZ⟩ := hv
  have hx := B.exec
  have hb := B.bytes
  have hr := B.returns
  have hts := WS_ts B.pre
  have hown : s.vm.findClass RX6 = some m.cls := findClass_of_methodNamed B.named
  have hlocks := B.notSynchronized
  subst hsz
  have hA : ∀ q : Nat, s.heap.size ≤ q → (fun q : Nat => s.heap.size ≤ q) q := fun _ h => h
  have hAlo : ∀ q : Nat, (fun q : Nat => s.heap.size ≤ q) q → lo ≤ q := fun q h => Nat.le_trans hlo h
  have hS : va_S (fun q : Nat => s.heap.size ≤ q) s.heap s.heap [] := va_S.rf
  have hl := lv_entry ([.ref x0, .int (nI i)]) (n := 3) (Nat.le_of_ble_eq_true rfl)
  rw [lg_entry_eq]
  generalize (lg_sl ([.ref x0, .int (nI i)]) ++ List.replicate (3 - (lg_sl ([.ref x0, .int (nI i)])).length) Slot.unset).toArray = ls at hl ⊢
  have hl : lv_has ls 3 [(0, .ref x0), (1, .int (nI i))] := hl
  refine lv_aload_n hx hb dX6_isFigureAt_0 rfl (lv_at hl 0 rfl) ?_
  refine lv_iload_n hx hb dX6_isFigureAt_1 rfl (lv_at hl 1 rfl) ?_
  refine ro_i (D := D) (va_runV (As := [.int (nI i)]) (rest := []) ⟨hx, hb, hml, hown, hts⟩ ((y_byteAt l D k st lo x0 x1 tz ta na fn fb fx i (by first | assumption | omega) (by first | assumption | omega)) s.heap.size) (cwV 1 hts (gV tw_379 tw_380 tw_381 tw_80 tw_382) rfl rfl rfl (by decide +kernel) ⟨Nat.le_of_ble_eq_true rfl, Nat.le_of_ble_eq_true rfl⟩) (pV hS hAlo hlo hP hK hDL hZ [0, 1] (by decide) rfl (ci := 6) (q := (RX6, TX6, 6)) (q0 := 0) rfl rfl) rfl rfl hl.1 rfl (lv_room (Nat.le_of_ble_eq_true rfl)) dX6_isFigureAt_2 ⟨Nat.le_of_ble_eq_true rfl, Nat.le_of_ble_eq_true rfl⟩) hS hA hP (fun r_1 H locs hw_1 hP hS => ?_)
  try dsimp only at hw_1
  refine lv_istore_n (lv' := [(2, .int r_1), (0, .ref x0), (1, .int (nI i))]) hx hb dX6_isFigureAt_5 rfl hl (by decide) rfl (fun ls hl => ?_)
  refine lv_iload_n hx hb dX6_isFigureAt_6 rfl (lv_at hl 0 rfl) ?_
  refine lv_bipush (v := 48) hx hb dX6_isFigureAt_7 (by decide) ?_
  refine lv_icmp_lt (tgt := 22) hx hb dX6_isFigureAt_9 (by decide) (fun c_2 => ?_) (fun c_2 => ?_)
  · refine lv_iconst (v := 0) hx hb dX6_isFigureAt_22 (by decide) ?_
    exact W.zret (v := 0) (ty := .boolean) hx hb hr rfl (fun t ht hW => ⟨⟨0, (), rfl, .inr ⟨rfl, fun h => absurd (show (48 : Int32) ≤ r_1 by rw [hw_1]; exact h.1) (Int32.not_le.mpr c_2)⟩, trivial⟩, hS.F ht⟩) hS.2.2 dX6_isFigureAt_23
  · refine lv_iload_n hx hb dX6_isFigureAt_12 rfl (lv_at hl 0 rfl) ?_
    refine lv_bipush (v := 57) hx hb dX6_isFigureAt_13 (by decide) ?_
    refine lv_icmp_gt (tgt := 22) hx hb dX6_isFigureAt_15 (by decide) (fun c_3 => ?_) (fun c_3 => ?_)
    · refine lv_iconst (v := 0) hx hb dX6_isFigureAt_22 (by decide) ?_
      exact W.zret (v := 0) (ty := .boolean) hx hb hr rfl (fun t ht hW => ⟨⟨0, (), rfl, .inr ⟨rfl, fun h => absurd (show r_1 ≤ 57 by rw [hw_1]; exact h.2) (Int32.not_le.mpr c_3)⟩, trivial⟩, hS.F ht⟩) hS.2.2 dX6_isFigureAt_23
    · refine lv_iconst (v := 1) hx hb dX6_isFigureAt_18 (by decide) ?_
      refine lv_goto (tgt := 23) hx hb dX6_isFigureAt_19 (by decide) ?_
      exact W.zret (v := 1) (ty := .boolean) hx hb hr rfl (fun t ht hW => ⟨⟨1, (), rfl, .inl ⟨rfl, by rw [← hw_1]; exact ⟨Int32.not_lt.mp c_2, Int32.not_lt.mp c_3⟩⟩, trivial⟩, hS.F ht⟩) hS.2.2 dX6_isFigureAt_23


set_option maxHeartbeats 4000000 in
set_option maxRecDepth 100000 in
theorem y_takeWord (l : Launch) (D : va_G) (k : Nat → ClassId) (st : Nat → Nat) (lo : Nat) (x0 : Nat) (x1 : Nat) (tz : Nat) (ta : Nat) (na : Int32) (fn : Int32) (fb : Int32) (fx : Nat → Int32) (wi : Nat) (ht : ta ≤ tz) (hz : tz ≤ 240) (hwi : wi < 14) : CWi l D k st lo yX6_takeWord cX6_takeWord 4 (some .boolean) ({ frames := 4, cells := 0, slots := 0, locals := 85 }) 0 0 [.ref x0, .ref (st (100 + wi))] [(x0, .inr (6, (fX6 x1 (nI tz) (nI ta) na fn fb))), (aB k x1 240 fx)] (fun (r : Int32) (ta_ : Nat) => ((r = 1 ∧ letA (bF fx) tz (skA (bF fx) tz ta) = (sByt.getD wi []) ∧ ta_ = skA (bF fx) tz ta + sLen.getD wi 0) ∨ (r = 0 ∧ ¬ letA (bF fx) tz (skA (bF fx) tz ta) = (sByt.getD wi []) ∧ ta_ = skA (bF fx) tz ta)) ∧ ta ≤ ta_ ∧ ta_ ≤ tz) (fun (ta_ : Nat) => [(x0, .inr (6, (fX6 x1 (nI tz) (nI ta_) na fn fb))), (aB k x1 240 fx)]) := by
  intro sz
  refine Met.ofW (cc := cX6_takeWord) (maxL := 4) (ret := (some .boolean)) (by decide) rfl ?_
  intro p e s m args below meth c s₁ B hml hv
  obtain ⟨rfl, hsz, hlo, hP, hK, hDL, hZ⟩ := hv
  have hx := B.exec
  have hb := B.bytes
  have hr := B.returns
  have hts := WS_ts B.pre
  have hown : s.vm.findClass RX6 = some m.cls := findClass_of_methodNamed B.named
  have hlocks := B.notSynchronized
  subst hsz
  have hD := hDL.self (sz := s.heap.size)
  have hAlo := A_lo hDL hlo
  generalize hAe : va_A [(x0, .inr (6, (fX6 x1 (nI tz) (nI ta) na fn fb))), (aB k x1 240 fx)] s.heap.size = A at hD hAlo ⊢
  have hA : ∀ q : Nat, s.heap.size ≤ q → A q := fun q h => by rw [← hAe]; exact Or.inr h
  have hS : va_S A s.heap s.heap [] := va_S.rf
  have hl := lv_entry ([.ref x0, .ref (st (100 + wi))]) (n := 4) (Nat.le_of_ble_eq_true rfl)
  rw [lg_entry_eq]
  generalize (lg_sl ([.ref x0, .ref (st (100 + wi))]) ++ List.replicate (4 - (lg_sl ([.ref x0, .ref (st (100 + wi))])).length) Slot.unset).toArray = ls at hl ⊢
  have hl : lv_has ls 4 [(0, .ref x0), (1, .ref (st (100 + wi)))] := hl
  have hsl := sLen_le wi hwi
  refine lv_aload_n hx hb dX6_takeWord_0 rfl (lv_at hl 0 rfl) ?_
  refine rw_v (D := D) (wr := []) (va_runV (As := []) (rest := []) ⟨hx, hb, hml, hown, hts⟩ ((y_skip l D k st lo x0 x1 tz ta na fn fb fx (by first | assumption | omega) (by first | assumption | omega)) s.heap.size) (cwV 0 hts (gV tw_375 tw_376 tw_377 tw_80 tw_378) rfl rfl rfl (by decide +kernel) ⟨Nat.le_of_ble_eq_true rfl, Nat.le_of_ble_eq_true rfl⟩) (pV hS hAlo hlo hP hK (va_Dlo hD hAlo) hZ [0, 1] (by decide) rfl (ci := 6) (q := (RX6, TX6, 6)) (q0 := 0) rfl rfl) rfl rfl hl.1 rfl (lv_room (Nat.le_of_ble_eq_true rfl)) dX6_takeWord_1 ⟨Nat.le_of_ble_eq_true rfl, Nat.le_of_ble_eq_true rfl⟩) hS hA hP hD [0, 1] [] rfl rfl (by decide) (by decide) (fun u H locs hw_1 hP hD hS => ?_)
  obtain ⟨ta__1, rfl⟩ : ∃ z, z = u := ⟨_, rfl⟩
  replace hP : va_P D classes [(x0, .inr (6, (fX6 x1 (nI tz) (nI ta__1) na fn fb))), (aB k x1 240 fx)] H := hP
  replace hD : va_D A [(x0, .inr (6, (fX6 x1 (nI tz) (nI ta__1) na fn fb))), (aB k x1 240 fx)] := hD
  try dsimp only at hw_1
  refine lv_aload_n hx hb dX6_takeWord_4 rfl (lv_at hl 0 rfl) ?_
  refine va_get (D := D) (ci := 6) (v := .int (nI ta__1)) (C := RX6) (T := TX6) (N := 6) hx hb hts inX6 hown hK hP 0 rfl rfl 2 (by decide) (hts _ tw_113) (fun _ h9 => h9) rfl dX6_takeWord_5 ?_
  refine lv_aload_n hx hb dX6_takeWord_8 rfl (lv_at hl 1 rfl) ?_
  refine ro_i (D := D) (va_runV (As := []) (rest := [.int (nI ta__1)]) ⟨hx, hb, hml, hown, hts⟩ ((x_length l D k st lo wi (by first | assumption | omega)) H.size) (cwV 0 hts (gV tw_403 tw_404 tw_405 tw_89 tw_406) rfl rfl rfl (by decide +kernel) ⟨Nat.le_of_ble_eq_true rfl, Nat.le_of_ble_eq_true rfl⟩) (pVs (i := wi) (by omega) hS hAlo hlo hP hK (va_Dlo hD hAlo) hZ [] (by decide) rfl) rfl rfl hl.1 rfl (lv_room (Nat.le_of_ble_eq_true rfl)) dX6_takeWord_9 ⟨Nat.le_of_ble_eq_true rfl, Nat.le_of_ble_eq_true rfl⟩) hS hA hP (fun r_2 H locs hw_2 hP hS => ?_)
  try dsimp only at hw_2
  subst hw_2
  refine lv_iadd hx hb dX6_takeWord_12 ?_
  refine lv_ti (y := (nI (ta__1 + sLen.getD wi 0))) (nI_add ta__1 (sLen.getD wi 0)) ?_
  refine lv_istore_n (lv' := [(2, .int (nI (ta__1 + sLen.getD wi 0))), (0, .ref x0), (1, .ref (st (100 + wi)))]) hx hb dX6_takeWord_13 rfl hl (by decide) rfl (fun ls hl => ?_)
  refine lv_iconst (v := 0) hx hb dX6_takeWord_14 (by decide) ?_
  refine lv_istore_n (lv' := [(3, .int 0), (2, .int (nI (ta__1 + sLen.getD wi 0))), (0, .ref x0), (1, .ref (st (100 + wi)))]) hx hb dX6_takeWord_15 rfl hl (by decide) rfl (fun ls hl => ?_)
  refine W_loop (σ := Nat) (fun (n_ : Nat) (kk_3 : Nat) (H : Heap) (locs : List Loc) (ls : Array Slot) => n_ = sLen.getD wi 0 - kk_3 ∧ ((letA (bF fx) tz (ta__1 + kk_3) = (sByt.getD wi []).drop kk_3 ↔ letA (bF fx) tz ta__1 = (sByt.getD wi [])) ∧ ta__1 + kk_3 ≤ tz ∧ kk_3 ≤ sLen.getD wi 0) ∧ va_P D classes [(x0, .inr (6, (fX6 x1 (nI tz) (nI ta__1) na fn fb))), (aB k x1 240 fx)] H ∧ va_D A [(x0, .inr (6, (fX6 x1 (nI tz) (nI ta__1) na fn fb))), (aB k x1 240 fx)] ∧ va_S A s.heap H locs ∧ lv_has ls 4 [(3, .int (nI kk_3)), (2, .int (nI (ta__1 + sLen.getD wi 0))), (0, .ref x0), (1, .ref (st (100 + wi)))]) (fun n_3 x_3 H locs ls hI ih_3 => ?_) _ 0 ⟨rfl, ⟨Iff.rfl, by omega, by omega⟩, hP, hD, hS, (lv_sub hl [0, 1, 2, 3] rfl)⟩
  obtain ⟨kk_3, rfl⟩ : ∃ z, z = x_3 := ⟨_, rfl⟩
  obtain ⟨hm_3, hv_3, hP, hD, hS, hl⟩ := hI
  subst hm_3
  refine lv_iload_n hx hb dX6_takeWord_16 rfl (lv_at hl 0 rfl) ?_
  refine lv_aload_n hx hb dX6_takeWord_17 rfl (lv_at hl 3 rfl) ?_
  refine ro_i (D := D) (va_runV (As := []) (rest := [.int (nI kk_3)]) ⟨hx, hb, hml, hown, hts⟩ ((x_length l D k st lo wi (by first | assumption | omega)) H.size) (cwV 0 hts (gV tw_403 tw_404 tw_405 tw_89 tw_406) rfl rfl rfl (by decide +kernel) ⟨Nat.le_of_ble_eq_true rfl, Nat.le_of_ble_eq_true rfl⟩) (pVs (i := wi) (by omega) hS hAlo hlo hP hK (va_Dlo hD hAlo) hZ [] (by decide) rfl) rfl rfl hl.1 rfl (lv_room (Nat.le_of_ble_eq_true rfl)) dX6_takeWord_18 ⟨Nat.le_of_ble_eq_true rfl, Nat.le_of_ble_eq_true rfl⟩) hS hA hP (fun r_4 H locs hw_4 hP hS => ?_)
  try dsimp only at hw_4
  subst hw_4
  refine lv_icmp_ge (tgt := 50) hx hb dX6_takeWord_21 (by decide) (fun c_5 => ?_) (fun c_5 => ?_)
  · have c_5 := (nI_leI (a := (sLen.getD wi 0)) (b := kk_3) (by omega) (by omega)).mp c_5
    refine lv_aload_n hx hb dX6_takeWord_50 rfl (lv_at hl 2 rfl) ?_
    refine lv_iload_n hx hb dX6_takeWord_51 rfl (lv_at hl 1 rfl) ?_
    refine ro_i (D := D) (va_runV (As := [.int (nI (ta__1 + sLen.getD wi 0))]) (rest := []) ⟨hx, hb, hml, hown, hts⟩ ((y_isLetterAt l D k st lo x0 x1 tz ta__1 na fn fb fx (ta__1 + sLen.getD wi 0) (by first | assumption | omega) (by first | assumption | omega)) H.size) (cwV 1 hts (gV tw_451 tw_452 tw_453 tw_80 tw_454) rfl rfl rfl (by decide +kernel) ⟨Nat.le_of_ble_eq_true rfl, Nat.le_of_ble_eq_true rfl⟩) (pV hS hAlo hlo hP hK (va_Dlo hD hAlo) hZ [0, 1] (by decide) rfl (ci := 6) (q := (RX6, TX6, 6)) (q0 := 0) rfl rfl) rfl rfl hl.1 rfl (lv_room (Nat.le_of_ble_eq_true rfl)) dX6_takeWord_52 ⟨Nat.le_of_ble_eq_true rfl, Nat.le_of_ble_eq_true rfl⟩) hS hA hP (fun r_6 H locs hw_6 hP hS => ?_)
    try dsimp only at hw_6
    rcases hw_6 with ⟨rfl, hw_6⟩ | ⟨rfl, hw_6⟩
    · refine lv_if_eq (tgt := 60) hx hb dX6_takeWord_55 (by decide) (fun h => absurd h (by decide)) (fun _ => ?_)
      refine lv_iconst (v := 0) hx hb dX6_takeWord_58 (by decide) ?_
      have hP9 := hP.sub (ws' := [(x0, .inr (6, (fX6 x1 (nI tz) (nI ta__1) na fn fb))), (aB k x1 240 fx)]) [0, 1] rfl
      have hD9 := hD.sub (ws' := [(x0, .inr (6, (fX6 x1 (nI tz) (nI ta__1) na fn fb))), (aB k x1 240 fx)]) [0, 1] (by decide) rfl
      exact W.zret (v := 0) (ty := .boolean) hx hb hr rfl (fun t ht hW => ⟨⟨0, ta__1, rfl, ⟨.inr ⟨rfl, (by rw [← hw_1.1]; exact tw_end0 (by rw [sKl wi hwi]; omega) hv_3.1 (by rw [sKl wi hwi]; exact hw_6)), hw_1.1⟩, by omega, by omega⟩, by rw [ht]; exact hP9, hD9⟩, hS.F ht⟩) hS.2.2 dX6_takeWord_59
    · refine lv_if_eq (tgt := 60) hx hb dX6_takeWord_55 (by decide) (fun _ => ?_) (fun h => absurd (by decide) h)
      refine lv_aload_n hx hb dX6_takeWord_60 rfl (lv_at hl 2 rfl) ?_
      refine lv_iload_n hx hb dX6_takeWord_61 rfl (lv_at hl 1 rfl) ?_
      refine va_put (D := D) (ci := 6) (v := .int (nI (ta__1 + sLen.getD wi 0))) (ty := .int) (C := RX6) (T := TX6) (N := 6) hx hb hts inX6 tyX6 tyX6_ok nmX6 hown hK hP hD hS 0 rfl rfl 2 (by decide) (hts _ tw_113) (fun _ h9 => h9) rfl (by decide +kernel) rfl rfl (Nat.le_of_ble_eq_true rfl) dX6_takeWord_62 (fun H locs hP hD hS => ?_)
      replace hP : va_P D classes [(x0, .inr (6, (fX6 x1 (nI tz) (nI (ta__1 + sLen.getD wi 0)) na fn fb))), (aB k x1 240 fx)] H := hP
      replace hD : va_D A [(x0, .inr (6, (fX6 x1 (nI tz) (nI (ta__1 + sLen.getD wi 0)) na fn fb))), (aB k x1 240 fx)] := hD
      refine lv_iconst (v := 1) hx hb dX6_takeWord_65 (by decide) ?_
      have hP9 := hP.sub (ws' := [(x0, .inr (6, (fX6 x1 (nI tz) (nI (ta__1 + sLen.getD wi 0)) na fn fb))), (aB k x1 240 fx)]) [0, 1] rfl
      have hD9 := hD.sub (ws' := [(x0, .inr (6, (fX6 x1 (nI tz) (nI (ta__1 + sLen.getD wi 0)) na fn fb))), (aB k x1 240 fx)]) [0, 1] (by decide) rfl
      exact W.zret (v := 1) (ty := .boolean) hx hb hr rfl (fun t ht hW => ⟨⟨1, (ta__1 + sLen.getD wi 0), rfl, ⟨.inl ⟨rfl, (by rw [← hw_1.1]; exact tw_end1 (by rw [sKl wi hwi]; omega) hv_3.1 (by rw [sKl wi hwi]; exact hw_6)), by rw [← hw_1.1]⟩, by omega, by omega⟩, by rw [ht]; exact hP9, hD9⟩, hS.F ht⟩) hS.2.2 dX6_takeWord_66
  · have c_5 : ¬ ((sLen.getD wi 0) ≤ kk_3) := fun h => c_5 ((nI_leI (a := (sLen.getD wi 0)) (b := kk_3) (by omega) (by omega)).mpr h)
    refine lv_aload_n hx hb dX6_takeWord_24 rfl (lv_at hl 2 rfl) ?_
    refine lv_aload_n hx hb dX6_takeWord_25 rfl (lv_at hl 2 rfl) ?_
    refine va_get (D := D) (ci := 6) (v := .int (nI ta__1)) (C := RX6) (T := TX6) (N := 6) hx hb hts inX6 hown hK hP 0 rfl rfl 2 (by decide) (hts _ tw_113) (fun _ h9 => h9) rfl dX6_takeWord_26 ?_
    refine lv_iload_n hx hb dX6_takeWord_29 rfl (lv_at hl 0 rfl) ?_
    refine lv_iadd hx hb dX6_takeWord_30 ?_
    refine lv_ti (y := (nI (ta__1 + kk_3))) (nI_add ta__1 kk_3) ?_
    refine ro_i (D := D) (va_runV (As := [.int (nI (ta__1 + kk_3))]) (rest := []) ⟨hx, hb, hml, hown, hts⟩ ((y_byteAt l D k st lo x0 x1 tz ta__1 na fn fb fx (ta__1 + kk_3) (by first | assumption | omega) (by first | assumption | omega)) H.size) (cwV 1 hts (gV tw_379 tw_380 tw_381 tw_80 tw_382) rfl rfl rfl (by decide +kernel) ⟨Nat.le_of_ble_eq_true rfl, Nat.le_of_ble_eq_true rfl⟩) (pV hS hAlo hlo hP hK (va_Dlo hD hAlo) hZ [0, 1] (by decide) rfl (ci := 6) (q := (RX6, TX6, 6)) (q0 := 0) rfl rfl) rfl rfl hl.1 rfl (lv_room (Nat.le_of_ble_eq_true rfl)) dX6_takeWord_31 ⟨Nat.le_of_ble_eq_true rfl, Nat.le_of_ble_eq_true rfl⟩) hS hA hP (fun r_7 H locs hw_7 hP hS => ?_)
    try dsimp only at hw_7
    refine lv_aload_n hx hb dX6_takeWord_34 rfl (lv_at hl 3 rfl) ?_
    refine lv_iload_n hx hb dX6_takeWord_35 rfl (lv_at hl 0 rfl) ?_
    refine rw_i (D := D) (wr := [(x0, .inr (6, (fX6 x1 (nI tz) (nI ta__1) na fn fb))), (aB k x1 240 fx)]) (va_runV (As := [.int (nI kk_3)]) (rest := [.int r_7]) ⟨hx, hb, hml, hown, hts⟩ ((y_charAt l D k st lo wi kk_3 (by first | assumption | omega) (by first | assumption | omega)) H.size) (cwV 1 hts (gV tw_413 tw_414 tw_415 tw_89 tw_416) rfl rfl rfl (by decide +kernel) ⟨Nat.le_of_ble_eq_true rfl, Nat.le_of_ble_eq_true rfl⟩) (pVs (i := wi) (by omega) hS hAlo hlo hP hK (va_Dlo hD hAlo) hZ [] (by decide) rfl) rfl rfl hl.1 rfl (lv_room (Nat.le_of_ble_eq_true rfl)) dX6_takeWord_36 ⟨Nat.le_of_ble_eq_true rfl, Nat.le_of_ble_eq_true rfl⟩) hS hA hP hD [] [0, 1] rfl rfl (by decide) (by decide) (fun r_8 u H locs hw_8 hP hD hS => ?_)
    replace hP : va_P D classes [(x0, .inr (6, (fX6 x1 (nI tz) (nI ta__1) na fn fb))), (aB k x1 240 fx)] H := hP
    replace hD : va_D A [(x0, .inr (6, (fX6 x1 (nI tz) (nI ta__1) na fn fb))), (aB k x1 240 fx)] := hD
    try dsimp only at hw_8
    refine lv_icmp_eq (tgt := 44) hx hb dX6_takeWord_39 (by decide) (fun c_9 => ?_) (fun c_9 => ?_)
    · refine lv_iinc (v := (nI (kk_3 + 1))) (lv' := [(3, .int (nI (kk_3 + 1))), (2, .int (nI (ta__1 + sLen.getD wi 0))), (0, .ref x0), (1, .ref (st (100 + wi)))]) hx hb dX6_takeWord_44 hl (k := 0) rfl (nI_add kk_3 1) (by decide) rfl (fun ls hl => ?_)
      refine lv_goto (tgt := 16) hx hb dX6_takeWord_47 (by decide) ?_
      have hst_10 := tw_step (K := (sByt.getD wi [])) (sKa wi hwi) (by rw [sKl wi hwi]; omega) hw_7 hw_8 c_9 hv_3.1
      exact ih_3 _ (kk_3 + 1) _ _ _ (by omega) ⟨rfl, ⟨hst_10.1, hst_10.2, by omega⟩, hP, hD, hS, (lv_sub hl [0, 1, 2, 3] rfl)⟩
    · refine lv_iconst (v := 0) hx hb dX6_takeWord_42 (by decide) ?_
      have hP9 := hP.sub (ws' := [(x0, .inr (6, (fX6 x1 (nI tz) (nI ta__1) na fn fb))), (aB k x1 240 fx)]) [0, 1] rfl
      have hD9 := hD.sub (ws' := [(x0, .inr (6, (fX6 x1 (nI tz) (nI ta__1) na fn fb))), (aB k x1 240 fx)]) [0, 1] (by decide) rfl
      exact W.zret (v := 0) (ty := .boolean) hx hb hr rfl (fun t ht hW => ⟨⟨0, ta__1, rfl, ⟨.inr ⟨rfl, (by rw [← hw_1.1]; exact tw_no (K := (sByt.getD wi [])) (sKa wi hwi) (by rw [sKl wi hwi]; omega) hw_7 hw_8 c_9 hv_3.1), hw_1.1⟩, by omega, by omega⟩, by rw [ht]; exact hP9, hD9⟩, hS.F ht⟩) hS.2.2 dX6_takeWord_43


set_option maxHeartbeats 4000000 in
set_option maxRecDepth 100000 in
theorem y_fail (l : Launch) (D : va_G) (k : Nat → ClassId) (st : Nat → Nat) (lo : Nat) (x0 : Nat) (x1 : Nat) (tz : Nat) (ta : Nat) (na : Int32) (fn : Int32) (fb : Int32) (p0 : Int32) (p1 : Int32) (hp0 : ¬ p0 = 0) : CWv l D k st lo yX6_fail cX6_fail 3 none ({ frames := 0, cells := 0, slots := 0, locals := 0 }) 0 0 [.ref x0, .int p0, .int p1] [(x0, .inr (6, (fX6 x1 (nI tz) (nI ta) na fn fb)))] (fun (u : Int32 × Int32) => match u with | (fn_, fb_) => ¬ fn_ = 0 ∧ (fn = 0 → fn_ = p0 ∧ fb_ = p1) ∧ (¬ fn = 0 → fn_ = fn ∧ fb_ = fb)) (fun (u : Int32 × Int32) => match u with | (fn_, fb_) => [(x0, .inr (6, (fX6 x1 (nI tz) (nI ta) na fn_ fb_)))]) := by
  intro sz
  refine Met.ofW (cc := cX6_fail) (maxL := 3) (ret := none) (by decide) rfl ?_
  intro p e s m args below meth c s₁ B hml hv
  obtain ⟨rfl, hsz, hlo, hP, hK, hDL, hZ⟩ := hv
  have hx := B.exec
  have hb := B.bytes
  have hr := B.returns
  have hts := WS_ts B.pre
  have hown : s.vm.findClass RX6 = some m.cls := findClass_of_methodNamed B.named
  have hlocks := B.notSynchronized
  subst hsz
  have hD := hDL.self (sz := s.heap.size)
  have hAlo := A_lo hDL hlo
  generalize hAe : va_A [(x0, .inr (6, (fX6 x1 (nI tz) (nI ta) na fn fb)))] s.heap.size = A at hD hAlo ⊢
  have hA : ∀ q : Nat, s.heap.size ≤ q → A q := fun q h => by rw [← hAe]; exact Or.inr h
  have hS : va_S A s.heap s.heap [] := va_S.rf
  have hl := lv_entry ([.ref x0, .int p0, .int p1]) (n := 3) (Nat.le_of_ble_eq_true rfl)
  rw [lg_entry_eq]
  generalize (lg_sl ([.ref x0, .int p0, .int p1]) ++ List.replicate (3 - (lg_sl ([.ref x0, .int p0, .int p1])).length) Slot.unset).toArray = ls at hl ⊢
  have hl : lv_has ls 3 [(0, .ref x0), (1, .int p0), (2, .int p1)] := hl
  refine lv_aload_n hx hb dX6_fail_0 rfl (lv_at hl 0 rfl) ?_
  refine va_get (D := D) (ci := 6) (v := .int fn) (C := RX6) (T := TX6) (N := 6) hx hb hts inX6 hown hK hP 0 rfl rfl 4 (by decide) (hts _ tw_119) (fun _ h9 => h9) rfl dX6_fail_1 ?_
  refine lv_if_ne (tgt := 17) hx hb dX6_fail_4 (by decide) (fun c_1 => ?_) (fun c_1 => ?_)
  · have hP9 := hP.sub (ws' := [(x0, .inr (6, (fX6 x1 (nI tz) (nI ta) na fn fb)))]) [0] rfl
    have hD9 := hD.sub (ws' := [(x0, .inr (6, (fX6 x1 (nI tz) (nI ta) na fn fb)))]) [0] (by decide) rfl
    exact W.vret hx hb hr (fun t ht hW => ⟨⟨(fn, fb), rfl, ⟨c_1, fun h => absurd h c_1, fun _ => ⟨rfl, rfl⟩⟩, by rw [ht]; exact hP9, hD9⟩, hS.F ht⟩) hS.2.2 dX6_fail_17
  · refine lv_aload_n hx hb dX6_fail_7 rfl (lv_at hl 0 rfl) ?_
    refine lv_iload_n hx hb dX6_fail_8 rfl (lv_at hl 1 rfl) ?_
    refine va_put (D := D) (ci := 6) (v := .int p0) (ty := .int) (C := RX6) (T := TX6) (N := 6) hx hb hts inX6 tyX6 tyX6_ok nmX6 hown hK hP hD hS 0 rfl rfl 4 (by decide) (hts _ tw_119) (fun _ h9 => h9) rfl (by decide +kernel) rfl rfl (Nat.le_of_ble_eq_true rfl) dX6_fail_9 (fun H locs hP hD hS => ?_)
    replace hP : va_P D classes [(x0, .inr (6, (fX6 x1 (nI tz) (nI ta) na p0 fb)))] H := hP
    replace hD : va_D A [(x0, .inr (6, (fX6 x1 (nI tz) (nI ta) na p0 fb)))] := hD
    refine lv_aload_n hx hb dX6_fail_12 rfl (lv_at hl 0 rfl) ?_
    refine lv_iload_n hx hb dX6_fail_13 rfl (lv_at hl 2 rfl) ?_
    refine va_put (D := D) (ci := 6) (v := .int p1) (ty := .int) (C := RX6) (T := TX6) (N := 6) hx hb hts inX6 tyX6 tyX6_ok nmX6 hown hK hP hD hS 0 rfl rfl 5 (by decide) (hts _ tw_121) (fun _ h9 => h9) rfl (by decide +kernel) rfl rfl (Nat.le_of_ble_eq_true rfl) dX6_fail_14 (fun H locs hP hD hS => ?_)
    replace hP : va_P D classes [(x0, .inr (6, (fX6 x1 (nI tz) (nI ta) na p0 p1)))] H := hP
    replace hD : va_D A [(x0, .inr (6, (fX6 x1 (nI tz) (nI ta) na p0 p1)))] := hD
    have hP9 := hP.sub (ws' := [(x0, .inr (6, (fX6 x1 (nI tz) (nI ta) na p0 p1)))]) [0] rfl
    have hD9 := hD.sub (ws' := [(x0, .inr (6, (fX6 x1 (nI tz) (nI ta) na p0 p1)))]) [0] (by decide) rfl
    exact W.vret hx hb hr (fun t ht hW => ⟨⟨(p0, p1), rfl, ⟨hp0, fun _ => ⟨rfl, rfl⟩, fun h => absurd c_1 h⟩, by rw [ht]; exact hP9, hD9⟩, hS.F ht⟩) hS.2.2 dX6_fail_17


set_option maxHeartbeats 4000000 in
set_option maxRecDepth 100000 in
theorem y_needWord (l : Launch) (D : va_G) (k : Nat → ClassId) (st : Nat → Nat) (lo : Nat) (x0 : Nat) (x1 : Nat) (tz : Nat) (ta : Nat) (na : Int32) (fn : Int32) (fb : Int32) (fx : Nat → Int32) (wi : Nat) (ht : ta ≤ tz) (hz : tz ≤ 240) (hwi : wi < 14) : CWv l D k st lo yX6_needWord cX6_needWord 2 none ({ frames := 5, cells := 0, slots := 0, locals := 108 }) 0 0 [.ref x0, .ref (st (100 + wi))] [(x0, .inr (6, (fX6 x1 (nI tz) (nI ta) na fn fb))), (aB k x1 240 fx)] (fun (u : Nat × Int32 × Int32) => match u with | (ta_, fn_, fb_) => (¬ fn = 0 → ta_ = ta ∧ fn_ = fn ∧ fb_ = fb) ∧ (fn = 0 → (fn_ = 0 ∧ wdR (bF fx) tz (sByt.getD wi []) ta = (0, 0, ta_)) ∨ (fn_ = 1 ∧ ∃ pl : Nat, wdR (bF fx) tz (sByt.getD wi []) ta = (1, pl, ta_) ∧ fb_ = nI pl)) ∧ ta ≤ ta_ ∧ ta_ ≤ tz) (fun (u : Nat × Int32 × Int32) => match u with | (ta_, fn_, fb_) => [(x0, .inr (6, (fX6 x1 (nI tz) (nI ta_) na fn_ fb_))), (aB k x1 240 fx)]) := by
  intro sz
  refine Met.ofW (cc := cX6_needWord) (maxL := 2) (ret := none) (by decide) rfl ?_
  intro p e s m args below meth c s₁ B hml hv
  obtain ⟨rfl, hsz, hlo, hP, hK, hDL, hZ⟩ := hv
  have hx := B.exec
  have hb := B.bytes
  have hr := B.returns
  have hts := WS_ts B.pre
  have hown : s.vm.findClass RX6 = some m.cls := findClass_of_methodNamed B.named
  have hlocks := B.notSynchronized
  subst hsz
  have hD := hDL.self (sz := s.heap.size)
  have hAlo := A_lo hDL hlo
  generalize hAe : va_A [(x0, .inr (6, (fX6 x1 (nI tz) (nI ta) na fn fb))), (aB k x1 240 fx)] s.heap.size = A at hD hAlo ⊢
  have hA : ∀ q : Nat, s.heap.size ≤ q → A q := fun q h => by rw [← hAe]; exact Or.inr h
  have hS : va_S A s.heap s.heap [] := va_S.rf
  have hl := lv_entry ([.ref x0, .ref (st (100 + wi))]) (n := 2) (Nat.le_of_ble_eq_true rfl)
  rw [lg_entry_eq]
  generalize (lg_sl ([.ref x0, .ref (st (100 + wi))]) ++ List.replicate (2 - (lg_sl ([.ref x0, .ref (st (100 + wi))])).length) Slot.unset).toArray = ls at hl ⊢
  have hl : lv_has ls 2 [(0, .ref x0), (1, .ref (st (100 + wi)))] := hl
  refine lv_aload_n hx hb dX6_needWord_0 rfl (lv_at hl 0 rfl) ?_
  refine ro_i (D := D) (va_runV (As := []) (rest := []) ⟨hx, hb, hml, hown, hts⟩ ((x_failed l D k st lo x0 x1 tz ta na fn fb) s.heap.size) (cwV 0 hts (gV tw_471 tw_368 tw_369 tw_80 tw_370) rfl rfl rfl (by decide +kernel) ⟨Nat.le_of_ble_eq_true rfl, Nat.le_of_ble_eq_true rfl⟩) (pV hS hAlo hlo hP hK (va_Dlo hD hAlo) hZ [0] (by decide) rfl (ci := 6) (q := (RX6, TX6, 6)) (q0 := 0) rfl rfl) rfl rfl hl.1 rfl (lv_room (Nat.le_of_ble_eq_true rfl)) dX6_needWord_1 ⟨Nat.le_of_ble_eq_true rfl, Nat.le_of_ble_eq_true rfl⟩) hS hA hP (fun r_1 H locs hw_1 hP hS => ?_)
  try dsimp only at hw_1
  rcases hw_1 with ⟨rfl, hw_1⟩ | ⟨rfl, rfl⟩
  · refine lv_if_ne (tgt := 24) hx hb dX6_needWord_4 (by decide) (fun _ => ?_) (fun h => absurd h (by decide))
    have hP9 := hP.sub (ws' := [(x0, .inr (6, (fX6 x1 (nI tz) (nI ta) na fn fb))), (aB k x1 240 fx)]) [0, 1] rfl
    have hD9 := hD.sub (ws' := [(x0, .inr (6, (fX6 x1 (nI tz) (nI ta) na fn fb))), (aB k x1 240 fx)]) [0, 1] (by decide) rfl
    exact W.vret hx hb hr (fun t ht hW => ⟨⟨(ta, fn, fb), rfl, ⟨fun _ => ⟨rfl, rfl, rfl⟩, fun h => absurd h hw_1, by omega, by omega⟩, by rw [ht]; exact hP9, hD9⟩, hS.F ht⟩) hS.2.2 dX6_needWord_24
  · refine lv_if_ne (tgt := 24) hx hb dX6_needWord_4 (by decide) (fun h => absurd (by decide) h) (fun _ => ?_)
    refine lv_aload_n hx hb dX6_needWord_7 rfl (lv_at hl 0 rfl) ?_
    refine lv_aload_n hx hb dX6_needWord_8 rfl (lv_at hl 1 rfl) ?_
    refine rw_i (D := D) (wr := []) (va_runV (As := [.ref (st (100 + wi))]) (rest := []) ⟨hx, hb, hml, hown, hts⟩ ((y_takeWord l D k st lo x0 x1 tz ta na 0 fb fx wi (by first | assumption | omega) (by first | assumption | omega) (by first | assumption | omega)) H.size) (cwV 1 hts (gV tw_486 tw_400 tw_401 tw_80 tw_402) rfl rfl rfl (by decide +kernel) ⟨Nat.le_of_ble_eq_true rfl, Nat.le_of_ble_eq_true rfl⟩) (pV hS hAlo hlo hP hK (va_Dlo hD hAlo) hZ [0, 1] (by decide) rfl (ci := 6) (q := (RX6, TX6, 6)) (q0 := 0) rfl rfl) rfl rfl hl.1 rfl (lv_room (Nat.le_of_ble_eq_true rfl)) dX6_needWord_9 ⟨Nat.le_of_ble_eq_true rfl, Nat.le_of_ble_eq_true rfl⟩) hS hA hP hD [0, 1] [] rfl rfl (by decide) (by decide) (fun r_2 u H locs hw_2 hP hD hS => ?_)
    obtain ⟨ta__2, rfl⟩ : ∃ z, z = u := ⟨_, rfl⟩
    replace hP : va_P D classes [(x0, .inr (6, (fX6 x1 (nI tz) (nI ta__2) na 0 fb))), (aB k x1 240 fx)] H := hP
    replace hD : va_D A [(x0, .inr (6, (fX6 x1 (nI tz) (nI ta__2) na 0 fb))), (aB k x1 240 fx)] := hD
    try dsimp only at hw_2
    rcases hw_2 with ⟨⟨rfl, hL_3, hT_3⟩ | ⟨rfl, hL_3, hT_3⟩, hw_2⟩
    · refine lv_if_ne (tgt := 24) hx hb dX6_needWord_12 (by decide) (fun _ => ?_) (fun h => absurd h (by decide))
      have hP9 := hP.sub (ws' := [(x0, .inr (6, (fX6 x1 (nI tz) (nI ta__2) na 0 fb))), (aB k x1 240 fx)]) [0, 1] rfl
      have hD9 := hD.sub (ws' := [(x0, .inr (6, (fX6 x1 (nI tz) (nI ta__2) na 0 fb))), (aB k x1 240 fx)]) [0, 1] (by decide) rfl
      exact W.vret hx hb hr (fun t ht hW => ⟨⟨(ta__2, 0, fb), rfl, ⟨fun h => absurd rfl h, fun _ => .inl ⟨rfl, wdR_1 hL_3 (by rw [sKl wi hwi]; exact hT_3)⟩, by omega, by omega⟩, by rw [ht]; exact hP9, hD9⟩, hS.F ht⟩) hS.2.2 dX6_needWord_24
    · refine lv_if_ne (tgt := 24) hx hb dX6_needWord_12 (by decide) (fun h => absurd (by decide) h) (fun _ => ?_)
      refine lv_aload_n hx hb dX6_needWord_15 rfl (lv_at hl 0 rfl) ?_
      refine lv_iconst (v := 1) hx hb dX6_needWord_16 (by decide) ?_
      refine lv_aload_n hx hb dX6_needWord_17 rfl (lv_at hl 0 rfl) ?_
      refine va_get (D := D) (ci := 6) (v := .int (nI ta__2)) (C := RX6) (T := TX6) (N := 6) hx hb hts inX6 hown hK hP 0 rfl rfl 2 (by decide) (hts _ tw_113) (fun _ h9 => h9) rfl dX6_needWord_18 ?_
      refine rw_v (D := D) (wr := [(aB k x1 240 fx)]) (va_runV (As := [.int 1, .int (nI ta__2)]) (rest := []) ⟨hx, hb, hml, hown, hts⟩ ((y_fail l D k st lo x0 x1 tz ta__2 na 0 fb 1 (nI ta__2) (by decide)) H.size) (cwV 2 hts (gV tw_476 tw_456 tw_457 tw_80 tw_458) rfl rfl rfl (by decide +kernel) ⟨Nat.le_of_ble_eq_true rfl, Nat.le_of_ble_eq_true rfl⟩) (pV hS hAlo hlo hP hK (va_Dlo hD hAlo) hZ [0] (by decide) rfl (ci := 6) (q := (RX6, TX6, 6)) (q0 := 0) rfl rfl) rfl rfl hl.1 rfl (lv_room (Nat.le_of_ble_eq_true rfl)) dX6_needWord_21 ⟨Nat.le_of_ble_eq_true rfl, Nat.le_of_ble_eq_true rfl⟩) hS hA hP hD [0] [1] rfl rfl (by decide) (by decide) (fun u H locs hw_4 hP hD hS => ?_)
      obtain ⟨fn__4, fb__4⟩ := u
      replace hP : va_P D classes [(aB k x1 240 fx), (x0, .inr (6, (fX6 x1 (nI tz) (nI ta__2) na fn__4 fb__4)))] H := hP
      replace hD : va_D A [(aB k x1 240 fx), (x0, .inr (6, (fX6 x1 (nI tz) (nI ta__2) na fn__4 fb__4)))] := hD
      try dsimp only at hw_4
      obtain ⟨hs0_5, hs1_5⟩ := hw_4.2.1 rfl
      replace hs0_5 := hs0_5.symm
      subst hs0_5
      replace hs1_5 := hs1_5.symm
      subst hs1_5
      have hP9 := hP.sub (ws' := [(x0, .inr (6, (fX6 x1 (nI tz) (nI ta__2) na 1 (nI ta__2)))), (aB k x1 240 fx)]) [1, 0] rfl
      have hD9 := hD.sub (ws' := [(x0, .inr (6, (fX6 x1 (nI tz) (nI ta__2) na 1 (nI ta__2)))), (aB k x1 240 fx)]) [1, 0] (by decide) rfl
      exact W.vret hx hb hr (fun t ht hW => ⟨⟨(ta__2, 1, (nI ta__2)), rfl, ⟨fun h => absurd rfl h, fun _ => .inr ⟨rfl, _, wdR_0 hL_3 hT_3, rfl⟩, by omega, by omega⟩, by rw [ht]; exact hP9, hD9⟩, hS.F ht⟩) hS.2.2 dX6_needWord_24


set_option maxHeartbeats 4000000 in
set_option maxRecDepth 100000 in
theorem y_needSemicolon (l : Launch) (D : va_G) (k : Nat → ClassId) (st : Nat → Nat) (lo : Nat) (x0 : Nat) (x1 : Nat) (tz : Nat) (ta : Nat) (na : Int32) (fn : Int32) (fb : Int32) (fx : Nat → Int32) (ht : ta ≤ tz) (hz : tz ≤ 240) : CWv l D k st lo yX6_needSemicolon cX6_needSemicolon 1 none ({ frames := 2, cells := 0, slots := 0, locals := 41 }) 0 0 [.ref x0] [(x0, .inr (6, (fX6 x1 (nI tz) (nI ta) na fn fb))), (aB k x1 240 fx)] (fun (u : Nat × Int32 × Int32) => match u with | (ta_, fn_, fb_) => (¬ fn = 0 → fn_ = fn ∧ fb_ = fb) ∧ (fn = 0 → (fn_ = 0 ∧ smR (bF fx) tz ta = (0, 0, ta_)) ∨ (fn_ = 1 ∧ ∃ pl : Nat, smR (bF fx) tz ta = (1, pl, ta_) ∧ fb_ = nI pl)) ∧ ta ≤ ta_ ∧ ta_ ≤ tz) (fun (u : Nat × Int32 × Int32) => match u with | (ta_, fn_, fb_) => [(x0, .inr (6, (fX6 x1 (nI tz) (nI ta_) na fn_ fb_))), (aB k x1 240 fx)]) := by
  intro sz
  refine Met.ofW (cc := cX6_needSemicolon) (maxL := 1) (ret := none) (by decide) rfl ?_
  intro p e s m args below meth c s₁ B hml hv
  obtain ⟨rfl, hsz, hlo, hP, hK, hDL, hZ⟩ := hv
  have hx := B.exec
  have hb := B.bytes
  have hr := B.returns
  have hts := WS_ts B.pre
  have hown : s.vm.findClass RX6 = some m.cls := findClass_of_methodNamed B.named
  have hlocks := B.notSynchronized
  subst hsz
  have hD := hDL.self (sz := s.heap.size)
  have hAlo := A_lo hDL hlo
  generalize hAe : va_A [(x0, .inr (6, (fX6 x1 (nI tz) (nI ta) na fn fb))), (aB k x1 240 fx)] s.heap.size = A at hD hAlo ⊢
  have hA : ∀ q : Nat, s.heap.size ≤ q → A q := fun q h => by rw [← hAe]; exact Or.inr h
  have hS : va_S A s.heap s.heap [] := va_S.rf
  have hl := lv_entry ([.ref x0]) (n := 1) (Nat.le_of_ble_eq_true rfl)
  rw [lg_entry_eq]
  generalize (lg_sl ([.ref x0]) ++ List.replicate (1 - (lg_sl ([.ref x0])).length) Slot.unset).toArray = ls at hl ⊢
  have hl : lv_has ls 1 [(0, .ref x0)] := hl
  rcases Decidable.em (fn = 0) with rfl | hf0
  · refine lv_aload_n hx hb dX6_needSemicolon_0 rfl (lv_at hl 0 rfl) ?_
    refine rw_v (D := D) (wr := []) (va_runV (As := []) (rest := []) ⟨hx, hb, hml, hown, hts⟩ ((y_skip l D k st lo x0 x1 tz ta na 0 fb fx (by first | assumption | omega) (by first | assumption | omega)) s.heap.size) (cwV 0 hts (gV tw_375 tw_376 tw_377 tw_80 tw_378) rfl rfl rfl (by decide +kernel) ⟨Nat.le_of_ble_eq_true rfl, Nat.le_of_ble_eq_true rfl⟩) (pV hS hAlo hlo hP hK (va_Dlo hD hAlo) hZ [0, 1] (by decide) rfl (ci := 6) (q := (RX6, TX6, 6)) (q0 := 0) rfl rfl) rfl rfl hl.1 rfl (lv_room (Nat.le_of_ble_eq_true rfl)) dX6_needSemicolon_1 ⟨Nat.le_of_ble_eq_true rfl, Nat.le_of_ble_eq_true rfl⟩) hS hA hP hD [0, 1] [] rfl rfl (by decide) (by decide) (fun u H locs hw_1 hP hD hS => ?_)
    obtain ⟨ta__1, rfl⟩ : ∃ z, z = u := ⟨_, rfl⟩
    replace hP : va_P D classes [(x0, .inr (6, (fX6 x1 (nI tz) (nI ta__1) na 0 fb))), (aB k x1 240 fx)] H := hP
    replace hD : va_D A [(x0, .inr (6, (fX6 x1 (nI tz) (nI ta__1) na 0 fb))), (aB k x1 240 fx)] := hD
    try dsimp only at hw_1
    refine lv_aload_n hx hb dX6_needSemicolon_4 rfl (lv_at hl 0 rfl) ?_
    refine lv_aload_n hx hb dX6_needSemicolon_5 rfl (lv_at hl 0 rfl) ?_
    refine va_get (D := D) (ci := 6) (v := .int (nI ta__1)) (C := RX6) (T := TX6) (N := 6) hx hb hts inX6 hown hK hP 0 rfl rfl 2 (by decide) (hts _ tw_113) (fun _ h9 => h9) rfl dX6_needSemicolon_6 ?_
    refine ro_i (D := D) (va_runV (As := [.int (nI ta__1)]) (rest := []) ⟨hx, hb, hml, hown, hts⟩ ((y_byteAt l D k st lo x0 x1 tz ta__1 na 0 fb fx ta__1 (by first | assumption | omega) (by first | assumption | omega)) H.size) (cwV 1 hts (gV tw_379 tw_380 tw_381 tw_80 tw_382) rfl rfl rfl (by decide +kernel) ⟨Nat.le_of_ble_eq_true rfl, Nat.le_of_ble_eq_true rfl⟩) (pV hS hAlo hlo hP hK (va_Dlo hD hAlo) hZ [0, 1] (by decide) rfl (ci := 6) (q := (RX6, TX6, 6)) (q0 := 0) rfl rfl) rfl rfl hl.1 rfl (lv_room (Nat.le_of_ble_eq_true rfl)) dX6_needSemicolon_9 ⟨Nat.le_of_ble_eq_true rfl, Nat.le_of_ble_eq_true rfl⟩) hS hA hP (fun r_2 H locs hw_2 hP hS => ?_)
    try dsimp only at hw_2
    refine lv_bipush (v := 59) hx hb dX6_needSemicolon_12 (by decide) ?_
    refine lv_icmp_ne (tgt := 30) hx hb dX6_needSemicolon_14 (by decide) (fun c_3 => ?_) (fun c_3 => ?_)
    · refine lv_aload_n hx hb dX6_needSemicolon_30 rfl (lv_at hl 0 rfl) ?_
      refine lv_iconst (v := 1) hx hb dX6_needSemicolon_31 (by decide) ?_
      refine lv_aload_n hx hb dX6_needSemicolon_32 rfl (lv_at hl 0 rfl) ?_
      refine va_get (D := D) (ci := 6) (v := .int (nI ta__1)) (C := RX6) (T := TX6) (N := 6) hx hb hts inX6 hown hK hP 0 rfl rfl 2 (by decide) (hts _ tw_113) (fun _ h9 => h9) rfl dX6_needSemicolon_33 ?_
      refine rw_v (D := D) (wr := [(aB k x1 240 fx)]) (va_runV (As := [.int 1, .int (nI ta__1)]) (rest := []) ⟨hx, hb, hml, hown, hts⟩ ((y_fail l D k st lo x0 x1 tz ta__1 na 0 fb 1 (nI ta__1) (by decide)) H.size) (cwV 2 hts (gV tw_476 tw_456 tw_457 tw_80 tw_458) rfl rfl rfl (by decide +kernel) ⟨Nat.le_of_ble_eq_true rfl, Nat.le_of_ble_eq_true rfl⟩) (pV hS hAlo hlo hP hK (va_Dlo hD hAlo) hZ [0] (by decide) rfl (ci := 6) (q := (RX6, TX6, 6)) (q0 := 0) rfl rfl) rfl rfl hl.1 rfl (lv_room (Nat.le_of_ble_eq_true rfl)) dX6_needSemicolon_36 ⟨Nat.le_of_ble_eq_true rfl, Nat.le_of_ble_eq_true rfl⟩) hS hA hP hD [0] [1] rfl rfl (by decide) (by decide) (fun u H locs hw_4 hP hD hS => ?_)
      obtain ⟨fn__4, fb__4⟩ := u
      replace hP : va_P D classes [(aB k x1 240 fx), (x0, .inr (6, (fX6 x1 (nI tz) (nI ta__1) na fn__4 fb__4)))] H := hP
      replace hD : va_D A [(aB k x1 240 fx), (x0, .inr (6, (fX6 x1 (nI tz) (nI ta__1) na fn__4 fb__4)))] := hD
      try dsimp only at hw_4
      obtain ⟨hs0_5, hs1_5⟩ := hw_4.2.1 rfl
      replace hs0_5 := hs0_5.symm
      subst hs0_5
      replace hs1_5 := hs1_5.symm
      subst hs1_5
      have hP9 := hP.sub (ws' := [(x0, .inr (6, (fX6 x1 (nI tz) (nI ta__1) na 1 (nI ta__1)))), (aB k x1 240 fx)]) [1, 0] rfl
      have hD9 := hD.sub (ws' := [(x0, .inr (6, (fX6 x1 (nI tz) (nI ta__1) na 1 (nI ta__1)))), (aB k x1 240 fx)]) [1, 0] (by decide) rfl
      exact W.vret hx hb hr (fun t ht hW => ⟨⟨(ta__1, 1, (nI ta__1)), rfl, ⟨fun h => absurd rfl h, fun _ => .inr ⟨rfl, _, smR_0 hw_1.1 hw_2 c_3, rfl⟩, by omega, by omega⟩, by rw [ht]; exact hP9, hD9⟩, hS.F ht⟩) hS.2.2 dX6_needSemicolon_39
    · have hlt_6 : ta__1 < tz := by rcases Nat.lt_or_ge (ta__1) tz with h | h; exact h; exact absurd (c_3.symm.trans (hw_2.trans (byF_out (by omega)))) (by decide)
      refine lv_aload_n hx hb dX6_needSemicolon_17 rfl (lv_at hl 0 rfl) ?_
      refine lv_dup hx hb dX6_needSemicolon_18 rfl ?_
      refine va_get (D := D) (ci := 6) (v := .int (nI ta__1)) (C := RX6) (T := TX6) (N := 6) hx hb hts inX6 hown hK hP 0 rfl rfl 2 (by decide) (hts _ tw_113) (fun _ h9 => h9) rfl dX6_needSemicolon_19 ?_
      refine lv_iconst (v := 1) hx hb dX6_needSemicolon_22 (by decide) ?_
      refine lv_iadd hx hb dX6_needSemicolon_23 ?_
      refine lv_ti (y := (nI (ta__1 + 1))) (nI_add ta__1 1) ?_
      refine va_put (D := D) (ci := 6) (v := .int (nI (ta__1 + 1))) (ty := .int) (C := RX6) (T := TX6) (N := 6) hx hb hts inX6 tyX6 tyX6_ok nmX6 hown hK hP hD hS 0 rfl rfl 2 (by decide) (hts _ tw_113) (fun _ h9 => h9) rfl (by decide +kernel) rfl rfl (Nat.le_of_ble_eq_true rfl) dX6_needSemicolon_24 (fun H locs hP hD hS => ?_)
      replace hP : va_P D classes [(x0, .inr (6, (fX6 x1 (nI tz) (nI (ta__1 + 1)) na 0 fb))), (aB k x1 240 fx)] H := hP
      replace hD : va_D A [(x0, .inr (6, (fX6 x1 (nI tz) (nI (ta__1 + 1)) na 0 fb))), (aB k x1 240 fx)] := hD
      refine lv_goto (tgt := 39) hx hb dX6_needSemicolon_27 (by decide) ?_
      have hP9 := hP.sub (ws' := [(x0, .inr (6, (fX6 x1 (nI tz) (nI (ta__1 + 1)) na 0 fb))), (aB k x1 240 fx)]) [0, 1] rfl
      have hD9 := hD.sub (ws' := [(x0, .inr (6, (fX6 x1 (nI tz) (nI (ta__1 + 1)) na 0 fb))), (aB k x1 240 fx)]) [0, 1] (by decide) rfl
      exact W.vret hx hb hr (fun t ht hW => ⟨⟨((ta__1 + 1), 0, fb), rfl, ⟨fun h => absurd rfl h, fun _ => .inl ⟨rfl, smR_1 hw_1.1 hw_2 c_3⟩, by omega, by omega⟩, by rw [ht]; exact hP9, hD9⟩, hS.F ht⟩) hS.2.2 dX6_needSemicolon_39
  · refine lv_aload_n hx hb dX6_needSemicolon_0 rfl (lv_at hl 0 rfl) ?_
    refine rw_v (D := D) (wr := []) (va_runV (As := []) (rest := []) ⟨hx, hb, hml, hown, hts⟩ ((y_skip l D k st lo x0 x1 tz ta na fn fb fx (by first | assumption | omega) (by first | assumption | omega)) s.heap.size) (cwV 0 hts (gV tw_375 tw_376 tw_377 tw_80 tw_378) rfl rfl rfl (by decide +kernel) ⟨Nat.le_of_ble_eq_true rfl, Nat.le_of_ble_eq_true rfl⟩) (pV hS hAlo hlo hP hK (va_Dlo hD hAlo) hZ [0, 1] (by decide) rfl (ci := 6) (q := (RX6, TX6, 6)) (q0 := 0) rfl rfl) rfl rfl hl.1 rfl (lv_room (Nat.le_of_ble_eq_true rfl)) dX6_needSemicolon_1 ⟨Nat.le_of_ble_eq_true rfl, Nat.le_of_ble_eq_true rfl⟩) hS hA hP hD [0, 1] [] rfl rfl (by decide) (by decide) (fun u H locs hw_7 hP hD hS => ?_)
    obtain ⟨ta__7, rfl⟩ : ∃ z, z = u := ⟨_, rfl⟩
    replace hP : va_P D classes [(x0, .inr (6, (fX6 x1 (nI tz) (nI ta__7) na fn fb))), (aB k x1 240 fx)] H := hP
    replace hD : va_D A [(x0, .inr (6, (fX6 x1 (nI tz) (nI ta__7) na fn fb))), (aB k x1 240 fx)] := hD
    try dsimp only at hw_7
    refine lv_aload_n hx hb dX6_needSemicolon_4 rfl (lv_at hl 0 rfl) ?_
    refine lv_aload_n hx hb dX6_needSemicolon_5 rfl (lv_at hl 0 rfl) ?_
    refine va_get (D := D) (ci := 6) (v := .int (nI ta__7)) (C := RX6) (T := TX6) (N := 6) hx hb hts inX6 hown hK hP 0 rfl rfl 2 (by decide) (hts _ tw_113) (fun _ h9 => h9) rfl dX6_needSemicolon_6 ?_
    refine ro_i (D := D) (va_runV (As := [.int (nI ta__7)]) (rest := []) ⟨hx, hb, hml, hown, hts⟩ ((y_byteAt l D k st lo x0 x1 tz ta__7 na fn fb fx ta__7 (by first | assumption | omega) (by first | assumption | omega)) H.size) (cwV 1 hts (gV tw_379 tw_380 tw_381 tw_80 tw_382) rfl rfl rfl (by decide +kernel) ⟨Nat.le_of_ble_eq_true rfl, Nat.le_of_ble_eq_true rfl⟩) (pV hS hAlo hlo hP hK (va_Dlo hD hAlo) hZ [0, 1] (by decide) rfl (ci := 6) (q := (RX6, TX6, 6)) (q0 := 0) rfl rfl) rfl rfl hl.1 rfl (lv_room (Nat.le_of_ble_eq_true rfl)) dX6_needSemicolon_9 ⟨Nat.le_of_ble_eq_true rfl, Nat.le_of_ble_eq_true rfl⟩) hS hA hP (fun r_8 H locs hw_8 hP hS => ?_)
    try dsimp only at hw_8
    refine lv_bipush (v := 59) hx hb dX6_needSemicolon_12 (by decide) ?_
    refine lv_icmp_ne (tgt := 30) hx hb dX6_needSemicolon_14 (by decide) (fun c_9 => ?_) (fun c_9 => ?_)
    · refine lv_aload_n hx hb dX6_needSemicolon_30 rfl (lv_at hl 0 rfl) ?_
      refine lv_iconst (v := 1) hx hb dX6_needSemicolon_31 (by decide) ?_
      refine lv_aload_n hx hb dX6_needSemicolon_32 rfl (lv_at hl 0 rfl) ?_
      refine va_get (D := D) (ci := 6) (v := .int (nI ta__7)) (C := RX6) (T := TX6) (N := 6) hx hb hts inX6 hown hK hP 0 rfl rfl 2 (by decide) (hts _ tw_113) (fun _ h9 => h9) rfl dX6_needSemicolon_33 ?_
      refine rw_v (D := D) (wr := [(aB k x1 240 fx)]) (va_runV (As := [.int 1, .int (nI ta__7)]) (rest := []) ⟨hx, hb, hml, hown, hts⟩ ((y_fail l D k st lo x0 x1 tz ta__7 na fn fb 1 (nI ta__7) (by decide)) H.size) (cwV 2 hts (gV tw_476 tw_456 tw_457 tw_80 tw_458) rfl rfl rfl (by decide +kernel) ⟨Nat.le_of_ble_eq_true rfl, Nat.le_of_ble_eq_true rfl⟩) (pV hS hAlo hlo hP hK (va_Dlo hD hAlo) hZ [0] (by decide) rfl (ci := 6) (q := (RX6, TX6, 6)) (q0 := 0) rfl rfl) rfl rfl hl.1 rfl (lv_room (Nat.le_of_ble_eq_true rfl)) dX6_needSemicolon_36 ⟨Nat.le_of_ble_eq_true rfl, Nat.le_of_ble_eq_true rfl⟩) hS hA hP hD [0] [1] rfl rfl (by decide) (by decide) (fun u H locs hw_10 hP hD hS => ?_)
      obtain ⟨fn__10, fb__10⟩ := u
      replace hP : va_P D classes [(aB k x1 240 fx), (x0, .inr (6, (fX6 x1 (nI tz) (nI ta__7) na fn__10 fb__10)))] H := hP
      replace hD : va_D A [(aB k x1 240 fx), (x0, .inr (6, (fX6 x1 (nI tz) (nI ta__7) na fn__10 fb__10)))] := hD
      try dsimp only at hw_10
      obtain ⟨hs0_11, hs1_11⟩ := hw_10.2.2 hf0
      replace hs0_11 := hs0_11.symm
      subst hs0_11
      replace hs1_11 := hs1_11.symm
      subst hs1_11
      have hP9 := hP.sub (ws' := [(x0, .inr (6, (fX6 x1 (nI tz) (nI ta__7) na fn fb))), (aB k x1 240 fx)]) [1, 0] rfl
      have hD9 := hD.sub (ws' := [(x0, .inr (6, (fX6 x1 (nI tz) (nI ta__7) na fn fb))), (aB k x1 240 fx)]) [1, 0] (by decide) rfl
      exact W.vret hx hb hr (fun t ht hW => ⟨⟨(ta__7, fn, fb), rfl, ⟨fun _ => ⟨rfl, rfl⟩, fun h => absurd h hf0, by omega, by omega⟩, by rw [ht]; exact hP9, hD9⟩, hS.F ht⟩) hS.2.2 dX6_needSemicolon_39
    · have hlt_12 : ta__7 < tz := by rcases Nat.lt_or_ge (ta__7) tz with h | h; exact h; exact absurd (c_9.symm.trans (hw_8.trans (byF_out (by omega)))) (by decide)
      refine lv_aload_n hx hb dX6_needSemicolon_17 rfl (lv_at hl 0 rfl) ?_
      refine lv_dup hx hb dX6_needSemicolon_18 rfl ?_
      refine va_get (D := D) (ci := 6) (v := .int (nI ta__7)) (C := RX6) (T := TX6) (N := 6) hx hb hts inX6 hown hK hP 0 rfl rfl 2 (by decide) (hts _ tw_113) (fun _ h9 => h9) rfl dX6_needSemicolon_19 ?_
      refine lv_iconst (v := 1) hx hb dX6_needSemicolon_22 (by decide) ?_
      refine lv_iadd hx hb dX6_needSemicolon_23 ?_
      refine lv_ti (y := (nI (ta__7 + 1))) (nI_add ta__7 1) ?_
      refine va_put (D := D) (ci := 6) (v := .int (nI (ta__7 + 1))) (ty := .int) (C := RX6) (T := TX6) (N := 6) hx hb hts inX6 tyX6 tyX6_ok nmX6 hown hK hP hD hS 0 rfl rfl 2 (by decide) (hts _ tw_113) (fun _ h9 => h9) rfl (by decide +kernel) rfl rfl (Nat.le_of_ble_eq_true rfl) dX6_needSemicolon_24 (fun H locs hP hD hS => ?_)
      replace hP : va_P D classes [(x0, .inr (6, (fX6 x1 (nI tz) (nI (ta__7 + 1)) na fn fb))), (aB k x1 240 fx)] H := hP
      replace hD : va_D A [(x0, .inr (6, (fX6 x1 (nI tz) (nI (ta__7 + 1)) na fn fb))), (aB k x1 240 fx)] := hD
      refine lv_goto (tgt := 39) hx hb dX6_needSemicolon_27 (by decide) ?_
      have hP9 := hP.sub (ws' := [(x0, .inr (6, (fX6 x1 (nI tz) (nI (ta__7 + 1)) na fn fb))), (aB k x1 240 fx)]) [0, 1] rfl
      have hD9 := hD.sub (ws' := [(x0, .inr (6, (fX6 x1 (nI tz) (nI (ta__7 + 1)) na fn fb))), (aB k x1 240 fx)]) [0, 1] (by decide) rfl
      exact W.vret hx hb hr (fun t ht hW => ⟨⟨((ta__7 + 1), fn, fb), rfl, ⟨fun _ => ⟨rfl, rfl⟩, fun h => absurd h hf0, by omega, by omega⟩, by rw [ht]; exact hP9, hD9⟩, hS.F ht⟩) hS.2.2 dX6_needSemicolon_39


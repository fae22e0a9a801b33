theorem f_glueP1 : True := trivial
/-! what a text tells: runs of bytes of one kind, words, numbers -/
def blB (c : Int32) : Bool := decide (c = 32)
def letB (c : Int32) : Bool := decide (97 ≤ c) && decide (c ≤ 122)
def figB (c : Int32) : Bool := decide (48 ≤ c) && decide (c ≤ 57)
theorem blB_t {c : Int32} : blB c = true ↔ c = 32 := by
  unfold blB
  simp only [decide_eq_true_eq]
theorem blB_f {c : Int32} (h : ¬ c = 32) : blB c = false := by
  unfold blB
  simp only [decide_eq_false_iff_not]
  exact h
theorem letB_t {c : Int32} : letB c = true ↔ inB c 97 122 := by
  unfold letB inB
  simp only [Bool.and_eq_true, decide_eq_true_eq]
theorem letB_f {c : Int32} (h : ¬ inB c 97 122) : letB c = false := by
  rcases hq : letB c with _ | _
  · rfl
  · exact absurd (letB_t.mp hq) h
theorem figB_t {c : Int32} : figB c = true ↔ inB c 48 57 := by
  unfold figB inB
  simp only [Bool.and_eq_true, decide_eq_true_eq]
theorem figB_f {c : Int32} (h : ¬ inB c 48 57) : figB c = false := by
  rcases hq : figB c with _ | _
  · rfl
  · exact absurd (figB_t.mp hq) h
def runF (q : Int32 → Bool) (b : Nat → Int32) : Nat → Nat → List Int32
  | 0, _ => []
  | k + 1, t => if q (b t) = true then b t :: runF q b k (t + 1) else []
/-- the run of bytes of one kind that begins at t -/
def runA (q : Int32 → Bool) (b : Nat → Int32) (n t : Nat) : List Int32 := runF q b (n - t) t
theorem runA_go {q : Int32 → Bool} {b : Nat → Int32} {n t : Nat} (h : t < n) (hq : q (b t) = true) : runA q b n t = b t :: runA q b n (t + 1) := by
  unfold runA
  rw [show n - t = (n - (t + 1)) + 1 by omega]
  show (if q (b t) = true then b t :: runF q b (n - (t + 1)) (t + 1) else []) = _
  rw [if_pos hq]
theorem runA_no {q : Int32 → Bool} {b : Nat → Int32} {n t : Nat} (hq : q (b t) = false) : runA q b n t = [] := by
  unfold runA
  rcases n - t with _ | k
  · rfl
  · show (if q (b t) = true then b t :: runF q b k (t + 1) else []) = _
    rw [if_neg (by rw [hq]; decide)]
theorem runA_end {q : Int32 → Bool} {b : Nat → Int32} {n t : Nat} (h : n ≤ t) : runA q b n t = [] := by
  unfold runA
  rw [show n - t = 0 by omega]
  rfl
theorem runF_len (q : Int32 → Bool) (b : Nat → Int32) : ∀ k t, (runF q b k t).length ≤ k := by
  intro k
  induction k with
  | zero => intro t; exact Nat.le_refl 0
  | succ k ih =>
    intro t
    show (if q (b t) = true then b t :: runF q b k (t + 1) else []).length ≤ k + 1
    split
    · exact Nat.succ_le_succ (ih (t + 1))
    · exact Nat.zero_le _
theorem runA_len {q : Int32 → Bool} {b : Nat → Int32} {n t : Nat} (h : t ≤ n) : t + (runA q b n t).length ≤ n := by
  have h2 := runF_len q b (n - t) t
  unfold runA
  omega
theorem runF_all (q : Int32 → Bool) (b : Nat → Int32) : ∀ k t, ∀ c ∈ runF q b k t, q c = true := by
  intro k
  induction k with
  | zero => intro t c hc; exact absurd hc (List.not_mem_nil)
  | succ k ih =>
    intro t c hc
    have hc2 : c ∈ (if q (b t) = true then b t :: runF q b k (t + 1) else []) := hc
    split at hc2
    · rename_i hq
      rcases List.mem_cons.mp hc2 with rfl | h
      · exact hq
      · exact ih (t + 1) c h
    · exact absurd hc2 (List.not_mem_nil)
theorem runA_all {q : Int32 → Bool} {b : Nat → Int32} {n t : Nat} : ∀ c ∈ runA q b n t, q c = true := runF_all q b (n - t) t
/-- behind the blanks -/
def skA (b : Nat → Int32) (n t : Nat) : Nat := t + (runA blB b n t).length
theorem skA_go {b : Nat → Int32} {n t : Nat} (h : t < n) (hq : b t = 32) : skA b n (t + 1) = skA b n t := by
  unfold skA
  rw [runA_go h (blB_t.mpr hq), List.length_cons]
  omega
theorem skA_no {b : Nat → Int32} {n t : Nat} (hq : ¬ b t = 32) : skA b n t = t := by
  unfold skA
  rw [runA_no (blB_f hq)]
  rfl
theorem skA_end {b : Nat → Int32} {n t : Nat} (h : n ≤ t) : skA b n t = t := by
  unfold skA
  rw [runA_end h]
  rfl
theorem skA_ge (b : Nat → Int32) (n t : Nat) : t ≤ skA b n t := by
  unfold skA
  omega
theorem skA_le {b : Nat → Int32} {n t : Nat} (h : t ≤ n) : skA b n t ≤ n := runA_len h
theorem runA_stop {q : Int32 → Bool} {b : Nat → Int32} {n : Nat} : ∀ k t, n - t = k → t + (runA q b n t).length < n → q (b (t + (runA q b n t).length)) = false := by
  intro k
  induction k with
  | zero => intro t hk h; omega
  | succ k ih =>
    intro t hk h
    rcases hq : q (b t) with _ | _
    · rw [runA_no hq]
      exact hq
    · rw [runA_go (by omega) hq, List.length_cons] at h ⊢
      rw [show t + ((runA q b n (t + 1)).length + 1) = (t + 1) + (runA q b n (t + 1)).length by omega] at h ⊢
      exact ih (t + 1) (by omega) h
theorem skA_idem {b : Nat → Int32} {n t : Nat} : skA b n (skA b n t) = skA b n t := by
  rcases Nat.lt_or_ge (skA b n t) n with h | h
  · have h2 : blB (b (skA b n t)) = false := runA_stop _ t rfl h
    exact skA_no (fun e => absurd (blB_t.mpr e) (by rw [h2]; decide))
  · exact skA_end h
/-- the byte at t, or NONE -/
def byF (b : Nat → Int32) (n t : Nat) : Int32 := if t < n then b t else -1
theorem byF_in {b : Nat → Int32} {n t : Nat} (h : t < n) : byF b n t = b t := if_pos h
theorem byF_out {b : Nat → Int32} {n t : Nat} (h : ¬ t < n) : byF b n t = -1 := if_neg h
/-- the letters that begin at t -/
def letA (b : Nat → Int32) (n t : Nat) : List Int32 := runA letB b n t
/-- the word's bytes stand there, and no letter behind them -/
theorem letA_nil {b : Nat → Int32} {n t : Nat} : letA b n t = [] ↔ ¬ inB (byF b n t) 97 122 := by
  unfold letA
  rcases Nat.lt_or_ge t n with h | h
  · rw [byF_in h]
    rcases hq : letB (b t) with _ | _
    · rw [runA_no hq]
      exact ⟨fun _ hc => absurd (letB_t.mpr hc) (by rw [hq]; decide), fun _ => rfl⟩
    · rw [runA_go h hq]
      exact ⟨fun hc => absurd hc (List.cons_ne_nil _ _), fun hc => absurd (letB_t.mp hq) hc⟩
  · rw [byF_out (by omega), runA_end h]
    exact ⟨fun _ => by unfold inB; decide, fun _ => rfl⟩
theorem letA_cons {b : Nat → Int32} {n t : Nat} {k : Int32} {K : List Int32} (hk : inB k 97 122) : letA b n t = k :: K ↔ byF b n t = k ∧ letA b n (t + 1) = K := by
  unfold letA
  rcases Nat.lt_or_ge t n with h | h
  · rw [byF_in h]
    rcases hq : letB (b t) with _ | _
    · rw [runA_no hq]
      exact ⟨fun hc => absurd hc.symm (List.cons_ne_nil _ _), fun hc => absurd (letB_t.mpr hk) (by rw [← hc.1, hq]; decide)⟩
    · rw [runA_go h hq, List.cons.injEq]
  · rw [byF_out (by omega), runA_end h]
    exact ⟨fun hc => absurd hc.symm (List.cons_ne_nil _ _), fun hc => absurd hk (by rw [← hc.1]; unfold inB; decide)⟩
/-- the same, byte by byte from place j of the word on -/
theorem letA_drop {b : Nat → Int32} {n t : Nat} {K : List Int32} (hK : ∀ c ∈ K, inB c 97 122) : ∀ j, j < K.length → (letA b n (t + j) = K.drop j ↔ byF b n (t + j) = K.getD j 0 ∧ letA b n (t + (j + 1)) = K.drop (j + 1)) := by
  intro j hj
  rw [List.drop_eq_getElem_cons hj, letA_cons (hK _ (List.getElem_mem hj))]
  have e : K.getD j 0 = K[j] := by simp [List.getD_eq_getElem?_getD, List.getElem?_eq_getElem hj]
  rw [e]
  exact Iff.rfl
theorem letA_last {b : Nat → Int32} {n t : Nat} {K : List Int32} : letA b n (t + K.length) = K.drop K.length ↔ ¬ inB (byF b n (t + K.length)) 97 122 := by
  rw [List.drop_length]
  exact letA_nil
/-! a word as a number -/
def stW (w : Int64) (c : Int32) : Int64 := if 1000000000000 < w then 2000000000000 else ((27 : Int32).toInt64) * w + c.toInt64 - ((96 : Int32).toInt64)
def wval (L : List Int32) : Int64 := L.foldl stW ((0 : Int32).toInt64)
def gN (L : List Int32) : Int := L.foldr (fun c w => if 1000000000000 < w then 2000000000000 else 27 * w + c.toInt - 96) 0
theorem gN_pos : ∀ L : List Int32, (∀ c ∈ L, inB c 97 122) → 0 ≤ gN L ∧ gN L ≤ 28000000000000 ∧ (L ≠ [] → 1 ≤ gN L) := by
  intro L
  induction L with
  | nil => intro _; exact ⟨by decide, by decide, fun h => absurd rfl h⟩
  | cons c L ih =>
    intro h
    obtain ⟨h1, h2, -⟩ := ih (fun x hx => h x (List.mem_cons_of_mem _ hx))
    have hc := h c List.mem_cons_self
    unfold inB at hc
    rw [Int32.le_iff_toInt_le, Int32.le_iff_toInt_le] at hc
    have e1 : (97 : Int32).toInt = 97 := by decide
    have e2 : (122 : Int32).toInt = 122 := by decide
    rw [e1, e2] at hc
    show 0 ≤ (if 1000000000000 < gN L then 2000000000000 else 27 * gN L + c.toInt - 96) ∧ (if 1000000000000 < gN L then 2000000000000 else 27 * gN L + c.toInt - 96) ≤ 28000000000000 ∧ (_ → 1 ≤ (if 1000000000000 < gN L then 2000000000000 else 27 * gN L + c.toInt - 96))
    split
    · exact ⟨by omega, by omega, fun _ => by omega⟩
    · exact ⟨by omega, by omega, fun _ => by omega⟩
theorem gN_inj : ∀ K L : List Int32, (∀ c ∈ K, inB c 97 122) → (∀ c ∈ L, inB c 97 122) → gN K < 100000000000 → gN L = gN K → L = K := by
  intro K
  induction K with
  | nil =>
    intro L hK hL _ h
    rcases L with _ | ⟨d, L⟩
    · rfl
    · have h2 := (gN_pos (d :: L) hL).2.2 (List.cons_ne_nil _ _)
      rw [h] at h2
      exact absurd h2 (by decide)
  | cons k K ih =>
    intro L hK hL hs h
    rcases L with _ | ⟨d, L⟩
    · have h2 := (gN_pos (k :: K) hK).2.2 (List.cons_ne_nil _ _)
      rw [← h] at h2
      exact absurd h2 (by decide)
    · have hk := hK k List.mem_cons_self
      have hd := hL d List.mem_cons_self
      have hK2 : ∀ c ∈ K, inB c 97 122 := fun c hc => hK c (List.mem_cons_of_mem _ hc)
      have hL2 : ∀ c ∈ L, inB c 97 122 := fun c hc => hL c (List.mem_cons_of_mem _ hc)
      have p1 := gN_pos K hK2
      have p2 := gN_pos L hL2
      unfold inB at hk hd
      rw [Int32.le_iff_toInt_le, Int32.le_iff_toInt_le] at hk hd
      have e1 : (97 : Int32).toInt = 97 := by decide
      have e2 : (122 : Int32).toInt = 122 := by decide
      rw [e1, e2] at hk hd
      have hs2 : (if 1000000000000 < gN K then 2000000000000 else 27 * gN K + k.toInt - 96) < 100000000000 := hs
      have h2 : (if 1000000000000 < gN L then 2000000000000 else 27 * gN L + d.toInt - 96) = (if 1000000000000 < gN K then 2000000000000 else 27 * gN K + k.toInt - 96) := h
      have c1 : ¬ 1000000000000 < gN K := fun hc => by rw [if_pos hc] at hs2; omega
      rw [if_neg c1] at hs2 h2
      have c2 : ¬ 1000000000000 < gN L := fun hc => by rw [if_pos hc] at h2; omega
      rw [if_neg c2] at h2
      have hdk : d = k := Int32.toInt_inj.mp (by omega)
      rw [hdk, ih L hK2 hL2 (by omega) (by omega)]
theorem stW_toInt {w : Int64} {c : Int32} (h0 : 0 ≤ w.toInt) (h1 : w.toInt ≤ 28000000000000) (hc : inB c 97 122) : (stW w c).toInt = if 1000000000000 < w.toInt then 2000000000000 else 27 * w.toInt + c.toInt - 96 := by
  unfold inB at hc
  rw [Int32.le_iff_toInt_le, Int32.le_iff_toInt_le] at hc
  have e1 : (97 : Int32).toInt = 97 := by decide
  have e2 : (122 : Int32).toInt = 122 := by decide
  rw [e1, e2] at hc
  have e3 : (1000000000000 : Int64).toInt = 1000000000000 := by decide
  have e4 : (2000000000000 : Int64).toInt = 2000000000000 := by decide
  have e5 : ((27 : Int32).toInt64).toInt = 27 := by decide
  have e6 : ((96 : Int32).toInt64).toInt = 96 := by decide
  have hb : ∀ z : Int, -4000000000000000 ≤ z → z ≤ 4000000000000000 → z.bmod (2 ^ 64) = z := fun z h2 h3 => Int.bmod_eq_of_le (by omega) (by omega)
  unfold stW
  by_cases h : 1000000000000 < w
  · have h2 := Int64.lt_iff_toInt_lt.mp h
    rw [e3] at h2
    rw [if_pos h, if_pos h2, e4]
  · have h2 : ¬ 1000000000000 < w.toInt := fun q => h (Int64.lt_iff_toInt_lt.mpr (by rw [e3]; exact q))
    rw [if_neg h, if_neg h2, Int64.toInt_sub, Int64.toInt_add, Int64.toInt_mul, e5, e6, Int32.toInt_toInt64, hb (27 * w.toInt) (by omega) (by omega), hb (27 * w.toInt + c.toInt) (by omega) (by omega), hb _ (by omega) (by omega)]
theorem wval_snoc (L : List Int32) (c : Int32) : wval (L ++ [c]) = stW (wval L) c := by
  unfold wval
  rw [List.foldl_append]
  rfl
theorem wval_g : ∀ R : List Int32, (∀ c ∈ R, inB c 97 122) → (wval R.reverse).toInt = gN R := by
  intro R
  induction R with
  | nil => intro _; decide
  | cons c R ih =>
    intro h
    have h2 : ∀ x ∈ R, inB x 97 122 := fun x hx => h x (List.mem_cons_of_mem _ hx)
    have p := gN_pos R h2
    have e := ih h2
    rw [List.reverse_cons, wval_snoc, stW_toInt (by rw [e]; exact p.1) (by rw [e]; exact p.2.1) (h c List.mem_cons_self), e]
    rfl
theorem wval_inj {K L : List Int32} (hK : ∀ c ∈ K, inB c 97 122) (hL : ∀ c ∈ L, inB c 97 122) (hs : (wval K).toInt < 100000000000) : wval L = wval K ↔ L = K := by
  refine ⟨fun h => ?_, fun h => by rw [h]⟩
  have hK2 : ∀ c ∈ K.reverse, inB c 97 122 := fun c hc => hK c (List.mem_reverse.mp hc)
  have hL2 : ∀ c ∈ L.reverse, inB c 97 122 := fun c hc => hL c (List.mem_reverse.mp hc)
  have g1 := wval_g K.reverse hK2
  have g2 := wval_g L.reverse hL2
  rw [List.reverse_reverse] at g1 g2
  have h3 := gN_inj K.reverse L.reverse hK2 hL2 (by rw [← g1]; exact hs) (by rw [← g1, ← g2, h])
  have h4 := congrArg List.reverse h3
  rw [List.reverse_reverse, List.reverse_reverse] at h4
  exact h4
theorem letA_all {b : Nat → Int32} {n t : Nat} : ∀ c ∈ letA b n t, inB c 97 122 := fun c hc => letB_t.mp (runA_all c hc)
/-! numbers -/
def stN (v c : Int32) : Int32 := if 10000 < v then v else 10 * v + c - 48
def vM (L : List Int32) : Int32 := L.foldl stN 0
def vXk : Nat → Int32 → List Int32 → Int32
  | _, v, [] => v
  | k, v, c :: L => vXk (k + 1) (if k < 3 then v * 10 + c - 48 else v) L
def vX (L : List Int32) : Int32 := vXk 0 0 L
theorem fig_step : ∀ a, a < 1000 → ∀ d, d < 10 → (10 : Int32) * nI a + nI (48 + d) - 48 = nI (10 * a + d) := by
  intro a _ d _
  show nI 10 * nI a + nI (48 + d) - nI 48 = _
  rw [pk_mul, nI_add, pk_sub (by omega)]
  congr 1
  omega
theorem fig_stepX : ∀ a, a < 1000 → ∀ d, d < 10 → nI a * (10 : Int32) + nI (48 + d) - 48 = nI (10 * a + d) := by
  intro a _ d _
  show nI a * nI 10 + nI (48 + d) - nI 48 = _
  rw [pk_mul, nI_add, pk_sub (by omega)]
  congr 1
  omega
theorem fig_of {c : Int32} (h : inB c 48 57) : ∃ d : Nat, d < 10 ∧ c = nI (48 + d) := by
  obtain ⟨j, h1, h2, rfl⟩ := inB_ofc (a := 48) (b := 57) (by omega) (by omega) h
  exact ⟨j - 48, by omega, by rw [show 48 + (j - 48) = j by omega]⟩
theorem stN_nI {a d : Nat} (ha : a < 1000) (hd : d < 10) : stN (nI a) (nI (48 + d)) = nI (10 * a + d) := by
  unfold stN
  rw [if_neg (fun h : (10000 : Int32) < nI a => absurd ((nI_ltI (a := 10000) (b := a) (by omega) (by omega)).mp h) (by omega)), fig_step a ha d hd]
/-- up to three figures: both ways of reading come to the same number -/
theorem v_same : ∀ L : List Int32, (∀ c ∈ L, inB c 48 57) → L.length ≤ 3 → ∃ m : Nat, m < 1000 ∧ vM L = nI m ∧ vX L = nI m := by
  intro L h hl
  have hz : (0 : Int32) = nI 0 := rfl
  rcases L with _ | ⟨c1, _ | ⟨c2, _ | ⟨c3, _ | ⟨c4, L⟩⟩⟩⟩
  · exact ⟨0, by omega, rfl, rfl⟩
  · obtain ⟨d1, h1, rfl⟩ := fig_of (h c1 (by simp))
    refine ⟨d1, by omega, ?_, ?_⟩
    · show stN 0 (nI (48 + d1)) = _
      rw [hz, stN_nI (by omega) h1]
      congr 1
      omega
    · show (0 : Int32) * 10 + nI (48 + d1) - 48 = _
      rw [hz, fig_stepX 0 (by omega) d1 h1]
      congr 1
      omega
  · obtain ⟨d1, h1, rfl⟩ := fig_of (h c1 (by simp))
    obtain ⟨d2, h2, rfl⟩ := fig_of (h c2 (by simp))
    refine ⟨10 * d1 + d2, by omega, ?_, ?_⟩
    · show stN (stN 0 (nI (48 + d1))) (nI (48 + d2)) = _
      rw [hz, stN_nI (by omega) h1, stN_nI (by omega) h2]
      congr 1
      omega
    · show ((0 : Int32) * 10 + nI (48 + d1) - 48) * 10 + nI (48 + d2) - 48 = _
      rw [hz, fig_stepX 0 (by omega) d1 h1, fig_stepX _ (by omega) d2 h2]
      congr 1
      omega
  · obtain ⟨d1, h1, rfl⟩ := fig_of (h c1 (by simp))
    obtain ⟨d2, h2, rfl⟩ := fig_of (h c2 (by simp))
    obtain ⟨d3, h3, rfl⟩ := fig_of (h c3 (by simp))
    refine ⟨100 * d1 + 10 * d2 + d3, by omega, ?_, ?_⟩
    · show stN (stN (stN 0 (nI (48 + d1))) (nI (48 + d2))) (nI (48 + d3)) = _
      rw [hz, stN_nI (by omega) h1, stN_nI (by omega) h2, stN_nI (by omega) h3]
      congr 1
      omega
    · show (((0 : Int32) * 10 + nI (48 + d1) - 48) * 10 + nI (48 + d2) - 48) * 10 + nI (48 + d3) - 48 = _
      rw [hz, fig_stepX 0 (by omega) d1 h1, fig_stepX _ (by omega) d2 h2, fig_stepX _ (by omega) d3 h3]
      congr 1
      omega
  · simp only [List.length_cons] at hl
    omega
def figA (b : Nat → Int32) (n t : Nat) : List Int32 := runA figB b n t
theorem figA_all {b : Nat → Int32} {n t : Nat} : ∀ c ∈ figA b n t, inB c 48 57 := fun c hc => figB_t.mp (runA_all c hc)
theorem figA_go {b : Nat → Int32} {n t : Nat} (h : t < n) (hq : inB (b t) 48 57) : figA b n t = b t :: figA b n (t + 1) := runA_go h (figB_t.mpr hq)
theorem figA_no {b : Nat → Int32} {n t : Nat} (hq : ¬ inB (b t) 48 57) : figA b n t = [] := runA_no (figB_f hq)
theorem figA_end {b : Nat → Int32} {n t : Nat} (h : n ≤ t) : figA b n t = [] := runA_end h
theorem letA_go {b : Nat → Int32} {n t : Nat} (h : t < n) (hq : inB (b t) 97 122) : letA b n t = b t :: letA b n (t + 1) := runA_go h (letB_t.mpr hq)
theorem letA_no {b : Nat → Int32} {n t : Nat} (hq : ¬ inB (b t) 97 122) : letA b n t = [] := runA_no (letB_f hq)
theorem letA_end {b : Nat → Int32} {n t : Nat} (h : n ≤ t) : letA b n t = [] := runA_end h
/-- a NUMBER: its fault (0, 1, 2), the fault's place, where one stands behind it, its value, where it began -/
def vS (mi : Bool) (L : List Int32) : Int32 := if mi = true then -vX L else vX L
def nuS (b : Nat → Int32) (n : Nat) (mi : Bool) (lo hi : Int32) (a f : Nat) : Nat × Nat × Nat × Int32 × Nat :=
  if figA b n f = [] then (1, f, f, 0, a)
  else if 3 < (figA b n f).length ∨ ¬ (lo ≤ vS mi (figA b n f) ∧ vS mi (figA b n f) ≤ hi) then (2, a, f + (figA b n f).length, 0, a)
  else (0, 0, f + (figA b n f).length, vS mi (figA b n f), a)
def nuR (b : Nat → Int32) (n : Nat) (sg : Bool) (lo hi : Int32) (t : Nat) : Nat × Nat × Nat × Int32 × Nat :=
  if sg = true ∧ byF b n (skA b n t) = 45 then nuS b n true lo hi (skA b n t) (skA b n t + 1) else nuS b n false lo hi (skA b n t) (skA b n t)
/-- a word that must stand; a semicolon -/
def wdR (b : Nat → Int32) (n : Nat) (K : List Int32) (t : Nat) : Nat × Nat × Nat :=
  if letA b n (skA b n t) = K then (0, 0, skA b n t + K.length) else (1, skA b n t, skA b n t)
def smR (b : Nat → Int32) (n t : Nat) : Nat × Nat × Nat :=
  if byF b n (skA b n t) = 59 then (0, 0, skA b n t + 1) else (1, skA b n t, skA b n t)


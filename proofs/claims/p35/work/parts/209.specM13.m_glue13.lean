theorem m_glue13 : True := trivial
theorem lgc0 {x y : Int64} (h : lg_cmp x y = 0) : x = y :=
  Int64.le_antisymm (Int64.not_lt.mp (fun q => absurd ((lg_cmp_gt x y).mpr q) (by rw [h]; decide))) (Int64.not_lt.mp (fun q => absurd ((lg_cmp_lt x y).mpr q) (by rw [h]; decide)))
/-- a word of fewer than three letters is small -/
def wB (n : Nat) (w : Int64) : Prop := n < 3 → ∃ v : Nat, v < 27 ^ n ∧ w = Int64.ofNat v
abbrev bigW (q : Int64) : Prop := ∀ v, v < 729 → q ≠ Int64.ofNat v
theorem wB0 (t : Nat) : wB (t - t) 0 := fun _ => ⟨0, by rw [Nat.sub_self]; decide, rfl⟩
theorem wB_key : ∀ v, v < 27 → ∀ d, d < 26 → ((27 : Int32).toInt64) * Int64.ofNat v + (nI (97 + d)).toInt64 - ((96 : Int32).toInt64) = Int64.ofNat (27 * v + d + 1) := by decide +kernel
theorem wB_lt {n v : Nat} (hn : n < 2) (h : v < 27 ^ n) : v < 27 ∧ 27 * v + 26 < 27 ^ (n + 1) := by
  rcases (show n = 0 ∨ n = 1 by omega) with rfl | rfl
  · have h2 : v < 1 := h
    exact ⟨by omega, by show 27 * v + 26 < 27; omega⟩
  · have h2 : v < 27 := h
    exact ⟨by omega, by show 27 * v + 26 < 729; omega⟩
theorem wB_step {t e2 : Nat} {w : Int64} {x : Int32} (ht : t ≤ e2) (h : wB (e2 - t) w) (hc : inB x 97 122) : wB (e2 + 1 - t) (((27 : Int32).toInt64) * w + x.toInt64 - ((96 : Int32).toInt64)) := by
  intro hn
  obtain ⟨v, hv, rfl⟩ := h (by omega)
  obtain ⟨j, h1, h2, rfl⟩ := inB_ofc (a := 97) (b := 122) (by omega) (by omega) hc
  obtain ⟨d, rfl⟩ : ∃ d, j = 97 + d := ⟨j - 97, by omega⟩
  have h3 := wB_lt (by omega) hv
  refine ⟨27 * v + d + 1, ?_, wB_key v h3.1 d (by omega)⟩
  have e : e2 + 1 - t = e2 - t + 1 := by omega
  rw [e]
  omega
theorem wB_far_key : ∀ v, v < 27 → lg_cmp (Int64.ofNat v) 1000000000000 ≤ 0 := by decide +kernel
theorem wB_far {t e2 : Nat} {w : Int64} (ht : t ≤ e2) (h : wB (e2 - t) w) (hc : ¬ lg_cmp w 1000000000000 ≤ 0) (y : Int64) : wB (e2 + 1 - t) y := by
  intro hn
  obtain ⟨v, hv, rfl⟩ := h (by omega)
  exact absurd (wB_far_key v (wB_lt (by omega) hv).1) hc
theorem wB_big {n : Nat} {w : Int64} (h : wB n w) (hb : bigW w) : 3 ≤ n := by
  rcases Nat.lt_or_ge n 3 with hn | hn
  · obtain ⟨v, hv, e⟩ := h hn
    have h2 : 27 ^ n ≤ 27 ^ 2 := Nat.pow_le_pow_right (by omega) (by omega)
    exact absurd e (hb v (by have : (27 : Nat) ^ 2 = 729 := rfl; omega))
  · exact hn
/-- what images keep: row's size, cars, bars -/
def imP (k : Nat) (v : Int32) : Prop := (k = 0 → ∃ a : Nat, a ≤ 24 ∧ v = nI a) ∧ (k = 1 → ∃ a : Nat, a ≤ 4 ∧ v = nI a) ∧ (31 ≤ k → ∃ a : Nat, a ≤ 24 ∧ v = nI a)
def imOK (f : Nat → Int32) : Prop := ∀ j, imP (j % 35) (f j)
theorem imOK_upd {f : Nat → Int32} (h : imOK f) (i : Nat) (x : Int32) (hx : imP (i % 35) x) : imOK (upd f i x) := by
  intro j
  unfold upd
  by_cases hj : j = i
  · rw [if_pos hj, hj]
    exact hx
  · rw [if_neg hj]
    exact h j
theorem imOK_0 : imOK (fun _ => 0) := fun _ => ⟨fun _ => ⟨0, by omega, rfl⟩, fun _ => ⟨0, by omega, rfl⟩, fun _ => ⟨0, by omega, rfl⟩⟩


theorem f_glueP13 : True := trivial
theorem hty_of {f g : Nat → Int32} (h : bF f = g) : ∀ j, 0 ≤ g j := by
  intro j
  rw [← h]
  show (0 : Int32) ≤ f j &&& 255
  obtain ⟨z, hz, e⟩ := and255 (f j)
  rw [e]
  exact nI_ge0 (by omega)
theorem d3_n {a b c : SDt} (s : Nat) : (d3 a b c s).1 = d3 a.1 b.1 c.1 s := by
  match s with
  | 0 => rfl
  | 1 => rfl
  | s + 2 => rfl
/-! told -/
def toA (d : SDt) (p1 r : Int32) : Prop := (p1 = 0 → r = nI d.1) ∧ (∀ k, 1 ≤ k → k ≤ 9 → p1 = nI k → r = d.2.1 k) ∧ (¬ inB p1 0 9 → r = -1002)
def toP (sd : Nat → SDt) (p0 p1 r : Int32) : Prop := ((∀ s, s < 3 → p0 = nI s → ¬ 0 < (sd s).1) → r = -1001) ∧ ∀ s, s < 3 → p0 = nI s → 0 < (sd s).1 → toA (sd s) p1 r
theorem in09 {k : Nat} (h : k ≤ 9) : inB (nI k) 0 9 := ⟨nI_ge0 (by omega), (nI_leI (a := k) (b := 9) (by omega) (by omega)).mpr h⟩
theorem toA_fun {d : SDt} {p1 r q : Int32} (h : toA d p1 r) (g : toA d p1 q) : r = q := by
  rcases Classical.em (inB p1 0 9) with hi | hi
  · obtain ⟨k, h1, h2, e⟩ := inB_ofc (a := 0) (b := 9) (by omega) (by omega) hi
    rcases Nat.eq_zero_or_pos k with hk | hk
    · subst hk
      exact (h.1 e).trans (g.1 e).symm
    · exact (h.2.1 k hk h2 e).trans (g.2.1 k hk h2 e).symm
  · exact (h.2.2 hi).trans (g.2.2 hi).symm
theorem toP_fun {sd se : Nat → SDt} {p0 p1 r q : Int32} (h : toP sd p0 p1 r) (g : toP se p0 p1 q) (e : ∀ i, i < 3 → sd i = se i) : r = q := by
  rcases Classical.em (∃ s, s < 3 ∧ p0 = nI s ∧ 0 < (sd s).1) with ⟨s, h1, h2, h3⟩ | hn
  · have a := h.2 s h1 h2 h3
    have b := g.2 s h1 h2 (by rw [← e s h1]; exact h3)
    rw [← e s h1] at b
    exact toA_fun a b
  · have a := h.1 (fun s h1 h2 h3 => hn ⟨s, h1, h2, h3⟩)
    have b := g.1 (fun s h1 h2 h3 => hn ⟨s, h1, h2, by rw [e s h1]; exact h3⟩)
    exact a.trans b.symm
theorem to_no {sd : Nat → SDt} {p0 p1 : Int32} (h : ∀ s, s < 3 → p0 = nI s → ¬ 0 < (sd s).1) : toP sd p0 p1 (-1001) := ⟨fun _ => rfl, fun s h1 h2 h3 => absurd h3 (h s h1 h2)⟩
theorem to_at {sd : Nat → SDt} {s : Nat} {p1 r : Int32} (hs : s < 3) (hp : 0 < (sd s).1) (h : toA (sd s) p1 r) : toP sd (nI s) p1 r := by
  refine ⟨fun q => absurd hp (q s hs rfl), fun t h1 h2 _ => ?_⟩
  have := nI_inj (by omega) (by omega) h2
  subst this
  exact h
theorem toXk {n see tm k : Nat} {g ff fp : Nat → Int32} (h : k ≤ 9) : toA (sdX n see tm g ff fp) (nI k) (vv n see tm g k) := by
  refine ⟨fun e => ?_, fun q h1 h2 e => ?_, fun z => absurd (in09 h) z⟩
  · have h0 : k = 0 := nI_inj (by omega) (by omega) e
    subst h0
    rfl
  · have h0 : k = q := nI_inj (by omega) (by omega) e
    subst h0
    show vv n see tm g k = (if 1 ≤ k ∧ k ≤ 9 then vv n see tm g k else 0)
    rw [if_pos ⟨h1, h2⟩]
theorem toO {d : SDt} {p1 : Int32} (h : ¬ inB p1 0 9) : toA d p1 (-1002) := ⟨fun e => absurd (by rw [e]; exact ⟨by decide, by decide⟩) h, fun k _ h2 e => absurd (by rw [e]; exact in09 h2) h, fun _ => rfl⟩
theorem toM0 {dn : Nat → Nat} {f ff fp : Nat → Int32} {s : Nat} {p1 : Int32} (h : p1 = 0) : toA (sdM dn f ff fp s) p1 (nI (dn s)) := by
  refine ⟨fun _ => rfl, fun k h1 h2 e => ?_, fun z => absurd (by rw [h]; exact ⟨by decide, by decide⟩) z⟩
  have h0 : 0 = k := nI_inj (by omega) (by omega) ((show (nI 0) = p1 from h.symm).trans e)
  omega
theorem toMk {dn : Nat → Nat} {f ff fp : Nat → Int32} {s k : Nat} (h1 : 1 ≤ k) (h2 : k ≤ 9) : toA (sdM dn f ff fp s) (nI k) (f (9 * s + (k - 1))) := by
  refine ⟨fun e => ?_, fun q h3 h4 e => ?_, fun z => absurd (in09 h2) z⟩
  · have h0 : k = 0 := nI_inj (by omega) (by omega) e
    omega
  · have h0 : k = q := nI_inj (by omega) (by omega) e
    subst h0
    show f (9 * s + (k - 1)) = (if 1 ≤ k ∧ k ≤ 9 then f (9 * s + (k - 1)) else 0)
    rw [if_pos ⟨h1, h2⟩]
theorem toMo {d : SDt} {p1 : Int32} (h0 : ¬ p1 = 0) (h : ¬ inB p1 1 9) : toA d p1 (-1002) := by
  refine ⟨fun e => absurd e h0, fun k h1 h2 e => absurd ?_ h, fun _ => rfl⟩
  rw [e]
  exact ⟨(nI_leI (a := 1) (b := k) (by omega) (by omega)).mpr h1, (nI_leI (a := k) (b := 9) (by omega) (by omega)).mpr h2⟩
/-! door -/
def doA (d : SDt) (i : Nat) (p2 r : Int32) : Prop := (p2 = 0 → r = d.2.2.1 i) ∧ (p2 = 1 → r = d.2.2.2 i) ∧ (¬ p2 = 0 → ¬ p2 = 1 → r = -1002)
def doP (sd : Nat → SDt) (p0 p1 p2 r : Int32) : Prop := ((∀ s, s < 3 → p0 = nI s → ∀ i, p1 = nI i → ¬ i < (sd s).1) → r = -1001) ∧ ∀ s, s < 3 → p0 = nI s → ∀ i, p1 = nI i → i < (sd s).1 → doA (sd s) i p2 r
theorem doA_fun {d : SDt} {i : Nat} {p2 r q : Int32} (h : doA d i p2 r) (g : doA d i p2 q) : r = q := by
  rcases Classical.em (p2 = 0) with e | e
  · exact (h.1 e).trans (g.1 e).symm
  · rcases Classical.em (p2 = 1) with e1 | e1
    · exact (h.2.1 e1).trans (g.2.1 e1).symm
    · exact (h.2.2 e e1).trans (g.2.2 e e1).symm
theorem doP_fun {sd se : Nat → SDt} {p0 p1 p2 r q : Int32} (h : doP sd p0 p1 p2 r) (g : doP se p0 p1 p2 q) (e : ∀ i, i < 3 → sd i = se i) : r = q := by
  rcases Classical.em (∃ s i, s < 3 ∧ p0 = nI s ∧ p1 = nI i ∧ i < (sd s).1) with ⟨s, i, h1, h2, h3, h4⟩ | hn
  · have a := h.2 s h1 h2 i h3 h4
    have b := g.2 s h1 h2 i h3 (by rw [← e s h1]; exact h4)
    rw [← e s h1] at b
    exact doA_fun a b
  · have a := h.1 (fun s h1 h2 i h3 h4 => hn ⟨s, i, h1, h2, h3, h4⟩)
    have b := g.1 (fun s h1 h2 i h3 h4 => hn ⟨s, i, h1, h2, h3, by rw [e s h1]; exact h4⟩)
    exact a.trans b.symm
theorem do_no {sd : Nat → SDt} {p0 p1 p2 : Int32} (h : ∀ s, s < 3 → p0 = nI s → ∀ i, p1 = nI i → ¬ i < (sd s).1) : doP sd p0 p1 p2 (-1001) := ⟨fun _ => rfl, fun s h1 h2 i h3 h4 => absurd h4 (h s h1 h2 i h3)⟩
theorem do_at {sd : Nat → SDt} {s i : Nat} {p2 r : Int32} (hs : s < 3) (hb : (sd s).1 ≤ 24) (hi : i < (sd s).1) (h : doA (sd s) i p2 r) : doP sd (nI s) (nI i) p2 r := by
  refine ⟨fun q => absurd hi (q s hs rfl i rfl), fun t h1 h2 j h3 h4 => ?_⟩
  have := nI_inj (by omega) (by omega) h2
  subst this
  have := nI_inj (by omega) (by omega) h3
  subst this
  exact h
theorem doF0 {n : Nat} {a : Nat → Int32} {f g : Nat → Int32} {i : Nat} {p2 : Int32} (hi : i < n) (h : p2 = 0) : doA (n, a, clp n f, clp n g) i p2 (f i) := by
  refine ⟨fun _ => ?_, fun e => absurd (h.symm.trans e) (by decide), fun e => absurd h e⟩
  show f i = (if i < n then f i else 0)
  rw [if_pos hi]
theorem doF1 {n : Nat} {a : Nat → Int32} {f g : Nat → Int32} {i : Nat} {p2 : Int32} (hi : i < n) (h : p2 = 1) : doA (n, a, clp n f, clp n g) i p2 (g i) := by
  refine ⟨fun e => absurd (e.symm.trans h) (by decide), fun _ => ?_, fun _ e => absurd h e⟩
  show g i = (if i < n then g i else 0)
  rw [if_pos hi]
theorem doFo {d : SDt} {i : Nat} {p2 : Int32} (h0 : ¬ p2 = 0) (h1 : ¬ p2 = 1) : doA d i p2 (-1002) := ⟨fun e => absurd e h0, fun e => absurd e h1, fun _ _ => rfl⟩
theorem not01 {x : Int32} (h : ¬ inB x 0 1) : ¬ x = 0 ∧ ¬ x = 1 := ⟨fun e => h (by rw [e]; exact ⟨by decide, by decide⟩), fun e => h (by rw [e]; exact ⟨by decide, by decide⟩)⟩
theorem is01 {x : Int32} (h : inB x 0 1) (h0 : ¬ x = 0) : x = 1 := by
  obtain ⟨j, h1, h2, e⟩ := inB_ofc (a := 0) (b := 1) (by omega) (by omega) h
  rcases (show j = 0 ∨ j = 1 by omega) with rfl | rfl
  · exact absurd e h0
  · exact e
theorem bF_0 : bF (fun _ => 0) = fun _ => 0 := by
  funext j
  show (0 : Int32) &&& 255 = 0
  decide
theorem sd_0x {f : Nat → Int32} : sdX 0 0 0 (fun _ => 0) f f = (0, (fun _ => 0), (fun _ => 0), (fun _ => 0)) := by
  have e1 : nG (vv 0 0 0 (fun _ => 0)) = fun _ => 0 := by
    funext j
    unfold nG vv
    repeat' split
    all_goals rfl
  show (0, nG (vv 0 0 0 (fun _ => 0)), clp 0 f, clp 0 f) = _
  rw [e1, clp_0]
theorem sd_0m {s : Nat} {f : Nat → Int32} : sdM (fun _ => 0) (sg (fun _ => 0) (fun _ => 0) (fun _ => 0)) f f s = (0, (fun _ => 0), (fun _ => 0), (fun _ => 0)) := by
  have e0 : ∀ j, sg (fun _ => 0) (fun _ => 0) (fun _ => 0) j = 0 := by
    intro j
    unfold sg
    repeat' split
    all_goals rfl
  have e1 : nG (fun j => sg (fun _ => 0) (fun _ => 0) (fun _ => 0) (9 * s + (j - 1))) = fun _ => 0 := by
    funext j
    unfold nG
    split
    · exact e0 _
    · rfl
  show (0, nG (fun j => sg (fun _ => 0) (fun _ => 0) (fun _ => 0) (9 * s + (j - 1))), clp 0 (fun i => f (24 * s + i)), clp 0 (fun i => f (24 * s + i))) = _
  rw [e1, clp_0]
theorem sd_0 : ∀ i, i < 3 → d3 (sdX 0 0 0 (fun _ => 0) (fun _ => 0) (fun _ => 0)) (sdX 0 0 0 (fun _ => 0) (fun _ => 0) (fun _ => 0)) (sdX 0 0 0 (fun _ => 0) (fun _ => 0) (fun _ => 0)) i = sdM (fun _ => 0) (sg (fun _ => 0) (fun _ => 0) (fun _ => 0)) (fun _ => 0) (fun _ => 0) i := by
  intro i hi
  rw [sd_0m, sd_0x]
  match i with
  | 0 => rfl
  | 1 => rfl
  | i + 2 => rfl
theorem in02 {s : Nat} (h : s < 3) : inB (nI s) 0 2 := ⟨nI_ge0 (by omega), (nI_leI (a := s) (b := 2) (by omega) (by omega)).mpr (by omega)⟩
theorem in0n {d j : Nat} (hj : j < d) (hd : d ≤ 24) : inB (nI j) 0 (nI d - 1) := by
  refine ⟨nI_ge0 (by omega), ?_⟩
  show nI j ≤ nI d - nI 1
  rw [pk_sub (by omega)]
  exact (nI_leI (by omega) (by omega)).mpr (by omega)
theorem nge3 {s : Nat} (h : s < 3) : ¬ (3 : Int32) ≤ nI s := fun q => absurd ((nI_leI (a := 3) (b := s) (by omega) (by omega)).mp q) (by omega)


theorem f_glueP17 : True := trivial
def seD (d : SDt) : Nat := (d.2.1 6).toNatClampNeg
def tmD (d : SDt) : Nat := (d.2.1 8).toNatClampNeg
theorem seX {n see tm : Nat} {g ff fp : Nat → Int32} (h : see ≤ 2) : seD (sdX n see tm g ff fp) = see := by
  unfold seD
  show (nG (vv n see tm g) 6).toNatClampNeg = see
  rw [nG_in (by omega) (by omega)]
  show (nI see).toNatClampNeg = see
  exact nI_clamp (by omega)
theorem tmX {n see tm : Nat} {g ff fp : Nat → Int32} (h : tm ≤ 3) : tmD (sdX n see tm g ff fp) = tm := by
  unfold tmD
  rw [rdX]
  exact nI_clamp (by omega)
theorem seM {dn se tm : Nat → Nat} {gs ffr fpr : Nat → Int32} {s : Nat} (h : se s ≤ 2) : seD (sdM dn (sg se tm gs) ffr fpr s) = se s := by
  unfold seD
  rw [gM' (by omega) (by omega), sg_se]
  exact nI_clamp (by omega)
theorem tmM {dn se tm : Nat → Nat} {gs ffr fpr : Nat → Int32} {s : Nat} (h : tm s ≤ 3) : tmD (sdM dn (sg se tm gs) ffr fpr s) = tm s := by
  unfold tmD
  rw [rdM]
  exact nI_clamp (by omega)
def wayE (d : SDt) (r : Nat) : Int32 := pEr d (seD d) (tmD d) r
def wayS (d : SDt) (r : Nat) : Int32 := pSr d (seD d) (tmD d) r
def wayO (d : SDt) (r i g : Nat) : Int32 := pOn d (seD d) r (wayE d r) i g
def wayW (d : SDt) (r i g : Nat) : Int32 := pW d r i (wayO d r i g) g
def wy3 (sd : Nat → SDt) (on sr en : Nat → Nat → Int32) : Prop := ∀ i, i < 3 → 0 < (sd i).1 → wyOK (sd i) (seD (sd i)) (tmD (sd i)) 0 (on i) (sr i) (en i)
theorem wy_of {n see tm : Nat} {g ff fp on sr en : Nat → Int32} (hs : see ≤ 2) (ht : tm ≤ 3) (h : wyOK (sdX n see tm g ff fp) see tm 0 on sr en) : wyOK (sdX n see tm g ff fp) (seD (sdX n see tm g ff fp)) (tmD (sdX n see tm g ff fp)) 0 on sr en := by
  rw [seX hs, tmX ht]
  exact h
theorem wm_of {dn se tm : Nat → Nat} {gs ffr fpr on wo sr en gr : Nat → Int32} {s : Nat} (hs : se s ≤ 2) (ht : tm s ≤ 3) (h : wmOK (sdM dn (sg se tm gs) ffr fpr s) (se s) (tm s) 0 on wo sr en gr) : wmOK (sdM dn (sg se tm gs) ffr fpr s) (seD (sdM dn (sg se tm gs) ffr fpr s)) (tmD (sdM dn (sg se tm gs) ffr fpr s)) 0 on wo sr en gr := by
  rw [seM hs, tmM ht]
  exact h
theorem wo_of {d : SDt} {on sr en : Nat → Int32} {r i g : Nat} (h : wyOK d (seD d) (tmD d) 0 on sr en) (hr : r ≤ tmD d) (hi : i < d.1) (hg : g < 2 ^ sqN (seD d) d.1 i) : on (slN r i g) = wayO d r i g := (h r (Nat.zero_le r) hr).2.2 i (Nat.zero_le i) hi g hg
/-! sights asked for -/
def okR (d : SDt) (i : Nat) (p1 p3 : Int32) (rn g : Nat) : Prop := p1 = nI rn ∧ rn ≤ tmD d ∧ p3 = nI g ∧ g < 2 ^ sqN (seD d) d.1 i
def siA (p1 p3 : Int32) (F : SDt → Nat → Nat → Nat → Int32 → Prop) (d : SDt) (i : Nat) (r : Int32) : Prop := ((∀ rn g, ¬ okR d i p1 p3 rn g) → r = -1002) ∧ ∀ rn g, okR d i p1 p3 rn g → F d rn i g r
theorem siA_fun {p1 p3 : Int32} {F : SDt → Nat → Nat → Nat → Int32 → Prop} (hF : ∀ d rn i g x y, F d rn i g x → F d rn i g y → x = y) (d : SDt) (i : Nat) (x y : Int32) (h : siA p1 p3 F d i x) (k : siA p1 p3 F d i y) : x = y := by
  rcases Classical.em (∃ rn g, okR d i p1 p3 rn g) with ⟨rn, g, c⟩ | c
  · exact hF _ _ _ _ _ _ (h.2 rn g c) (k.2 rn g c)
  · exact (h.1 (fun rn g q => c ⟨rn, g, q⟩)).trans (k.1 (fun rn g q => c ⟨rn, g, q⟩)).symm
theorem si_no {p1 p3 : Int32} {F : SDt → Nat → Nat → Nat → Int32 → Prop} {d : SDt} {i : Nat} (h : ∀ rn g, ¬ okR d i p1 p3 rn g) : siA p1 p3 F d i (-1002) := ⟨fun _ => rfl, fun rn g c => absurd c (h rn g)⟩
theorem si_at {F : SDt → Nat → Nat → Nat → Int32 → Prop} {d : SDt} {i rn g : Nat} {r : Int32} (h1 : tmD d ≤ 3) (h2 : seD d ≤ 2) (hr : rn ≤ tmD d) (hg : g < 2 ^ sqN (seD d) d.1 i) (hF : F d rn i g r) : siA (nI rn) (nI g) F d i r := by
  have h8 := (p8 (sq_le (n := d.1) (i := i) h2)).2
  refine ⟨fun q => absurd ⟨rfl, hr, rfl, hg⟩ (q rn g), fun rn2 g2 c => ?_⟩
  obtain ⟨c1, c2, c3, c4⟩ := c
  have e1 := nI_inj (by omega) (by omega) c1
  have e2 := nI_inj (by omega) (by omega) c3
  subst e1 e2
  exact hF
def woA (d : SDt) (rn i g : Nat) (r : Int32) : Prop := r = wayW d rn i g
def goA (d : SDt) (rn i g : Nat) (r : Int32) : Prop := r = wayO d rn i g
def tsA (d : SDt) (rn i g : Nat) (r : Int32) : Prop := (¬ g % 2 = 1 → r = -1003) ∧ (g % 2 = 1 → r = if pTake d rn i ≤ wayO d rn i g then 1 else 0)
theorem tsA_fun (d : SDt) (rn i g : Nat) (x y : Int32) (h : tsA d rn i g x) (k : tsA d rn i g y) : x = y := by
  rcases Classical.em (g % 2 = 1) with c | c
  · exact (h.2 c).trans (k.2 c).symm
  · exact (h.1 c).trans (k.1 c).symm
/-! answers of a street -/
def tqP (sd : Nat → SDt) (p0 : Int32) (F : SDt → Int32 → Prop) (r : Int32) : Prop := ((∀ s, s < 3 → p0 = nI s → ¬ 0 < (sd s).1) → r = -1001) ∧ ∀ s, s < 3 → p0 = nI s → 0 < (sd s).1 → F (sd s) r
theorem tq_fun {sd se : Nat → SDt} {p0 r q : Int32} {F : SDt → Int32 → Prop} (hF : ∀ d x y, F d x → F d y → x = y) (h : tqP sd p0 F r) (g : tqP se p0 F q) (e : ∀ i, i < 3 → sd i = se i) : r = q := by
  rcases Classical.em (∃ s, s < 3 ∧ p0 = nI s ∧ 0 < (sd s).1) with ⟨s, h1, h2, h3⟩ | hn
  · have a := h.2 s h1 h2 h3
    have b := g.2 s h1 h2 (by rw [← e s h1]; exact h3)
    rw [← e s h1] at b
    exact hF _ _ _ a b
  · have a := h.1 (fun s h1 h2 h3 => hn ⟨s, h1, h2, h3⟩)
    have b := g.1 (fun s h1 h2 h3 => hn ⟨s, h1, h2, by rw [e s h1]; exact h3⟩)
    exact a.trans b.symm
theorem tq_no {sd : Nat → SDt} {p0 : Int32} {F : SDt → Int32 → Prop} (h : ∀ s, s < 3 → p0 = nI s → ¬ 0 < (sd s).1) : tqP sd p0 F (-1001) := ⟨fun _ => rfl, fun s h1 h2 h3 => absurd h3 (h s h1 h2)⟩
theorem tq_at {sd : Nat → SDt} {s : Nat} {r : Int32} {F : SDt → Int32 → Prop} (hs : s < 3) (hp : 0 < (sd s).1) (h : F (sd s) r) : tqP sd (nI s) F r := by
  refine ⟨fun q => absurd hp (q s hs rfl), fun t h1 h2 _ => ?_⟩
  have := nI_inj (by omega) (by omega) h2
  subst this
  exact h
def stA (p1 : Int32) (d : SDt) (r : Int32) : Prop := (¬ inB p1 0 (d.2.1 8) → r = -1002) ∧ ∀ k : Nat, k < 2 ^ 31 → p1 = nI k → inB p1 0 (d.2.1 8) → r = wayS d k
theorem stA_fun {p1 : Int32} (d : SDt) (x y : Int32) (h : stA p1 d x) (g : stA p1 d y) : x = y := by
  rcases Classical.em (inB p1 0 (d.2.1 8)) with c | c
  · obtain ⟨k, h2, e⟩ := nI_of (Int32.not_lt.mpr c.1)
    exact (h.2 k h2 e c).trans (g.2 k h2 e c).symm
  · exact (h.1 c).trans (g.1 c).symm
theorem st_o {p1 : Int32} {d : SDt} (h : ¬ inB p1 0 (d.2.1 8)) : stA p1 d (-1002) := ⟨fun _ => rfl, fun _ _ _ c => absurd c h⟩
theorem st_i {k : Nat} {d : SDt} {r : Int32} (hk : k ≤ 3) (hi : inB (nI k) 0 (d.2.1 8)) (h : r = wayS d k) : stA (nI k) d r := by
  refine ⟨fun c => absurd hi c, fun q hq e _ => ?_⟩
  have := nI_inj (by omega) hq e
  subst this
  exact h
def enA (p1 p2 : Int32) (d : SDt) (r : Int32) : Prop := (¬ (inB p1 0 (d.2.1 8) ∧ inB p2 0 1) → r = -1002) ∧ ∀ k : Nat, k < 2 ^ 31 → p1 = nI k → inB p1 0 (d.2.1 8) → (p2 = 0 → r = wayE d k) ∧ (p2 = 1 → r = if wayE d k < pGar d k then 1 else 0)
theorem enA_fun {p1 p2 : Int32} (d : SDt) (x y : Int32) (h : enA p1 p2 d x) (g : enA p1 p2 d y) : x = y := by
  rcases Classical.em (inB p1 0 (d.2.1 8) ∧ inB p2 0 1) with c | c
  · obtain ⟨k, h2, e⟩ := nI_of (Int32.not_lt.mpr c.1.1)
    rcases Classical.em (p2 = 0) with z | z
    · exact ((h.2 k h2 e c.1).1 z).trans ((g.2 k h2 e c.1).1 z).symm
    · have z1 := is01 c.2 z
      exact ((h.2 k h2 e c.1).2 z1).trans ((g.2 k h2 e c.1).2 z1).symm
  · exact (h.1 c).trans (g.1 c).symm
theorem en_o {p1 p2 : Int32} {d : SDt} (h : ¬ (inB p1 0 (d.2.1 8) ∧ inB p2 0 1)) : enA p1 p2 d (-1002) := by
  refine ⟨fun _ => rfl, fun k _ _ c => ⟨fun z => absurd ⟨c, ?_⟩ h, fun z => absurd ⟨c, ?_⟩ h⟩⟩
  · rw [z]
    exact ⟨by decide, by decide⟩
  · rw [z]
    exact ⟨by decide, by decide⟩
theorem en_0 {k : Nat} {p2 : Int32} {d : SDt} {r : Int32} (hk : k ≤ 3) (hi : inB (nI k) 0 (d.2.1 8)) (hp : p2 = 0) (h : r = wayE d k) : enA (nI k) p2 d r := by
  refine ⟨fun c => absurd ⟨hi, by rw [hp]; exact ⟨by decide, by decide⟩⟩ c, fun q hq e _ => ⟨fun _ => ?_, fun z => absurd (hp.symm.trans z) (by decide)⟩⟩
  have := nI_inj (by omega) hq e
  subst this
  exact h
theorem en_1 {k : Nat} {p2 : Int32} {d : SDt} {r : Int32} (hk : k ≤ 3) (hi : inB (nI k) 0 (d.2.1 8)) (hp : p2 = 1) (h : r = if wayE d k < pGar d k then 1 else 0) : enA (nI k) p2 d r := by
  refine ⟨fun c => absurd ⟨hi, by rw [hp]; exact ⟨by decide, by decide⟩⟩ c, fun q hq e _ => ⟨fun z => absurd (z.symm.trans hp) (by decide), fun _ => ?_⟩⟩
  have := nI_inj (by omega) hq e
  subst this
  exact h
/-! which -/
def wcP (sd : Nat → SDt) (p0 p1 r : Int32) : Prop := ((∀ s t, s < 3 → t < 3 → p0 = nI s → p1 = nI t → ¬ (0 < (sd s).1 ∧ 0 < (sd t).1)) → r = -1001) ∧ ∀ s t, s < 3 → t < 3 → p0 = nI s → p1 = nI t → 0 < (sd s).1 → 0 < (sd t).1 → r = if wayS (sd t) 0 < wayS (sd s) 0 then p1 else p0
theorem wcP_fun {sd se : Nat → SDt} {p0 p1 r q : Int32} (h : wcP sd p0 p1 r) (g : wcP se p0 p1 q) (e : ∀ i, i < 3 → sd i = se i) : r = q := by
  rcases Classical.em (∃ s t, s < 3 ∧ t < 3 ∧ p0 = nI s ∧ p1 = nI t ∧ 0 < (sd s).1 ∧ 0 < (sd t).1) with ⟨s, t, h1, h2, h3, h4, h5, h6⟩ | hn
  · have a := h.2 s t h1 h2 h3 h4 h5 h6
    have b := g.2 s t h1 h2 h3 h4 (by rw [← e s h1]; exact h5) (by rw [← e t h2]; exact h6)
    rw [← e s h1, ← e t h2] at b
    exact a.trans b.symm
  · have a := h.1 (fun s t h1 h2 h3 h4 h5 => hn ⟨s, t, h1, h2, h3, h4, h5.1, h5.2⟩)
    have b := g.1 (fun s t h1 h2 h3 h4 h5 => hn ⟨s, t, h1, h2, h3, h4, by rw [e s h1]; exact h5.1, by rw [e t h2]; exact h5.2⟩)
    exact a.trans b.symm
theorem wc_no0 {sd : Nat → SDt} {p0 p1 : Int32} (h : ∀ s, s < 3 → p0 = nI s → ¬ 0 < (sd s).1) : wcP sd p0 p1 (-1001) := ⟨fun _ => rfl, fun s t h1 _ h3 _ h5 _ => absurd h5 (h s h1 h3)⟩
theorem wc_no1 {sd : Nat → SDt} {p0 p1 : Int32} (h : ∀ s, s < 3 → p1 = nI s → ¬ 0 < (sd s).1) : wcP sd p0 p1 (-1001) := ⟨fun _ => rfl, fun s t _ h2 _ h4 _ h6 => absurd h6 (h t h2 h4)⟩
theorem wc_at {sd : Nat → SDt} {s t : Nat} {r : Int32} (hs : s < 3) (ht : t < 3) (h1 : 0 < (sd s).1) (h2 : 0 < (sd t).1) (h : r = if wayS (sd t) 0 < wayS (sd s) 0 then nI t else nI s) : wcP sd (nI s) (nI t) r := by
  refine ⟨fun q => absurd ⟨h1, h2⟩ (q s t hs ht rfl rfl), fun s2 t2 k1 k2 k3 k4 _ _ => ?_⟩
  have e1 := nI_inj (by omega) (by omega) k3
  have e2 := nI_inj (by omega) (by omega) k4
  subst e1 e2
  exact h
/-! at the beginning -/
def zX : SDt := sdX 0 0 0 (fun _ => 0) (fun _ => 0) (fun _ => 0)
theorem zX_1 : zX.1 = 0 := rfl
theorem zX_l (r : Nat) : pLate zX r = 0 := by
  unfold pLate
  have e : zX.2.1 4 = 0 := by
    show nG (vv 0 0 0 (fun _ => 0)) 4 = 0
    rw [nG_in (by omega) (by omega), vv_in (by omega) (by omega) (by omega)]
  rw [e, Int32.zero_mul]
theorem z3 {i : Nat} : d3 zX zX zX i = zX := by
  match i with
  | 0 => rfl
  | 1 => rfl
  | i + 2 => rfl
theorem f3 {i : Nat} : d3 (fun _ => (0 : Int32)) (fun _ => 0) (fun _ => 0) i = fun _ : Nat => (0 : Int32) := by
  match i with
  | 0 => rfl
  | 1 => rfl
  | i + 2 => rfl
theorem ltp_0 : ltP (d3 (fun _ => 0) (fun _ => 0) (fun _ => 0)) (d3 zX zX zX) := by
  intro i _ r _
  rw [z3, f3, zX_l]
theorem okd_0 : ∀ i, i < 3 → okD (d3 zX zX zX i) := by
  intro i _
  rw [z3]
  exact fun k hk => absurd hk (Nat.not_lt_zero k)
theorem wy3_0 : wy3 (d3 zX zX zX) (d3 (fun _ => 0) (fun _ => 0) (fun _ => 0)) (d3 (fun _ => 0) (fun _ => 0) (fun _ => 0)) (d3 (fun _ => 0) (fun _ => 0) (fun _ => 0)) := by
  intro i _ h
  rw [z3] at h
  exact absurd h (Nat.lt_irrefl 0)


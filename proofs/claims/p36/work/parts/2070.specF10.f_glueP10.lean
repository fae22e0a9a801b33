theorem f_glueP10 : True := trivial
/-! a rule's text -/
abbrev RSt : Type := Nat × (Nat → Int32) × (Nat → Int32)
/-- a change, behind its word: fault, place, where one stands, how many passed, from which door -/
def chR (b : Nat → Int32) (n cnt : Nat) (sn : Nat → Int32) (t : Nat) : Nat × Nat × Nat × Int32 × Int32 :=
  match nuR b n false 1 24 t with
  | (e1, p1, t1, v1, q1) =>
    if e1 = 0 then
      if cnt = 0 ∨ sn (cnt - 1) < v1 then
        match wdR b n (sByt.getD 12 []) t1 with
        | (e2, p2, t2) =>
          if e2 = 0 then
            match nuR b n false 0 24 t2 with
            | (e3, p3, t3, v3, _) => if e3 = 0 then (0, 0, t3, v1, v3) else (e3, p3, t3, 0, 0)
          else (e2, p2, t2, 0, 0)
      else (3, q1, t1, 0, 0)
    else (e1, p1, t1, 0, 0)
/-- what follows where no change begins: fault, place, rounds -/
def roR (b : Nat → Int32) (n t : Nat) : Nat × Nat × Int32 :=
  if letA b n (skA b n t) = (sByt.getD 7 []) then
    match nuR b n false 0 3 (skA b n t + 5) with
    | (e, p, t1, v, _) => if e = 0 then (if skA b n t1 < n then (1, skA b n t1, v) else (0, 0, v)) else (e, p, 0)
  else if skA b n t < n then (1, skA b n t, 0) else (0, 0, 0)
def ruL (b : Nat → Int32) (n : Nat) : Nat → Nat → RSt → Nat × Nat × RSt × Int32
  | 0, t, σ => ((roR b n t).1, (roR b n t).2.1, σ, (roR b n t).2.2)
  | k + 1, t, σ =>
    if letA b n (skA b n t) = (sByt.getD 13 []) then
      if (chR b n σ.1 σ.2.1 (skA b n t + 4)).1 = 0 then ruL b n k (chR b n σ.1 σ.2.1 (skA b n t + 4)).2.2.1 (σ.1 + 1, upd σ.2.1 σ.1 (chR b n σ.1 σ.2.1 (skA b n t + 4)).2.2.2.1, upd σ.2.2 σ.1 (chR b n σ.1 σ.2.1 (skA b n t + 4)).2.2.2.2)
      else ((chR b n σ.1 σ.2.1 (skA b n t + 4)).1, (chR b n σ.1 σ.2.1 (skA b n t + 4)).2.1, σ, 0)
    else ((roR b n t).1, (roR b n t).2.1, σ, (roR b n t).2.2)
/-- the head of a rule: fault, place, where one stands, from which door -/
def ruH (b : Nat → Int32) (n t : Nat) : Nat × Nat × Nat × Int32 :=
  match wdR b n (sByt.getD 12 []) t with
  | (e1, p1, t1) =>
    if e1 = 0 then
      match nuR b n false 0 24 t1 with
      | (e2, p2, t2, v, _) => if e2 = 0 then (0, 0, t2, v) else (e2, p2, t2, 0)
    else (e1, p1, t1, 0)
def ru0 : RSt := (0, fun _ => 0, fun _ => 0)
theorem rl_go {b : Nat → Int32} {n k t t2 : Nat} {σ : RSt} {v1 v3 : Int32} (hk : 0 < k) (h : letA b n (skA b n t) = (sByt.getD 13 [])) (hc : chR b n σ.1 σ.2.1 (skA b n t + 4) = (0, 0, t2, v1, v3)) : ruL b n k t σ = ruL b n (k - 1) t2 (σ.1 + 1, upd σ.2.1 σ.1 v1, upd σ.2.2 σ.1 v3) := by
  rcases k with _ | k
  · omega
  · show (if _ then (if _ then _ else _) else _) = _
    rw [if_pos h, hc, if_pos rfl]
    rfl
theorem rl_er {b : Nat → Int32} {n k t e p : Nat} {σ : RSt} (hk : 0 < k) (h : letA b n (skA b n t) = (sByt.getD 13 [])) (he : (chR b n σ.1 σ.2.1 (skA b n t + 4)).1 = e) (h1 : 1 ≤ e) (hp : (chR b n σ.1 σ.2.1 (skA b n t + 4)).2.1 = p) : (ruL b n k t σ).1 = e ∧ (ruL b n k t σ).2.1 = p := by
  rcases k with _ | k
  · omega
  · have q : ruL b n (k + 1) t σ = ((chR b n σ.1 σ.2.1 (skA b n t + 4)).1, (chR b n σ.1 σ.2.1 (skA b n t + 4)).2.1, σ, 0) := by
      show (if _ then (if _ then _ else _) else _) = _
      rw [if_pos h, if_neg (by omega)]
    rw [q]
    exact ⟨he, hp⟩
theorem rl_no {b : Nat → Int32} {n k t : Nat} {σ : RSt} (h : ¬ letA b n (skA b n t) = (sByt.getD 13 [])) : ruL b n k t σ = ((roR b n t).1, (roR b n t).2.1, σ, (roR b n t).2.2) := by
  rcases k with _ | k
  · rfl
  · show (if _ then (if _ then _ else _) else _) = _
    rw [if_neg h]
theorem nuR_ge {b : Nat → Int32} {n p t t1 q : Nat} {sg : Bool} {lo hi v : Int32} (h : nuR b n sg lo hi t = (0, p, t1, v, q)) : t + 1 ≤ t1 := (nuR_in h).2
theorem wdR_ge {b : Nat → Int32} {n t t1 i : Nat} (h : wdR b n (sByt.getD i []) t = (0, 0, t1)) : t + (sByt.getD i []).length ≤ t1 := by
  unfold wdR at h
  by_cases c : letA b n (skA b n t) = sByt.getD i []
  · rw [if_pos c] at h
    have e : skA b n t + (sByt.getD i []).length = t1 := congrArg (fun z => z.2.2) h
    have g := skA_ge b n t
    omega
  · rw [if_neg c] at h
    exact absurd (show (1 : Nat) = 0 from congrArg Prod.fst h) (by decide)
theorem chR_clp {b : Nat → Int32} {n cnt t : Nat} {sn : Nat → Int32} : chR b n cnt (clp cnt sn) t = chR b n cnt sn t := by
  unfold chR clp
  rcases Nat.eq_zero_or_pos cnt with h | h
  · simp [h]
  · rw [if_pos (show cnt - 1 < cnt by omega)]
theorem clp_upd {f : Nat → Int32} {n : Nat} {v : Int32} : upd (clp n f) n v = clp (n + 1) (upd f n v) := by
  funext j
  show (if j = n then v else (if j < n then f j else 0)) = (if j < n + 1 then (if j = n then v else f j) else 0)
  by_cases h : j = n
  · rw [if_pos h, if_pos (by omega), if_pos h]
  · rw [if_neg h, if_neg h]
    by_cases h1 : j < n
    · rw [if_pos h1, if_pos (by omega)]
    · rw [if_neg h1, if_neg (by omega)]
theorem clp_0 {f : Nat → Int32} : clp 0 f = fun _ => 0 := by
  funext j
  unfold clp
  rw [if_neg (by omega)]
def ruF (b : Nat → Int32) (n t : Nat) : Nat × Nat × Int32 × RSt × Int32 :=
  if (ruH b n t).1 = 0 then ((ruL b n 24 (ruH b n t).2.2.1 ru0).1, (ruL b n 24 (ruH b n t).2.2.1 ru0).2.1, (ruH b n t).2.2.2, (ruL b n 24 (ruH b n t).2.2.1 ru0).2.2.1, (ruL b n 24 (ruH b n t).2.2.1 ru0).2.2.2)
  else ((ruH b n t).1, (ruH b n t).2.1, 0, ru0, 0)
theorem rf_h {b : Nat → Int32} {n t e p : Nat} (h : (ruH b n t).1 = e) (h1 : 1 ≤ e) (hp : (ruH b n t).2.1 = p) : (ruF b n t).1 = e ∧ (ruF b n t).2.1 = p := by
  unfold ruF
  rw [if_neg (by omega)]
  exact ⟨h, hp⟩
theorem rf_l {b : Nat → Int32} {n t t1 e p : Nat} {v : Int32} (h : ruH b n t = (0, 0, t1, v)) (he : (ruL b n 24 t1 ru0).1 = e) (hp : (ruL b n 24 t1 ru0).2.1 = p) : (ruF b n t).1 = e ∧ (ruF b n t).2.1 = p := by
  unfold ruF
  rw [h, if_pos rfl]
  exact ⟨he, hp⟩
theorem rf_o {b : Nat → Int32} {n t t1 : Nat} {v w : Int32} {σ : RSt} (h : ruH b n t = (0, 0, t1, v)) (hl : ruL b n 24 t1 ru0 = (0, 0, σ, w)) : ruF b n t = (0, 0, v, σ, w) := by
  unfold ruF
  rw [h, if_pos rfl, hl]
theorem ro_1e {b : Nat → Int32} {n t e p t1 q : Nat} {v : Int32} (h : letA b n (skA b n t) = (sByt.getD 7 [])) (hq : nuR b n false 0 3 (skA b n t + 5) = (e, p, t1, v, q)) (h1 : 1 ≤ e) : (roR b n t).1 = e ∧ (roR b n t).2.1 = p := by
  unfold roR
  have h0 : ¬ e = 0 := by omega
  rw [if_pos h, hq]
  simp only [h0, if_false]
  exact ⟨trivial, trivial⟩
theorem ro_1f {b : Nat → Int32} {n t p t1 q : Nat} {v : Int32} (h : letA b n (skA b n t) = (sByt.getD 7 [])) (hq : nuR b n false 0 3 (skA b n t + 5) = (0, p, t1, v, q)) (hz : skA b n t1 < n) : roR b n t = (1, skA b n t1, v) := by
  unfold roR
  rw [if_pos h, hq]
  simp only [hz, if_true]
theorem ro_1o {b : Nat → Int32} {n t p t1 q : Nat} {v : Int32} (h : letA b n (skA b n t) = (sByt.getD 7 [])) (hq : nuR b n false 0 3 (skA b n t + 5) = (0, p, t1, v, q)) (hz : ¬ skA b n t1 < n) : roR b n t = (0, 0, v) := by
  unfold roR
  rw [if_pos h, hq]
  simp only [hz, if_true, if_false]
theorem ro_0f {b : Nat → Int32} {n t : Nat} (h : ¬ letA b n (skA b n t) = (sByt.getD 7 [])) (hz : skA b n t < n) : roR b n t = (1, skA b n t, 0) := by
  unfold roR
  rw [if_neg h, if_pos hz]
theorem ro_0o {b : Nat → Int32} {n t : Nat} (h : ¬ letA b n (skA b n t) = (sByt.getD 7 [])) (hz : ¬ skA b n t < n) : roR b n t = (0, 0, 0) := by
  unfold roR
  rw [if_neg h, if_neg hz]
theorem ch_1 {b : Nat → Int32} {n cnt t e p1 t1 q1 : Nat} {sn : Nat → Int32} {v1 : Int32} (h1 : nuR b n false 1 24 t = (e, p1, t1, v1, q1)) (he : 1 ≤ e) : (chR b n cnt sn t).1 = e ∧ (chR b n cnt sn t).2.1 = p1 := by
  have q : chR b n cnt sn t = (e, p1, t1, 0, 0) := by
    unfold chR
    rw [h1]
    show (if e = 0 then _ else _) = _
    rw [if_neg (by omega)]
  rw [q]
  exact ⟨rfl, rfl⟩
theorem ch_3 {b : Nat → Int32} {n cnt t p1 t1 q1 : Nat} {sn : Nat → Int32} {v1 : Int32} (h1 : nuR b n false 1 24 t = (0, p1, t1, v1, q1)) (hc : ¬ (cnt = 0 ∨ sn (cnt - 1) < v1)) : (chR b n cnt sn t).1 = 3 ∧ (chR b n cnt sn t).2.1 = q1 := by
  have q : chR b n cnt sn t = (3, q1, t1, 0, 0) := by
    unfold chR
    rw [h1]
    show (if (0 : Nat) = 0 then _ else _) = _
    rw [if_pos rfl, if_neg hc]
  rw [q]
  exact ⟨rfl, rfl⟩
theorem ch_2 {b : Nat → Int32} {n cnt t p1 t1 q1 e p2 t2 : Nat} {sn : Nat → Int32} {v1 : Int32} (h1 : nuR b n false 1 24 t = (0, p1, t1, v1, q1)) (hc : cnt = 0 ∨ sn (cnt - 1) < v1) (h2 : wdR b n (sByt.getD 12 []) t1 = (e, p2, t2)) (he : 1 ≤ e) : (chR b n cnt sn t).1 = e ∧ (chR b n cnt sn t).2.1 = p2 := by
  have q : chR b n cnt sn t = (e, p2, t2, 0, 0) := by
    unfold chR
    rw [h1]
    show (if (0 : Nat) = 0 then _ else _) = _
    rw [if_pos rfl, if_pos hc, h2]
    show (if e = 0 then _ else _) = _
    rw [if_neg (by omega)]
  rw [q]
  exact ⟨rfl, rfl⟩
theorem ch_4 {b : Nat → Int32} {n cnt t p1 t1 q1 p2 t2 e p3 t3 q3 : Nat} {sn : Nat → Int32} {v1 v3 : Int32} (h1 : nuR b n false 1 24 t = (0, p1, t1, v1, q1)) (hc : cnt = 0 ∨ sn (cnt - 1) < v1) (h2 : wdR b n (sByt.getD 12 []) t1 = (0, p2, t2)) (h3 : nuR b n false 0 24 t2 = (e, p3, t3, v3, q3)) (he : 1 ≤ e) : (chR b n cnt sn t).1 = e ∧ (chR b n cnt sn t).2.1 = p3 := by
  have q : chR b n cnt sn t = (e, p3, t3, 0, 0) := by
    unfold chR
    rw [h1]
    show (if (0 : Nat) = 0 then _ else _) = _
    rw [if_pos rfl, if_pos hc, h2]
    show (if (0 : Nat) = 0 then _ else _) = _
    rw [if_pos rfl, h3]
    show (if e = 0 then _ else _) = _
    rw [if_neg (by omega)]
  rw [q]
  exact ⟨rfl, rfl⟩
theorem ch_0 {b : Nat → Int32} {n cnt t p1 t1 q1 p2 t2 p3 t3 q3 : Nat} {sn : Nat → Int32} {v1 v3 : Int32} (h1 : nuR b n false 1 24 t = (0, p1, t1, v1, q1)) (hc : cnt = 0 ∨ sn (cnt - 1) < v1) (h2 : wdR b n (sByt.getD 12 []) t1 = (0, p2, t2)) (h3 : nuR b n false 0 24 t2 = (0, p3, t3, v3, q3)) : chR b n cnt sn t = (0, 0, t3, v1, v3) := by
  unfold chR
  rw [h1]
  show (if (0 : Nat) = 0 then _ else _) = _
  rw [if_pos rfl, if_pos hc, h2]
  show (if (0 : Nat) = 0 then _ else _) = _
  rw [if_pos rfl, h3]
  show (if (0 : Nat) = 0 then _ else _) = _
  rw [if_pos rfl]


theorem f_glueP4 : True := trivial
/-! clauses of a street's text -/
def doF (b : Nat → Int32) (n rd t : Nat) : Nat × Nat × Nat × Nat × Int32 × Int32 :=
  match nuR b n false 1 24 t with
  | (e1, p1, t1, v1, q1) =>
    if e1 = 0 then
      if rd + v1.toNatClampNeg ≤ 24 then
        match wdR b n (sByt.getD 10 []) t1 with
        | (e2, p2, t2) =>
          if e2 = 0 then
            match nuR b n false 0 100 t2 with
            | (e3, p3, t3, v3, _) =>
              if e3 = 0 then
                match wdR b n (sByt.getD 11 []) t3 with
                | (e4, p4, t4) =>
                  if e4 = 0 then
                    match nuR b n false 0 999 t4 with
                    | (e5, p5, t5, v5, _) => if e5 = 0 then (0, 0, t5, v1.toNatClampNeg, v3, v5) else (e5, p5, t5, 0, 0, 0)
                  else (e4, p4, t4, 0, 0, 0)
              else (e3, p3, t3, 0, 0, 0)
          else (e2, p2, t2, 0, 0, 0)
      else (4, q1, t1, 0, 0, 0)
    else (e1, p1, t1, 0, 0, 0)
def doC (b : Nat → Int32) (n rd t : Nat) : Nat × Nat × Nat × Nat × Int32 × Int32 :=
  match doF b n rd t with
  | (e, p, t1, m, v3, v5) =>
    if e = 0 then
      match smR b n t1 with
      | (e6, p6, t6) => if e6 = 0 then (0, 0, t6, m, v3, v5) else (e6, p6, t6, 0, 0, 0)
    else (e, p, t1, 0, 0, 0)
def siF (b : Nat → Int32) (n k t : Nat) : Nat × Nat × Nat × Int32 × Int32 :=
  match nuR b n (decide (k = 1)) (zLE k) (zMO k) t with
  | (e1, p1, t1, v1, _) =>
    if e1 = 0 then
      if k = 7 then
        match wdR b n (sByt.getD 8 []) t1 with
        | (e2, p2, t2) =>
          if e2 = 0 then
            match nuR b n false 0 3 t2 with
            | (e3, p3, t3, v3, _) => if e3 = 0 then (0, 0, t3, v1, v3) else (e3, p3, t3, 0, 0)
          else (e2, p2, t2, 0, 0)
      else (0, 0, t1, v1, 0)
    else (e1, p1, t1, 0, 0)
def siC (b : Nat → Int32) (n k t : Nat) : Nat × Nat × Nat × Int32 × Int32 :=
  match siF b n k t with
  | (e, p, t1, v, v2) =>
    if e = 0 then
      match smR b n t1 with
      | (e6, p6, t6) => if e6 = 0 then (0, 0, t6, v, v2) else (e6, p6, t6, 0, 0)
    else (e, p, t1, 0, 0)
/-- which clause the letters name: the number that told() asks for; 10: none -/
def kwN (L : List Int32) : Nat :=
  if L = (sByt.getD 0 []) then 0 else if L = (sByt.getD 1 []) then 1 else if L = (sByt.getD 2 []) then 2 else if L = (sByt.getD 3 []) then 3 else if L = (sByt.getD 4 []) then 4 else if L = (sByt.getD 5 []) then 5 else if L = (sByt.getD 6 []) then 6 else if L = (sByt.getD 7 []) then 7 else if L = (sByt.getD 9 []) then 9 else 10
abbrev PSt : Type := Nat × (Nat → Int32) × (Nat → Int32) × (Nat → Int32) × (Nat → Bool)
def filF (f : Nat → Int32) (rd m : Nat) (v : Int32) : Nat → Int32 := fun j => if rd ≤ j ∧ j < rd + m then v else f j
def setB (f : Nat → Bool) (k : Nat) : Nat → Bool := fun j => if j = k then true else f j
/-- one clause: fault, its place, where one stands, what is told -/
def clF (b : Nat → Int32) (n t : Nat) (σ : PSt) : Nat × Nat × Nat × PSt :=
  if kwN (letA b n (skA b n t)) = 10 then (1, skA b n t, skA b n t, σ)
  else if kwN (letA b n (skA b n t)) = 0 then
    match doC b n σ.1 (skA b n t + (letA b n (skA b n t)).length) with
    | (e, p, t1, m, v3, v5) => if e = 0 then (0, 0, t1, (σ.1 + m, σ.2.1, filF σ.2.2.1 σ.1 m v3, filF σ.2.2.2.1 σ.1 m v5, σ.2.2.2.2)) else (e, p, t1, σ)
  else if σ.2.2.2.2 (kwN (letA b n (skA b n t))) = true then (3, skA b n t, skA b n t, σ)
  else
    match siC b n (kwN (letA b n (skA b n t))) (skA b n t + (letA b n (skA b n t)).length) with
    | (e, p, t1, v, v2) =>
      if e = 0 then (0, 0, t1, (σ.1, (if kwN (letA b n (skA b n t)) = 7 then upd (upd σ.2.1 7 v) 8 v2 else upd σ.2.1 (kwN (letA b n (skA b n t))) v), σ.2.2.1, σ.2.2.2.1, setB σ.2.2.2.2 (kwN (letA b n (skA b n t)))))
      else (e, p, t1, σ)
/-- clause by clause -/
def stL (b : Nat → Int32) (n : Nat) : Nat → Nat → PSt → Nat × Nat × PSt
  | 0, _, σ => (0, 0, σ)
  | k + 1, t, σ =>
    if skA b n t < n then
      if (clF b n t σ).1 = 0 then stL b n k (clF b n t σ).2.2.1 (clF b n t σ).2.2.2 else ((clF b n t σ).1, (clF b n t σ).2.1, σ)
    else (0, 0, σ)
def nG (f : Nat → Int32) : Nat → Int32 := fun j => if 1 ≤ j ∧ j ≤ 9 then f j else 0
def clp (n : Nat) (f : Nat → Int32) : Nat → Int32 := fun j => if j < n then f j else 0
def st0 : PSt := (0, nG zNT, fun _ => 0, fun _ => 0, fun _ => false)
/-- the whole text of a street, from t on -/
def stF (b : Nat → Int32) (n t : Nat) : Nat × Nat × PSt :=
  if (stL b n 240 t st0).1 = 0 ∧ (stL b n 240 t st0).2.2.1 = 0 then (1, n, (stL b n 240 t st0).2.2) else stL b n 240 t st0
theorem sf_ok {b : Nat → Int32} {n t : Nat} {σ : PSt} (h : stL b n 240 t st0 = (0, 0, σ)) (hn : 1 ≤ σ.1) : stF b n t = (0, 0, σ) := by
  unfold stF
  rw [h, if_neg (fun q => absurd (show σ.1 = 0 from q.2) (by omega))]
theorem sf_no {b : Nat → Int32} {n t : Nat} {σ : PSt} (h : stL b n 240 t st0 = (0, 0, σ)) (hn : σ.1 = 0) : (stF b n t).1 = 1 ∧ (stF b n t).2.1 = n := by
  unfold stF
  rw [h, if_pos ⟨rfl, hn⟩]
  exact ⟨rfl, rfl⟩
theorem sf_er {b : Nat → Int32} {n t e p : Nat} (h : (stL b n 240 t st0).1 = e) (h1 : 1 ≤ e) (hp : (stL b n 240 t st0).2.1 = p) : (stF b n t).1 = e ∧ (stF b n t).2.1 = p := by
  unfold stF
  rw [if_neg (fun q => absurd (h.symm.trans q.1) (by omega))]
  exact ⟨h, hp⟩
theorem clp_fil {n m : Nat} {f : Nat → Int32} {v : Int32} {g : Nat → Int32} (h : ∀ j, g j = if n ≤ j ∧ j < n + m then v else f j) : clp (n + m) g = filF (clp n f) n m v := by
  funext j
  show (if j < n + m then g j else 0) = (if n ≤ j ∧ j < n + m then v else (if j < n then f j else 0))
  rw [h j]
  by_cases h1 : n ≤ j ∧ j < n + m
  · simp only [h1, h1.2, if_true, and_self]
  · by_cases h2 : j < n
    · rw [if_neg h1, if_neg h1, if_pos h2, if_pos (by omega)]
    · rw [if_neg h1, if_neg h1, if_neg h2, if_neg (by omega)]
theorem nG_vv (n n2 see tm : Nat) (g : Nat → Int32) : nG (vv n see tm g) = nG (vv n2 see tm g) := by
  funext j
  unfold nG vv
  by_cases h : 1 ≤ j ∧ j ≤ 9
  · rw [if_pos h, if_pos h, if_neg (show ¬ j = 0 by omega), if_neg (show ¬ j = 0 by omega)]
  · rw [if_neg h, if_neg h]
theorem nG_upd {f : Nat → Int32} {k : Nat} {v : Int32} (hk : 1 ≤ k ∧ k ≤ 9) : nG (upd f k v) = upd (nG f) k v := by
  funext j
  unfold nG upd
  by_cases h : j = k
  · subst h
    rw [if_pos hk, if_pos rfl, if_pos rfl]
  · rw [if_neg h, if_neg h]
theorem fill_step {f g : Nat → Int32} {n i : Nat} {v : Int32} (hi : n ≤ i) (h : ∀ j, g j = if n ≤ j ∧ j < i then v else f j) : ∀ j, upd g i v j = if n ≤ j ∧ j < i + 1 then v else f j := by
  intro j
  unfold upd
  by_cases h1 : j = i
  · rw [if_pos h1, if_pos (by omega)]
  · rw [if_neg h1, h j]
    by_cases h2 : n ≤ j ∧ j < i
    · rw [if_pos h2, if_pos (by omega)]
    · rw [if_neg h2, if_neg (by omega)]


theorem f_glueP6 : True := trivial
/-- the reference's number of a clause -/
def clM (k : Nat) : Int32 := if k = 10 then -1 else if k = 0 then 9 else nI (k - 1)
def clQ (w : Int64) : Int32 :=
  if w = 2432449 then 9 else if w = 774500 then 0 else if w = 453773 then 1 else if w = 2487218 then 2 else if w = 237470 then 3 else if w = 1473549098 then 4 else if w = 13991 then 5 else if w = 9876874 then 6 else if w = 101329007 then 8 else -1
theorem kq {L : List Int32} {i : Nat} {c : Int64} (hL : ∀ x ∈ L, inB x 97 122) (hi : i < 14) (hc : c = wval (sByt.getD i [])) : wval L = c ↔ L = sByt.getD i [] := by
  rw [hc]
  exact wval_inj (sKa i hi) hL (sKs i hi)
theorem clQ_kw {L : List Int32} (hL : ∀ x ∈ L, inB x 97 122) : clQ (wval L) = clM (kwN L) := by
  unfold clQ kwN
  simp only [kq hL (i := 0) (c := 2432449) (by decide) (by decide +kernel), kq hL (i := 1) (c := 774500) (by decide) (by decide +kernel), kq hL (i := 2) (c := 453773) (by decide) (by decide +kernel), kq hL (i := 3) (c := 2487218) (by decide) (by decide +kernel), kq hL (i := 4) (c := 237470) (by decide) (by decide +kernel), kq hL (i := 5) (c := 1473549098) (by decide) (by decide +kernel), kq hL (i := 6) (c := 13991) (by decide) (by decide +kernel), kq hL (i := 7) (c := 9876874) (by decide) (by decide +kernel), kq hL (i := 9) (c := 101329007) (by decide) (by decide +kernel)]
  by_cases h0 : L = sByt.getD 0 []
  · rw [if_pos h0, if_pos h0]; rfl
  rw [if_neg h0, if_neg h0]
  by_cases h1 : L = sByt.getD 1 []
  · rw [if_pos h1, if_pos h1]; rfl
  rw [if_neg h1, if_neg h1]
  by_cases h2 : L = sByt.getD 2 []
  · rw [if_pos h2, if_pos h2]; rfl
  rw [if_neg h2, if_neg h2]
  by_cases h3 : L = sByt.getD 3 []
  · rw [if_pos h3, if_pos h3]; rfl
  rw [if_neg h3, if_neg h3]
  by_cases h4 : L = sByt.getD 4 []
  · rw [if_pos h4, if_pos h4]; rfl
  rw [if_neg h4, if_neg h4]
  by_cases h5 : L = sByt.getD 5 []
  · rw [if_pos h5, if_pos h5]; rfl
  rw [if_neg h5, if_neg h5]
  by_cases h6 : L = sByt.getD 6 []
  · rw [if_pos h6, if_pos h6]; rfl
  rw [if_neg h6, if_neg h6]
  by_cases h7 : L = sByt.getD 7 []
  · rw [if_pos h7, if_pos h7]; rfl
  rw [if_neg h7, if_neg h7]
  by_cases h9 : L = sByt.getD 9 []
  · rw [if_pos h9, if_pos h9]; rfl
  rw [if_neg h9, if_neg h9]
  rfl
theorem kwN_le (L : List Int32) : kwN L ≤ 10 ∧ kwN L ≠ 8 := by
  unfold kwN
  repeat' split
  all_goals decide
theorem lgn {x y : Int64} (h : ¬ lg_cmp x y = 0) : ¬ x = y := fun e => h (by rw [e]; unfold lg_cmp; rw [if_neg (fun q => absurd q Int64.lt_irrefl), if_pos rfl])
/-- the reference's told clauses, its state -/
def toM (m : Int32) : Nat → Bool := fun c => if 1 ≤ c ∧ c ≤ 9 then m.toBitVec.getLsbD (c - 1) else false
theorem toM_or {m : Int32} {k : Nat} (hk : k ≤ 8) : toM (m ||| ((1 : Int32) <<< (nI k &&& 31))) = setB (toM m) (k + 1) := by
  funext c
  show (if 1 ≤ c ∧ c ≤ 9 then (m ||| ((1 : Int32) <<< (nI k &&& 31))).toBitVec.getLsbD (c - 1) else false) = (if c = k + 1 then true else (if 1 ≤ c ∧ c ≤ 9 then m.toBitVec.getLsbD (c - 1) else false))
  by_cases h : c = k + 1
  · subst h
    rw [if_pos (by omega), if_pos rfl, bit_or m (by omega) (by omega)]
    simp
  · rw [if_neg h]
    by_cases h1 : 1 ≤ c ∧ c ≤ 9
    · rw [if_pos h1, if_pos h1, bit_or m (by omega) (by omega)]
      have h2 : ¬ c - 1 = k := by omega
      simp [h2]
    · rw [if_neg h1, if_neg h1]
theorem toM_or9 {m : Int32} : toM (m ||| ((1 : Int32) <<< (nI 9 &&& 31))) = toM m := by
  funext c
  show (if 1 ≤ c ∧ c ≤ 9 then (m ||| ((1 : Int32) <<< (nI 9 &&& 31))).toBitVec.getLsbD (c - 1) else false) = (if 1 ≤ c ∧ c ≤ 9 then m.toBitVec.getLsbD (c - 1) else false)
  by_cases h1 : 1 ≤ c ∧ c ≤ 9
  · rw [if_pos h1, if_pos h1, bit_or m (by omega) (by omega)]
    have h2 : ¬ c - 1 = 9 := by omega
    simp [h2]
  · rw [if_neg h1, if_neg h1]
theorem and1_01 (x : Int32) : x &&& 1 = 0 ∨ x &&& 1 = 1 := by
  have h := pk_and x (m := 1) 1 (by decide)
  rw [h]
  rcases (show x.toBitVec.toNat % 2 ^ 1 = 0 ∨ x.toBitVec.toNat % 2 ^ 1 = 1 by omega) with e | e
  · exact .inl (by rw [e]; rfl)
  · exact .inr (by rw [e]; rfl)
theorem toM_t {m : Int32} {k : Nat} (hk : k ≤ 8) (h : (m >>> (nI k &&& 31)) &&& 1 = 1) : toM m (k + 1) = true := by
  unfold toM
  rw [if_pos (by omega), Nat.add_sub_cancel]
  rcases hb : m.toBitVec.getLsbD k with _ | _
  · have h2 := (bitI m (c := k) (by omega)).mpr hb
    rw [h] at h2
    exact absurd h2 (by decide)
  · rfl
theorem toM_f {m : Int32} {k : Nat} (hk : k ≤ 8) (h : ¬ (m >>> (nI k &&& 31)) &&& 1 = 1) : ¬ toM m (k + 1) = true := by
  unfold toM
  rw [if_pos (by omega), Nat.add_sub_cancel, (bitI m (c := k) (by omega)).mp ((and1_01 _).resolve_right h)]
  decide
def gM (f : Nat → Int32) : Nat → Int32 := nG (fun j => f (j - 1))
def stM (rd : Nat) (fs ff fp : Nat → Int32) (m : Int32) : PSt := (rd, gM fs, clp rd ff, clp rd fp, toM m)
theorem gM_upd {f : Nat → Int32} {k : Nat} {v : Int32} (hk : k ≤ 8) : gM (upd f k v) = upd (gM f) (k + 1) v := by
  funext j
  show (if 1 ≤ j ∧ j ≤ 9 then (if j - 1 = k then v else f (j - 1)) else 0) = (if j = k + 1 then v else (if 1 ≤ j ∧ j ≤ 9 then f (j - 1) else 0))
  by_cases h : j = k + 1
  · subst h
    rw [if_pos (by omega), if_pos (by omega), if_pos rfl]
  · rw [if_neg h]
    by_cases h1 : 1 ≤ j ∧ j ≤ 9
    · rw [if_pos h1, if_pos h1, if_neg (by omega)]
    · rw [if_neg h1, if_neg h1]


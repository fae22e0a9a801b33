theorem f_glueP5 : True := trivial
/-- the bit c of an int -/
theorem bitI (m : Int32) {c : Nat} (hc : c < 32) : ((m >>> (nI c &&& 31)) &&& 1 = 0 ↔ m.toBitVec.getLsbD c = false) := by
  have hs : ∀ c, c < 32 → ((nI c &&& 31).toBitVec.smod 32).toNat = c := by decide
  have e : (m >>> (nI c &&& 31)).toBitVec = m.toBitVec.sshiftRight c := by
    show m.toBitVec.sshiftRight ((nI c &&& 31).toBitVec.smod 32).toNat = _
    rw [hs c hc]
  rw [← Int32.toBitVec_inj, Int32.toBitVec_and, e]
  show (m.toBitVec.sshiftRight c &&& 1#32) = 0#32 ↔ _
  rw [BitVec.and_one_eq_setWidth_ofBool_getLsbD, BitVec.getLsbD_sshiftRight]
  simp only [Nat.add_zero]
  rw [if_pos (show c < 32 by omega)]
  cases hb : m.toBitVec.getLsbD c
  · exact ⟨fun _ => rfl, fun _ => by decide⟩
  · exact ⟨fun z => absurd z (by decide), fun z => absurd z (by decide)⟩
/-- an int's bit with k set -/
theorem bit_or (m : Int32) {c k : Nat} (hc : c < 31) (hk : k < 31) : (m ||| ((1 : Int32) <<< (nI k &&& 31))).toBitVec.getLsbD c = (m.toBitVec.getLsbD c || decide (c = k)) := by
  have h : ∀ k, k < 31 → ∀ c, c < 31 → ((1 : Int32) <<< (nI k &&& 31)).toBitVec.getLsbD c = decide (c = k) := by decide +kernel
  rw [Int32.toBitVec_or, BitVec.getLsbD_or, h k hk c hc]
def toX (m : Int32) : Nat → Bool := fun c => if 1 ≤ c ∧ c ≤ 9 then m.toBitVec.getLsbD c else false
theorem toX_0 : toX 0 = fun _ => false := by
  funext c
  unfold toX
  by_cases h : 1 ≤ c ∧ c ≤ 9
  · rw [if_pos h]
    show (0#32).getLsbD c = false
    exact BitVec.getLsbD_zero
  · rw [if_neg h]
theorem toX_or {m : Int32} {k : Nat} (hk : 1 ≤ k ∧ k ≤ 9) : toX (m ||| ((1 : Int32) <<< (nI k &&& 31))) = setB (toX m) k := by
  funext c
  show (if 1 ≤ c ∧ c ≤ 9 then (m ||| ((1 : Int32) <<< (nI k &&& 31))).toBitVec.getLsbD c else false) = (if c = k then true else (if 1 ≤ c ∧ c ≤ 9 then m.toBitVec.getLsbD c else false))
  by_cases h : c = k
  · subst h
    rw [if_pos hk, if_pos rfl, bit_or m (by omega) (by omega)]
    simp
  · rw [if_neg h]
    by_cases h1 : 1 ≤ c ∧ c ≤ 9
    · rw [if_pos h1, if_pos h1, bit_or m (by omega) (by omega)]
      simp [h]
    · rw [if_neg h1, if_neg h1]
theorem toX_t {m : Int32} {k : Nat} (hk : 1 ≤ k ∧ k ≤ 9) (h : ¬ (m >>> (nI k &&& 31)) &&& 1 = 0) : toX m k = true := by
  unfold toX
  rw [if_pos hk]
  rcases hb : m.toBitVec.getLsbD k with _ | _
  · exact absurd ((bitI m (by omega)).mpr hb) h
  · rfl
theorem toX_f {m : Int32} {k : Nat} (h : (m >>> (nI k &&& 31)) &&& 1 = 0) (hk : k ≤ 9) : ¬ toX m k = true := by
  unfold toX
  by_cases h1 : 1 ≤ k ∧ k ≤ 9
  · rw [if_pos h1, (bitI m (by omega)).mp h]
    decide
  · rw [if_neg h1]
    decide
def stX (n see tm : Nat) (g ff fp : Nat → Int32) (m : Int32) : PSt := (n, nG (vv n see tm g), clp n ff, clp n fp, toX m)
theorem stX_0 {g g0 ff fp : Nat → Int32} (h : g = va_cpy zNT g0 0 0 10) : stX 0 1 0 g ff fp 0 = st0 := by
  unfold stX st0
  rw [toX_0]
  have e1 : nG (vv 0 1 0 g) = nG zNT := by
    funext j
    unfold nG
    by_cases hj : 1 ≤ j ∧ j ≤ 9
    · rw [if_pos hj, if_pos hj]
      unfold vv
      rw [if_neg (by omega)]
      by_cases h6 : j = 6
      · subst h6; rfl
      · rw [if_neg h6]
        by_cases h8 : j = 8
        · subst h8; rfl
        · rw [if_neg h8, h, pk_cpy_in (by omega) (by omega)]
          rw [show 0 + (j - 0) = j by omega]
    · rw [if_neg hj, if_neg hj]
  have e2 : ∀ f : Nat → Int32, clp 0 f = fun _ => 0 := by
    intro f
    funext j
    unfold clp
    rw [if_neg (by omega)]
  rw [e1, e2, e2]
theorem sl_end {b : Nat → Int32} {n k t : Nat} {σ : PSt} (h : ¬ skA b n t < n) : stL b n k t σ = (0, 0, σ) := by
  rcases k with _ | k
  · rfl
  · show (if skA b n t < n then _ else (0, 0, σ)) = _
    rw [if_neg h]
theorem sl_err {b : Nat → Int32} {n k t e p : Nat} {σ : PSt} (hk : 0 < k) (h : skA b n t < n) (he : (clF b n t σ).1 = e) (h0 : 1 ≤ e) (hp : (clF b n t σ).2.1 = p) : (stL b n k t σ).1 = e ∧ (stL b n k t σ).2.1 = p := by
  rcases k with _ | k
  · omega
  · have q : stL b n (k + 1) t σ = ((clF b n t σ).1, (clF b n t σ).2.1, σ) := by
      show (if skA b n t < n then (if (clF b n t σ).1 = 0 then _ else _) else _) = _
      rw [if_pos h, if_neg (by omega)]
    rw [q]
    exact ⟨he, hp⟩
theorem sl_ok {b : Nat → Int32} {n k t t2 : Nat} {σ σ2 : PSt} (hk : 0 < k) (h : skA b n t < n) (hc : clF b n t σ = (0, 0, t2, σ2)) : stL b n k t σ = stL b n (k - 1) t2 σ2 := by
  rcases k with _ | k
  · omega
  · show (if skA b n t < n then (if (clF b n t σ).1 = 0 then stL b n k (clF b n t σ).2.2.1 (clF b n t σ).2.2.2 else _) else _) = _
    rw [if_pos h, hc, if_pos rfl]
    rfl
theorem cf_none {b : Nat → Int32} {n t : Nat} {σ : PSt} (h : kwN (letA b n (skA b n t)) = 10) : clF b n t σ = (1, skA b n t, skA b n t, σ) := by
  unfold clF
  rw [if_pos h]
theorem cf_told {b : Nat → Int32} {n t k : Nat} {σ : PSt} (h : kwN (letA b n (skA b n t)) = k) (h0 : 1 ≤ k ∧ k ≤ 9) (ht : σ.2.2.2.2 k = true) : clF b n t σ = (3, skA b n t, skA b n t, σ) := by
  unfold clF
  rw [h, if_neg (by omega), if_neg (by omega), if_pos ht]
theorem cf_do1 {b : Nat → Int32} {n t e p T : Nat} {σ : PSt} (h : kwN (letA b n (skA b n t)) = 0) (hT : T = skA b n t + (letA b n (skA b n t)).length) (he : (doC b n σ.1 T).1 = e) (h1 : 1 ≤ e) (hp : (doC b n σ.1 T).2.1 = p) : (clF b n t σ).1 = e ∧ (clF b n t σ).2.1 = p := by
  unfold clF
  rw [if_neg (by omega), if_pos h, ← hT]
  rcases hd : doC b n σ.1 T with ⟨e2, p2, t2, m, v3, v5⟩
  rw [hd] at he hp
  have he2 : e2 = e := he
  have hp2 : p2 = p := hp
  have h0 : ¬ e2 = 0 := by omega
  simp only [h0, if_false]
  exact ⟨he2, hp2⟩
theorem cf_do0 {b : Nat → Int32} {n t t1 T m : Nat} {v3 v5 : Int32} {σ : PSt} (h : kwN (letA b n (skA b n t)) = 0) (hT : T = skA b n t + (letA b n (skA b n t)).length) (hd : doC b n σ.1 T = (0, 0, t1, m, v3, v5)) : clF b n t σ = (0, 0, t1, (σ.1 + m, σ.2.1, filF σ.2.2.1 σ.1 m v3, filF σ.2.2.2.1 σ.1 m v5, σ.2.2.2.2)) := by
  unfold clF
  rw [if_neg (by omega), if_pos h, ← hT, hd]
  rfl
theorem cf_si1 {b : Nat → Int32} {n t e p k T : Nat} {σ : PSt} (h : kwN (letA b n (skA b n t)) = k) (h0 : 1 ≤ k ∧ k ≤ 9) (ht : ¬ σ.2.2.2.2 k = true) (hT : T = skA b n t + (letA b n (skA b n t)).length) (he : (siC b n k T).1 = e) (h1 : 1 ≤ e) (hp : (siC b n k T).2.1 = p) : (clF b n t σ).1 = e ∧ (clF b n t σ).2.1 = p := by
  unfold clF
  rw [h, if_neg (by omega), if_neg (by omega), if_neg ht, ← hT]
  rcases hd : siC b n k T with ⟨e2, p2, t2, v, v2⟩
  rw [hd] at he hp
  have he2 : e2 = e := he
  have hp2 : p2 = p := hp
  have h0 : ¬ e2 = 0 := by omega
  simp only [h0, if_false]
  exact ⟨he2, hp2⟩
theorem cf_si0 {b : Nat → Int32} {n t t1 k T : Nat} {v v2 : Int32} {σ : PSt} (h : kwN (letA b n (skA b n t)) = k) (h0 : 1 ≤ k ∧ k ≤ 9) (ht : ¬ σ.2.2.2.2 k = true) (hT : T = skA b n t + (letA b n (skA b n t)).length) (hd : siC b n k T = (0, 0, t1, v, v2)) : clF b n t σ = (0, 0, t1, (σ.1, (if k = 7 then upd (upd σ.2.1 7 v) 8 v2 else upd σ.2.1 k v), σ.2.2.1, σ.2.2.2.1, setB σ.2.2.2.2 k)) := by
  unfold clF
  rw [h, if_neg (by omega), if_neg (by omega), if_neg ht, ← hT, hd]
  rfl
/-- the class's state behind a clause -/
theorem stX_do {n see tm m : Nat} {g ff fp ff2 fp2 : Nat → Int32} {to : Int32} {v3 v5 : Int32} (h1 : ∀ j, ff2 j = if n ≤ j ∧ j < n + m then v3 else ff j) (h2 : ∀ j, fp2 j = if n ≤ j ∧ j < n + m then v5 else fp j) : stX (n + m) see tm g ff2 fp2 to = (n + m, nG (vv n see tm g), filF (clp n ff) n m v3, filF (clp n fp) n m v5, toX to) := by
  unfold stX
  rw [clp_fil h1, clp_fil h2, nG_vv (n + m) n]
theorem stX_si {n see tm see2 tm2 k : Nat} {g g2 ff fp : Nat → Int32} {to : Int32} {v v2 : Int32} (hk : 1 ≤ k ∧ k ≤ 9) (h : vv n see2 tm2 g2 = if k = 7 then upd (upd (vv n see tm g) 7 v) 8 v2 else upd (vv n see tm g) k v) : stX n see2 tm2 g2 ff fp (to ||| ((1 : Int32) <<< (nI k &&& 31))) = (n, (if k = 7 then upd (upd (nG (vv n see tm g)) 7 v) 8 v2 else upd (nG (vv n see tm g)) k v), clp n ff, clp n fp, setB (toX to) k) := by
  unfold stX
  rw [toX_or hk, h]
  by_cases h7 : k = 7
  · rw [if_pos h7, if_pos h7, nG_upd (by omega), nG_upd (by omega)]
  · rw [if_neg h7, if_neg h7, nG_upd hk]
theorem bit0 {m : Int32} {k : Nat} (hk : 1 ≤ k ∧ k ≤ 9) (h : (m >>> (nI 0 &&& 31)) &&& 1 = 0) : ((m ||| ((1 : Int32) <<< (nI k &&& 31))) >>> (nI 0 &&& 31)) &&& 1 = 0 := by
  have h2 := (bitI m (c := 0) (by omega)).mp h
  refine (bitI _ (c := 0) (by omega)).mpr ?_
  rw [bit_or m (by omega) (by omega), h2]
  simp
  omega


theorem f_glueP9 : True := trivial
/-- what a street's text told, as answers show it: doors, singles, chances, prices -/
abbrev SDt : Type := Nat × (Nat → Int32) × (Nat → Int32) × (Nat → Int32)
def sdP (σ : PSt) : SDt := (σ.1, σ.2.1, σ.2.2.1, σ.2.2.2.1)
def sdM (dn : Nat → Nat) (f ff fp : Nat → Int32) (s : Nat) : SDt := (dn s, nG (fun j => f (9 * s + (j - 1))), clp (dn s) (fun i => ff (24 * s + i)), clp (dn s) (fun i => fp (24 * s + i)))
def sdX (n see tm : Nat) (g ff fp : Nat → Int32) : SDt := (n, nG (vv n see tm g), clp n ff, clp n fp)
theorem upd9 {f0 f1 f2 f3 f4 f5 f6 f7 f8 f9 rs : Nat → Int32} {a : Nat} (h0 : f1 = upd f0 (a + 0) (rs 0)) (h1 : f2 = upd f1 (a + 1) (rs 1)) (h2 : f3 = upd f2 (a + 2) (rs 2)) (h3 : f4 = upd f3 (a + 3) (rs 3)) (h4 : f5 = upd f4 (a + 4) (rs 4)) (h5 : f6 = upd f5 (a + 5) (rs 5)) (h6 : f7 = upd f6 (a + 6) (rs 6)) (h7 : f8 = upd f7 (a + 7) (rs 7)) (h8 : f9 = upd f8 (a + 8) (rs 8)) : ∀ j, f9 j = if a ≤ j ∧ j < a + 9 then rs (j - a) else f0 j := by
  intro j
  subst h8 h7 h6 h5 h4 h3 h2 h1 h0
  by_cases hj : a ≤ j ∧ j < a + 9
  · rw [if_pos hj]
    obtain ⟨k, hk⟩ : ∃ k, k = j - a := ⟨_, rfl⟩
    rw [← hk]
    rcases (show k = 0 ∨ k = 1 ∨ k = 2 ∨ k = 3 ∨ k = 4 ∨ k = 5 ∨ k = 6 ∨ k = 7 ∨ k = 8 by omega) with rfl | rfl | rfl | rfl | rfl | rfl | rfl | rfl | rfl
    · rw [pk_un (by omega), pk_un (by omega), pk_un (by omega), pk_un (by omega), pk_un (by omega), pk_un (by omega), pk_un (by omega), pk_un (by omega), show j = a + 0 by omega, pk_us]
    · rw [pk_un (by omega), pk_un (by omega), pk_un (by omega), pk_un (by omega), pk_un (by omega), pk_un (by omega), pk_un (by omega), show j = a + 1 by omega, pk_us]
    · rw [pk_un (by omega), pk_un (by omega), pk_un (by omega), pk_un (by omega), pk_un (by omega), pk_un (by omega), show j = a + 2 by omega, pk_us]
    · rw [pk_un (by omega), pk_un (by omega), pk_un (by omega), pk_un (by omega), pk_un (by omega), show j = a + 3 by omega, pk_us]
    · rw [pk_un (by omega), pk_un (by omega), pk_un (by omega), pk_un (by omega), show j = a + 4 by omega, pk_us]
    · rw [pk_un (by omega), pk_un (by omega), pk_un (by omega), show j = a + 5 by omega, pk_us]
    · rw [pk_un (by omega), pk_un (by omega), show j = a + 6 by omega, pk_us]
    · rw [pk_un (by omega), show j = a + 7 by omega, pk_us]
    · rw [show j = a + 8 by omega, pk_us]
  · rw [if_neg hj, pk_un (by omega), pk_un (by omega), pk_un (by omega), pk_un (by omega), pk_un (by omega), pk_un (by omega), pk_un (by omega), pk_un (by omega), pk_un (by omega)]
/-- copied from a row into another, from a place on -/
theorem cp_step {f g rs : Nat → Int32} {a i : Nat} (h : ∀ j, g j = if a ≤ j ∧ j < a + i then rs (j - a) else f j) : ∀ j, upd g (a + i) (rs i) j = if a ≤ j ∧ j < a + (i + 1) then rs (j - a) else f j := by
  intro j
  by_cases h1 : j = a + i
  · rw [h1, pk_us, if_pos (by omega), show a + i - a = i by omega]
  · rw [pk_un h1, h j]
    by_cases h2 : a ≤ j ∧ j < a + i
    · rw [if_pos h2, if_pos (by omega)]
    · rw [if_neg h2, if_neg (by omega)]
theorem sdM_new {dn dn2 : Nat → Nat} {f f2 ff ff2 fp fp2 rs ra rb : Nat → Int32} {s rd : Nat} {m : Int32} (hd : dn2 = fun j => if j = s then rd else dn j) (hf : ∀ j, f2 j = if 9 * s ≤ j ∧ j < 9 * s + 9 then rs (j - 9 * s) else f j) (h1 : ∀ j, ff2 j = if 24 * s ≤ j ∧ j < 24 * s + rd then ra (j - 24 * s) else ff j) (h2 : ∀ j, fp2 j = if 24 * s ≤ j ∧ j < 24 * s + rd then rb (j - 24 * s) else fp j) : sdM dn2 f2 ff2 fp2 s = sdP (stM rd rs ra rb m) := by
  have e0 : dn2 s = rd := by rw [hd]; exact if_pos rfl
  have e1 : nG (fun j => f2 (9 * s + (j - 1))) = gM rs := by
    funext j
    unfold gM nG
    by_cases hj : 1 ≤ j ∧ j ≤ 9
    · rw [if_pos hj, if_pos hj]
      show f2 (9 * s + (j - 1)) = rs (j - 1)
      rw [hf, if_pos (by omega), show 9 * s + (j - 1) - 9 * s = j - 1 by omega]
    · rw [if_neg hj, if_neg hj]
  have e2 : ∀ (x y z : Nat → Int32), (∀ j, y j = if 24 * s ≤ j ∧ j < 24 * s + rd then z (j - 24 * s) else x j) → clp rd (fun i => y (24 * s + i)) = clp rd z := by
    intro x y z h
    funext i
    unfold clp
    by_cases hi : i < rd
    · rw [if_pos hi, if_pos hi]
      show y (24 * s + i) = z i
      rw [h, if_pos (by omega), show 24 * s + i - 24 * s = i by omega]
    · rw [if_neg hi, if_neg hi]
  show (dn2 s, nG (fun j => f2 (9 * s + (j - 1))), clp (dn2 s) (fun i => ff2 (24 * s + i)), clp (dn2 s) (fun i => fp2 (24 * s + i))) = (rd, gM rs, clp rd ra, clp rd rb)
  rw [e0, e1, e2 ff ff2 ra h1, e2 fp fp2 rb h2]
theorem sdM_old {dn dn2 : Nat → Nat} {f f2 ff ff2 fp fp2 rs ra rb : Nat → Int32} {s rd : Nat} (hrd : rd ≤ 24) (hd : dn2 = fun j => if j = s then rd else dn j) (hf : ∀ j, f2 j = if 9 * s ≤ j ∧ j < 9 * s + 9 then rs (j - 9 * s) else f j) (h1 : ∀ j, ff2 j = if 24 * s ≤ j ∧ j < 24 * s + rd then ra (j - 24 * s) else ff j) (h2 : ∀ j, fp2 j = if 24 * s ≤ j ∧ j < 24 * s + rd then rb (j - 24 * s) else fp j) (hdn : ∀ j, dn j ≤ 24) : ∀ q, q ≠ s → sdM dn2 f2 ff2 fp2 q = sdM dn f ff fp q := by
  intro q hq
  have e0 : dn2 q = dn q := by rw [hd]; exact if_neg hq
  have e1 : nG (fun j => f2 (9 * q + (j - 1))) = nG (fun j => f (9 * q + (j - 1))) := by
    funext j
    unfold nG
    by_cases hj : 1 ≤ j ∧ j ≤ 9
    · rw [if_pos hj, if_pos hj]
      show f2 (9 * q + (j - 1)) = f (9 * q + (j - 1))
      rw [hf, if_neg (by omega)]
    · rw [if_neg hj, if_neg hj]
  have e2 : ∀ (x y z : Nat → Int32), (∀ j, y j = if 24 * s ≤ j ∧ j < 24 * s + rd then z (j - 24 * s) else x j) → clp (dn q) (fun i => y (24 * q + i)) = clp (dn q) (fun i => x (24 * q + i)) := by
    intro x y z h
    have h9 := hdn q
    funext i
    unfold clp
    by_cases hi : i < dn q
    · rw [if_pos hi, if_pos hi]
      show y (24 * q + i) = x (24 * q + i)
      rw [h, if_neg (by omega)]
    · rw [if_neg hi, if_neg hi]
  show (dn2 q, nG (fun j => f2 (9 * q + (j - 1))), clp (dn2 q) (fun i => ff2 (24 * q + i)), clp (dn2 q) (fun i => fp2 (24 * q + i))) = (dn q, nG (fun j => f (9 * q + (j - 1))), clp (dn q) (fun i => ff (24 * q + i)), clp (dn q) (fun i => fp (24 * q + i)))
  rw [e0, e1, e2 ff ff2 ra h1, e2 fp fp2 rb h2]
theorem stM_0 {fs ff fp : Nat → Int32} (h : gM fs = nG zNT) : stM 0 fs ff fp 0 = st0 := by
  unfold stM st0
  have e2 : ∀ f : Nat → Int32, clp 0 f = fun _ => 0 := by
    intro f
    funext j
    unfold clp
    rw [if_neg (by omega)]
  have e3 : toM 0 = fun _ => false := by
    funext c
    unfold toM
    by_cases h1 : 1 ≤ c ∧ c ≤ 9
    · rw [if_pos h1]
      exact BitVec.getLsbD_zero
    · rw [if_neg h1]
  rw [h, e2, e2, e3]
theorem clF_sk {b : Nat → Int32} {n t : Nat} {σ : PSt} : clF b n (skA b n t) σ = clF b n t σ := by
  unfold clF
  rw [skA_idem]
theorem by_neg {b : Nat → Int32} {n t : Nat} {r : Int32} (hb : ∀ j, 0 ≤ b j) (h : r = byF b n t) (hc : r < 0) : ¬ t < n := by
  intro q
  rw [byF_in q] at h
  rw [h] at hc
  exact absurd (hb t) (Int32.not_le.mpr hc)
theorem by_pos {b : Nat → Int32} {n t : Nat} {r : Int32} (h : r = byF b n t) (hc : ¬ r < 0) : t < n := by
  rcases Nat.lt_or_ge t n with q | q
  · exact q
  · rw [byF_out (by omega)] at h
    rw [h] at hc
    exact absurd (by decide) hc


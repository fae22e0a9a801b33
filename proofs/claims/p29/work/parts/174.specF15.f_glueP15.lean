theorem f_glueP15 : True := trivial
/-! the best way, from the last door back -/
def pMn (a b : Int32) : Int32 := if b < a then b else a
def pMix (c a b : Int32) : Int32 := fM_mixed c a b
def pW (d : SDt) (r i : Nat) (on : Int32) (g : Nat) : Int32 := if g % 2 = 1 then pMn on (pTake d r i) else on
def pb (b : Bool) : Int32 := if b = true then 1 else 0
def pBit (g k : Nat) : Bool := decide (g / 2 ^ k % 2 = 1)
def pNx (d : SDt) (see i : Nat) (W : Nat → Int32) (g : Nat) : Int32 := if i + 1 + see < d.1 then pMix (pChance d (i + 1 + see) (pb (pBit g see))) (W (g / 2 + 2 ^ see)) (W (g / 2)) else W (g / 2)
/-- ON at the door that is j ahead of the last one -/
def pO (d : SDt) (see r : Nat) (E : Int32) : Nat → Nat → Int32
  | 0, _ => pPass d + E
  | j + 1, g => pPass d + pNx d see (d.1 - 1 - (j + 1)) (fun h => pW d r (d.1 - 1 - j) (pO d see r E j h) h) g
def pOn (d : SDt) (see r : Nat) (E : Int32) (i g : Nat) : Int32 := pO d see r E (d.1 - 1 - i) g
def pWo (d : SDt) (see r : Nat) (E : Int32) (i g : Nat) : Int32 := pW d r i (pOn d see r E i g) g
theorem pOn_last {d : SDt} {see r i g : Nat} {E : Int32} (h : i + 1 = d.1) : pOn d see r E i g = pPass d + E := by
  unfold pOn
  rw [show d.1 - 1 - i = 0 by omega]
  rfl
theorem pOn_next {d : SDt} {see r i g : Nat} {E : Int32} (h : i + 1 < d.1) : pOn d see r E i g = pPass d + pNx d see i (fun x => pWo d see r E (i + 1) x) g := by
  unfold pOn
  rw [show d.1 - 1 - i = (d.1 - 1 - (i + 1)) + 1 by omega]
  show pPass d + pNx d see (d.1 - 1 - (d.1 - 1 - (i + 1) + 1)) (fun h => pW d r (d.1 - 1 - (d.1 - 1 - (i + 1))) (pO d see r E (d.1 - 1 - (i + 1)) h) h) g = _
  rw [show d.1 - 1 - (d.1 - 1 - (i + 1) + 1) = i by omega, show d.1 - 1 - (d.1 - 1 - (i + 1)) = i + 1 by omega]
  rfl
/-- how many doors one sees from door i, with its own -/
def sqN (see n i : Nat) : Nat := min (see + 1) (n - i)
def pAh (h k : Nat) : Int32 := if 0 < k ∧ h / 2 ^ (k - 1) % 2 = 1 then 1 else 0
/-- the start: what isn't known yet, from the farthest seen door back -/
def pFo (d : SDt) (W : Nat → Int32) (q : Nat) : Nat → Nat → Int32
  | 0, h => W h
  | m + 1, h => pMix (pChance d (q - 1 - m) (pAh h (q - 1 - m))) (pFo d W q m (h + 2 ^ (q - 1 - m))) (pFo d W q m h)
def pSv (d : SDt) (see r : Nat) (E : Int32) : Int32 := pFo d (fun h => pWo d see r E 0 h) (sqN see d.1 0) (sqN see d.1 0) 0
/-- end and start of the round that is m ahead of the last -/
def pES (d : SDt) (see tm : Nat) : Nat → Int32 × Int32
  | 0 => (pGar d tm, pSv d see tm (pGar d tm))
  | m + 1 => (pMn (pGar d (tm - (m + 1))) (pRnd d + (pES d see tm m).2), pSv d see (tm - (m + 1)) (pMn (pGar d (tm - (m + 1))) (pRnd d + (pES d see tm m).2)))
def pEr (d : SDt) (see tm r : Nat) : Int32 := (pES d see tm (tm - r)).1
def pSr (d : SDt) (see tm r : Nat) : Int32 := (pES d see tm (tm - r)).2
theorem pEr_last {d : SDt} {see tm : Nat} : pEr d see tm tm = pGar d tm := by
  unfold pEr
  rw [Nat.sub_self]
  rfl
theorem pEr_ahead {d : SDt} {see tm r : Nat} (h : r < tm) : pEr d see tm r = pMn (pGar d r) (pRnd d + pSr d see tm (r + 1)) := by
  unfold pEr pSr
  rw [show tm - r = (tm - (r + 1)) + 1 by omega]
  show pMn (pGar d (tm - (tm - (r + 1) + 1))) _ = _
  rw [show tm - (tm - (r + 1) + 1) = r by omega]
theorem pSr_of {d : SDt} {see tm r : Nat} (h : r ≤ tm) : pSr d see tm r = pSv d see r (pEr d see tm r) := by
  unfold pEr pSr
  rcases Nat.eq_or_lt_of_le h with h1 | h1
  · rw [show tm - r = 0 by omega, h1]
    rfl
  · rw [show tm - r = (tm - (r + 1)) + 1 by omega]
    show pSv d see (tm - (tm - (r + 1) + 1)) (pMn (pGar d (tm - (tm - (r + 1) + 1))) _) = pSv d see r (pMn (pGar d (tm - (tm - (r + 1) + 1))) _)
    rw [show tm - (tm - (r + 1) + 1) = r by omega]
/-- a street's way as rows hold it -/
def slN (r i g : Nat) : Nat := (r * 24 + i) * 8 + g
def onOK (d : SDt) (see r : Nat) (E : Int32) (i0 : Nat) (on : Nat → Int32) : Prop := ∀ i, i0 ≤ i → i < d.1 → ∀ g, g < 2 ^ sqN see d.1 i → on (slN r i g) = pOn d see r E i g
def wyOK (d : SDt) (see tm r0 : Nat) (on sr en : Nat → Int32) : Prop := ∀ r, r0 ≤ r → r ≤ tm → en r = pEr d see tm r ∧ sr r = pSr d see tm r ∧ onOK d see r (pEr d see tm r) 0 on
theorem sq_le {see n i : Nat} (h : see ≤ 2) : sqN see n i ≤ 3 := by
  unfold sqN
  omega
theorem p8 {q : Nat} (h : q ≤ 3) : 1 ≤ 2 ^ q ∧ 2 ^ q ≤ 8 := by
  rcases (show q = 0 ∨ q = 1 ∨ q = 2 ∨ q = 3 by omega) with rfl | rfl | rfl | rfl <;> decide
/-- one more sight of door i -/
theorem on_step {d : SDt} {see r i g : Nat} {E x : Int32} {on : Nat → Int32} (hn : d.1 ≤ 24) (hs : see ≤ 2) (hi : i < d.1) (hg : g < 8) (h1 : onOK d see r E (i + 1) on) (h2 : ∀ h, h < g → on (slN r i h) = pOn d see r E i h) (hx : x = pOn d see r E i g) : onOK d see r E (i + 1) (upd on (slN r i g) x) ∧ ∀ h, h < g + 1 → upd on (slN r i g) x (slN r i h) = pOn d see r E i h := by
  refine ⟨fun j hj hj2 h hh => ?_, fun h hh => ?_⟩
  · have h8 := (p8 (sq_le (n := d.1) (i := j) hs)).2
    rw [pk_un (by unfold slN; omega)]
    exact h1 j hj hj2 h hh
  · by_cases e : h = g
    · rw [e, pk_us]
      exact hx
    · rw [pk_un (by unfold slN; omega)]
      exact h2 h (by omega)
theorem on_door {d : SDt} {see r i m : Nat} {E : Int32} {on : Nat → Int32} (hm : m = 2 ^ sqN see d.1 i) (h1 : onOK d see r E (i + 1) on) (h2 : ∀ h, h < m → on (slN r i h) = pOn d see r E i h) : onOK d see r E i on := by
  intro j hj hj2 h hh
  rcases Nat.eq_or_lt_of_le hj with e | e
  · subst e
    exact h2 h (by rw [hm]; exact hh)
  · exact h1 j e hj2 h hh
/-- a round's row doesn't touch another's -/
theorem on_other {d : SDt} {see r q : Nat} {E : Int32} {on on2 : Nat → Int32} (hn : d.1 ≤ 24) (hs : see ≤ 2) (h : ∀ x, ¬ (192 * q ≤ x ∧ x < 192 * q + 192) → on2 x = on x) (hr : r ≠ q) (h1 : onOK d see r E 0 on) : onOK d see r E 0 on2 := by
  intro i hi hi2 g hg
  have h8 := (p8 (sq_le (n := d.1) (i := i) hs)).2
  rw [h _ (by unfold slN; omega)]
  exact h1 i hi hi2 g hg
theorem pMn_le (a b : Int32) : (if b ≤ a then b else a) = pMn a b := by
  unfold pMn
  by_cases h : b < a
  · have k := Int32.lt_iff_toInt_lt.mp h
    rw [if_pos h, if_pos (Int32.le_iff_toInt_le.mpr (by omega))]
  · have k : ¬ b.toInt < a.toInt := fun q => h (Int32.lt_iff_toInt_lt.mpr q)
    rw [if_neg h]
    by_cases h2 : b ≤ a
    · have k2 := Int32.le_iff_toInt_le.mp h2
      rw [if_pos h2]
      exact Int32.toInt_inj.mp (by omega)
    · rw [if_neg h2]
theorem i64_of32 {a b : Int64} (h : a.toInt = b.toInt) : a = b := Int64.toInt_inj.mp h
theorem mix_same {c a b : Int32} (hc : inB c 0 100) : fX_mixed c a b = pMix c a b := by
  have e0 : (0 : Int32).toInt = 0 := by decide
  have e1 : (100 : Int32).toInt = 100 := by decide
  have e2 : (100 : Int64).toInt = 100 := by decide
  have h1 := Int32.le_iff_toInt_le.mp hc.1
  have h2 := Int32.le_iff_toInt_le.mp hc.2
  have e : (100 - c).toInt64 = 100 - c.toInt64 := by
    apply i64_of32
    rw [Int32.toInt_toInt64, Int64.toInt_sub, Int32.toInt_toInt64, Int32.toInt_sub, e1, e2]
    rw [Int.bmod_eq_of_le (by omega) (by omega), Int.bmod_eq_of_le (by omega) (by omega)]
  unfold fX_mixed pMix fM_mixed
  rw [e]
theorem pCl_in (v : Int32) : inB (pCl v) 0 100 := by
  unfold pCl
  by_cases h : 0 ≤ v
  · rw [if_pos h]
    by_cases h2 : v ≤ 100
    · rw [if_pos h2]
      exact ⟨h, h2⟩
    · rw [if_neg h2]
      exact ⟨by decide, by decide⟩
  · rw [if_neg h]
    exact ⟨by decide, by decide⟩
theorem pCh_in {d : SDt} {i : Nat} {p : Int32} : inB (pChance d i p) 0 100 := pCl_in _
/-! sights as ints -/
theorem ev_and : ∀ g, g < 8 → ((nI g &&& 1 = 0 ↔ ¬ g % 2 = 1) ∧ (nI g &&& 1 = 1 ↔ g % 2 = 1)) := by decide
theorem hf_shr : ∀ g, g < 8 → nI g >>> ((1 : Int32) &&& 31) = nI (g / 2) := by decide
theorem bt_shr : ∀ k, k < 3 → ∀ g, g < 8 → (((nI g >>> (nI k &&& 31)) &&& 1 = 0 ↔ pBit g k = false) ∧ ((nI g >>> (nI k &&& 31)) &&& 1 = 1 ↔ pBit g k = true)) := by decide
theorem or_bit : ∀ k, k < 3 → ∀ g, g < 2 ^ k → nI g ||| ((1 : Int32) <<< (nI k &&& 31)) = nI (g + 2 ^ k) := by decide
theorem or_bit2 : ∀ k, k < 3 → ∀ g, g < 2 ^ k → nI g ||| nI (2 ^ k) = nI (g + 2 ^ k) := by decide
theorem pW_0 {d : SDt} {r i g : Nat} {on : Int32} (hg : g < 8) (h : nI g &&& 1 = 0) : pW d r i on g = on := by
  unfold pW
  rw [if_neg (((ev_and g hg).1).mp h)]
theorem pW_1 {d : SDt} {r i g : Nat} {on : Int32} (hg : g < 8) (h : ¬ nI g &&& 1 = 0) : pW d r i on g = pMn on (pTake d r i) := by
  unfold pW
  rw [if_pos (Classical.not_not.mp (fun q => h (((ev_and g hg).1).mpr q)))]
theorem pb_1 {g k : Nat} (hk : k < 3) (hg : g < 8) (h : ¬ (nI g >>> (nI k &&& 31)) &&& 1 = 0) : pb (pBit g k) = 1 := by
  rcases hb : pBit g k with _ | _
  · exact absurd (((bt_shr k hk g hg).1).mpr hb) h
  · rfl
theorem pb_0 {g k : Nat} (hk : k < 3) (hg : g < 8) (h : (nI g >>> (nI k &&& 31)) &&& 1 = 0) : pb (pBit g k) = 0 := by
  rw [((bt_shr k hk g hg).1).mp h]
  rfl
theorem nx_1 {d : SDt} {see i g : Nat} {W : Nat → Int32} {c a b q : Int32} (h : i + 1 + see < d.1) (hc : c = pChance d (i + 1 + see) (pb (pBit g see))) (ha : a = W (g / 2 + 2 ^ see)) (hb : b = W (g / 2)) (hq : q = fX_mixed c a b) : q = pNx d see i W g := by
  unfold pNx
  rw [if_pos h, hq, mix_same (by rw [hc]; exact pCh_in), hc, ha, hb]
theorem nx_0 {d : SDt} {see i g : Nat} {W : Nat → Int32} {q : Int32} (h : ¬ i + 1 + see < d.1) (hq : q = W (g / 2)) : q = pNx d see i W g := by
  unfold pNx
  rw [if_neg h, hq]
theorem sq_in {see n i : Nat} (h : i + 1 + see < n) : sqN see n i = see + 1 ∧ sqN see n (i + 1) = see + 1 := by
  unfold sqN
  omega
theorem sq_out {see n i : Nat} (h : ¬ i + 1 + see < n) (hi : i + 1 < n) : sqN see n i = sqN see n (i + 1) + 1 := by
  unfold sqN
  omega
theorem half_lt {g q : Nat} (h : g < 2 ^ (q + 1)) : g / 2 < 2 ^ q := by
  rw [Nat.pow_succ] at h
  omega
theorem nx_congr {d : SDt} {see i g : Nat} {W W2 : Nat → Int32} (hi : i + 1 < d.1) (hg : g < 2 ^ sqN see d.1 i) (h : ∀ x, x < 2 ^ sqN see d.1 (i + 1) → W x = W2 x) : pNx d see i W g = pNx d see i W2 g := by
  unfold pNx
  by_cases c : i + 1 + see < d.1
  · rw [if_pos c, if_pos c]
    obtain ⟨e1, e2⟩ := sq_in c
    rw [e1] at hg
    rw [e2] at h
    have h1 := half_lt hg
    rw [h (g / 2 + 2 ^ see) (by rw [Nat.pow_succ]; omega), h (g / 2) (by rw [Nat.pow_succ]; omega)]
  · rw [if_neg c, if_neg c]
    rw [sq_out c hi] at hg
    exact h _ (half_lt hg)
theorem pw_lt {j q : Nat} : 2 ^ j < 2 ^ q ↔ j < q := Nat.pow_lt_pow_iff_right (by omega)
theorem ah_1 {g k : Nat} (hk : k < 3) (hk0 : 0 < k) (hg : g < 8) (h : ¬ (nI g >>> (nI (k - 1) &&& 31)) &&& 1 = 0) : pAh g k = 1 := by
  have h1 := (bt_shr (k - 1) (by omega) g hg).1
  have hx : g / 2 ^ (k - 1) % 2 = 1 := by
    rcases hb : pBit g (k - 1) with _ | _
    · exact absurd (h1.mpr hb) h
    · exact of_decide_eq_true hb
  unfold pAh
  rw [if_pos ⟨hk0, hx⟩]
theorem ah_0 {g k : Nat} (hk : k < 3) (hg : g < 8) (h : (nI g >>> (nI (k - 1) &&& 31)) &&& 1 = 0) : pAh g k = 0 := by
  have h1 := ((bt_shr (k - 1) (by omega) g hg).1).mp h
  unfold pAh
  rw [if_neg (fun q => absurd q.2 (of_decide_eq_false h1))]
theorem ah_z {g : Nat} : pAh g 0 = 0 := rfl
/-- one entry of the fold -/
theorem fo_step {d : SDt} {W : Nat → Int32} {q j g : Nat} {f : Nat → Int32} {x c a b : Int32} (hj : j < q) (hg : g < 2 ^ j) (h1 : ∀ h, h < g → f h = pFo d W q (q - j) h) (h2 : ∀ h, g ≤ h → h < 2 ^ (j + 1) → f h = pFo d W q (q - (j + 1)) h) (hc : c = pChance d j (pAh g j)) (ha : a = f (g + 2 ^ j)) (hb : b = f g) (hx : x = fX_mixed c a b) : (∀ h, h < g + 1 → upd f g x h = pFo d W q (q - j) h) ∧ ∀ h, g + 1 ≤ h → h < 2 ^ (j + 1) → upd f g x h = pFo d W q (q - (j + 1)) h := by
  have hp : 2 ^ (j + 1) = 2 ^ j * 2 := Nat.pow_succ ..
  refine ⟨fun h hh => ?_, fun h hh hh2 => ?_⟩
  · by_cases e : h = g
    · rw [e, pk_us, hx, mix_same (by rw [hc]; exact pCh_in), hc, ha, hb, h2 _ (by omega) (by omega), h2 _ (by omega) (by omega), show q - j = (q - (j + 1)) + 1 by omega]
      show _ = pMix (pChance d (q - 1 - (q - (j + 1))) (pAh g (q - 1 - (q - (j + 1))))) (pFo d W q (q - (j + 1)) (g + 2 ^ (q - 1 - (q - (j + 1))))) (pFo d W q (q - (j + 1)) g)
      rw [show q - 1 - (q - (j + 1)) = j by omega]
    · rw [pk_un e]
      exact h1 h (by omega)
  · rw [pk_un (by omega)]
    exact h2 h (by omega) hh2
theorem fo_stepM {d : SDt} {W : Nat → Int32} {q j g : Nat} {f : Nat → Int32} {x c a b : Int32} (hj : j < q) (hg : g < 2 ^ j) (h1 : ∀ h, h < g → f h = pFo d W q (q - j) h) (h2 : ∀ h, g ≤ h → h < 2 ^ (j + 1) → f h = pFo d W q (q - (j + 1)) h) (hc : c = pChance d j (pAh g j)) (ha : a = f (g + 2 ^ j)) (hb : b = f g) (hx : x = fM_mixed c a b) : (∀ h, h < g + 1 → upd f g x h = pFo d W q (q - j) h) ∧ ∀ h, g + 1 ≤ h → h < 2 ^ (j + 1) → upd f g x h = pFo d W q (q - (j + 1)) h :=
  fo_step hj hg h1 h2 hc ha hb (hx.trans (mix_same (by rw [hc]; exact pCh_in)).symm)
theorem wy_step {d : SDt} {see tm r : Nat} {on on2 sr en : Nat → Int32} {x s : Int32} (hn : d.1 ≤ 24) (hs : see ≤ 2) (hr : r ≤ tm) (h : wyOK d see tm (r + 1) on sr en) (hx : x = pEr d see tm r) (h1 : onOK d see r (upd en r x r) 0 on2) (ho : ∀ y, ¬ (192 * r ≤ y ∧ y < 192 * r + 192) → on2 y = on y) (hsv : s = pSv d see r (upd en r x r)) : wyOK d see tm r on2 (upd sr r s) (upd en r x) := by
  rw [pk_us] at h1 hsv
  intro q hq hq2
  rcases Nat.eq_or_lt_of_le hq with e | e
  · subst e
    rw [pk_us, pk_us, hsv, hx]
    rw [hx] at h1
    exact ⟨rfl, (pSr_of hr).symm, h1⟩
  · rw [pk_un (by omega), pk_un (by omega)]
    obtain ⟨a1, a2, a3⟩ := h q e hq2
    exact ⟨a1, a2, on_other hn hs ho (by omega) a3⟩


set_option maxHeartbeats 4000000 in
set_option maxRecDepth 100000 in
theorem y_sightsAt (l : Launch) (D : va_G) (k : Nat → ClassId) (st : Nat → Nat) (lo : Nat) (h0 : Nat) (h1 : Nat) (h2 : Nat) (h3 : Nat) (h4 : Nat) (n : Nat) (see : Nat) (tm : Nat) (g : Nat → Int32) (i : Nat) (hn : n ≤ 24) (hsee : see ≤ 2) (hi : i ≤ n) : CRi l D k st lo yX5_sightsAt cX5_sightsAt 2 (some .int) ({ frames := 1, cells := 0, slots := 0, locals := 60 }) [.ref h0, .int (nI i)] [(h0, .inr (5, (fX5 h1 h2 h3 h4))), (aI k h1 10 (vv n see tm g))] (fun r => r = nI (2 ^ sqN see n i)) := by
  intro sz
  refine Met.ofW (cc := cX5_sightsAt) (maxL := 2) (ret := (some .int)) (by decide) rfl ?_
  intro p e s m args below meth c s₁ B hml hv
  obtain ⟨rfl, hsz, hlo, hP, hK, hDL, hZ⟩ := hv
  have hx := B.exec
  have hb := B.bytes
  have hr := B.returns
  have hts := WS_ts B.pre
  have hown : s.vm.findClass RX5 = some m.cls := findClass_of_methodNamed B.named
  have hlocks := B.notSynchronized
  subst hsz
  have hA : ∀ q : Nat, s.heap.size ≤ q → (fun q : Nat => s.heap.size ≤ q) q := fun _ h => h
  have hAlo : ∀ q : Nat, (fun q : Nat => s.heap.size ≤ q) q → lo ≤ q := fun q h => Nat.le_trans hlo h
  have hS : va_S (fun q : Nat => s.heap.size ≤ q) s.heap s.heap [] := va_S.rf
  have hl := lv_entry ([.ref h0, .int (nI i)]) (n := 2) (Nat.le_of_ble_eq_true rfl)
  rw [lg_entry_eq]
  generalize (lg_sl ([.ref h0, .int (nI i)]) ++ List.replicate (2 - (lg_sl ([.ref h0, .int (nI i)])).length) Slot.unset).toArray = ls at hl ⊢
  have hl : lv_has ls 2 [(0, .ref h0), (1, .int (nI i))] := hl
  refine lv_iconst (v := 1) hx hb dX5_sightsAt_0 (by decide) ?_
  refine lv_aload_n hx hb dX5_sightsAt_1 rfl (lv_at hl 0 rfl) ?_
  refine va_get (D := D) (ci := 5) (v := .ref h1) (C := RX5) (T := TX5) (N := 4) hx hb hts inX5 hown hK hP 0 rfl rfl 0 (by decide) (hts _ tw_146) (fun _ h9 => h9) rfl dX5_sightsAt_2 ?_
  refine lv_bipush (v := 6) hx hb dX5_sightsAt_5 (by decide) ?_
  refine va_iald hx hb hK hP 1 1 rfl rfl (by unfold vp_in; decide) dX5_sightsAt_7 ?_
  refine lv_ti (y := (nI see)) (by rfl) ?_
  refine lv_iconst (v := 1) hx hb dX5_sightsAt_8 (by decide) ?_
  refine lv_iadd hx hb dX5_sightsAt_9 ?_
  refine lv_ti (y := (nI (see + 1))) (nI_add see 1) ?_
  refine lv_aload_n hx hb dX5_sightsAt_10 rfl (lv_at hl 0 rfl) ?_
  refine va_get (D := D) (ci := 5) (v := .ref h1) (C := RX5) (T := TX5) (N := 4) hx hb hts inX5 hown hK hP 0 rfl rfl 0 (by decide) (hts _ tw_146) (fun _ h9 => h9) rfl dX5_sightsAt_11 ?_
  refine lv_iconst (v := 0) hx hb dX5_sightsAt_14 (by decide) ?_
  refine va_iald hx hb hK hP 1 1 rfl rfl (by unfold vp_in; decide) dX5_sightsAt_15 ?_
  refine lv_ti (y := (nI n)) (by rfl) ?_
  refine lv_iload_n hx hb dX5_sightsAt_16 rfl (lv_at hl 1 rfl) ?_
  refine lv_isub hx hb dX5_sightsAt_17 ?_
  refine lv_ti (y := (nI (n - i))) (pk_sub (a := n) (b := i) (by omega)) ?_
  refine va_mmin hx hb (by rw [hml]; exact hl.1.symm) hown (hts _ tw_540) (hts _ tw_529) (hts _ tw_93) (hts _ tw_530) (Nat.le_of_ble_eq_true rfl) (Nat.le_of_ble_eq_true rfl) (Nat.le_of_ble_eq_true rfl) (Nat.le_of_ble_eq_true rfl) dX5_sightsAt_18 ?_
  refine lv_ti (y := (nI (min (see + 1) (n - i)))) (mminN (by omega) (by omega)) ?_
  have hsq_2 : min (see + 1) (n - i) ≤ 3 := by omega
  refine lv_ishl hx hb dX5_sightsAt_21 ?_
  refine lv_ti (y := (nI (2 ^ (min (see + 1) (n - i))))) (shl1 (min (see + 1) (n - i)) (by omega)) ?_
  exact W.iret (v := (nI (2 ^ (min (see + 1) (n - i))))) hx hb hr (fun t ht hW => ⟨⟨(nI (2 ^ (min (see + 1) (n - i)))), (), rfl, rfl, trivial⟩, hS.F ht⟩) hS.2.2 dX5_sightsAt_22


set_option maxHeartbeats 4000000 in
set_option maxRecDepth 100000 in
theorem y_onwardOf (l : Launch) (D : va_G) (k : Nat → ClassId) (st : Nat → Nat) (lo : Nat) (h0 : Nat) (w0 : Nat) (w1 : Nat) (w2 : Nat) (w3 : Nat) (w4 : Nat) (on : Nat → Int32) (rn : Nat) (i : Nat) (gg : Nat) (hrn : rn ≤ 3) (hi : i < 24) (hg : gg < 8) : CRi l D k st lo yX0_onwardOf cX0_onwardOf 4 (some .int) ({ frames := 1, cells := 0, slots := 0, locals := 22 }) [.ref w0, .int (nI rn), .int (nI i), .int (nI gg)] [(w0, .inr (0, (fX0 h0 w1 w2 w3 w4))), (aI k w1 768 on)] (fun r => r = on (slN rn i gg)) := by
  intro sz
  refine Met.ofW (cc := cX0_onwardOf) (maxL := 4) (ret := (some .int)) (by decide) rfl ?_
  intro p e s m args below meth c s₁ B hml hv
  obtain ⟨rfl, hsz, hlo, hP, hK, hDL, hZ⟩ := hv
  have hx := B.exec
  have hb := B.bytes
  have hr := B.returns
  have hts := WS_ts B.pre
  have hown : s.vm.findClass RX0 = some m.cls := findClass_of_methodNamed B.named
  have hlocks := B.notSynchronized
  subst hsz
  have hA : ∀ q : Nat, s.heap.size ≤ q → (fun q : Nat => s.heap.size ≤ q) q := fun _ h => h
  have hAlo : ∀ q : Nat, (fun q : Nat => s.heap.size ≤ q) q → lo ≤ q := fun q h => Nat.le_trans hlo h
  have hS : va_S (fun q : Nat => s.heap.size ≤ q) s.heap s.heap [] := va_S.rf
  have hl := lv_entry ([.ref w0, .int (nI rn), .int (nI i), .int (nI gg)]) (n := 4) (Nat.le_of_ble_eq_true rfl)
  rw [lg_entry_eq]
  generalize (lg_sl ([.ref w0, .int (nI rn), .int (nI i), .int (nI gg)]) ++ List.replicate (4 - (lg_sl ([.ref w0, .int (nI rn), .int (nI i), .int (nI gg)])).length) Slot.unset).toArray = ls at hl ⊢
  have hl : lv_has ls 4 [(0, .ref w0), (1, .int (nI rn)), (2, .int (nI i)), (3, .int (nI gg))] := hl
  refine lv_aload_n hx hb dX0_onwardOf_0 rfl (lv_at hl 0 rfl) ?_
  refine va_get (D := D) (ci := 0) (v := .ref w1) (C := RX0) (T := TX0) (N := 5) hx hb hts inX0 hown hK hP 0 rfl rfl 1 (by decide) (hts _ tw_267) (fun _ h9 => h9) rfl dX0_onwardOf_1 ?_
  refine lv_iload_n hx hb dX0_onwardOf_4 rfl (lv_at hl 1 rfl) ?_
  refine lv_iload_n hx hb dX0_onwardOf_5 rfl (lv_at hl 2 rfl) ?_
  refine lv_iload_n hx hb dX0_onwardOf_6 rfl (lv_at hl 3 rfl) ?_
  refine ro_i (D := D) (va_runS (As := [.int (nI rn), .int (nI i), .int (nI gg)]) (rest := [.ref w1]) ⟨hx, hb, hml, hown, hts⟩ ((x_slot l D k st lo rn i gg) s.heap.size) (va_cwS 3 hts (gS tw_553 tw_554 tw_85 tw_555) rfl rfl rfl (by decide +kernel) ⟨Nat.le_of_ble_eq_true rfl, Nat.le_of_ble_eq_true rfl⟩) (pS hS hAlo hlo hP hK hDL hZ [] (by decide) rfl) rfl rfl hl.1 rfl (lv_room (Nat.le_of_ble_eq_true rfl)) dX0_onwardOf_7 ⟨Nat.le_of_ble_eq_true rfl, Nat.le_of_ble_eq_true rfl⟩) hS hA hP (fun r_1 H locs hw_1 hP hS => ?_)
  try dsimp only at hw_1
  subst hw_1
  refine va_iald hx hb hK hP 1 1 rfl rfl (vp_in_nI (by omega) (by decide)) dX0_onwardOf_10 ?_
  refine lv_ti (y := (on ((rn * 24 + i) * 8 + gg))) (by rw [nI_clamp (by omega)]) ?_
  exact W.iret (v := (on ((rn * 24 + i) * 8 + gg))) hx hb hr (fun t ht hW => ⟨⟨(on ((rn * 24 + i) * 8 + gg)), (), rfl, rfl, trivial⟩, hS.F ht⟩) hS.2.2 dX0_onwardOf_11


set_option maxHeartbeats 4000000 in
set_option maxRecDepth 100000 in
theorem y_worthOf (l : Launch) (D : va_G) (k : Nat → ClassId) (st : Nat → Nat) (lo : Nat) (h0 : Nat) (h1 : Nat) (h2 : Nat) (h3 : Nat) (h4 : Nat) (n : Nat) (see : Nat) (tm : Nat) (g : Nat → Int32) (ff : Nat → Int32) (fp : Nat → Int32) (fl : Nat → Int32) (w0 : Nat) (w1 : Nat) (w2 : Nat) (w3 : Nat) (w4 : Nat) (on : Nat → Int32) (rn : Nat) (i : Nat) (gg : Nat) (hrn : rn ≤ 3) (hi : i < n) (hn : n ≤ 24) (hg : gg < 8) (hl9 : ∀ r, r < 4 → fl r = pLate (sdX n see tm g ff fp) r) : CRi l D k st lo yX0_worthOf cX0_worthOf 5 (some .int) ({ frames := 2, cells := 0, slots := 0, locals := 60 }) [.ref w0, .int (nI rn), .int (nI i), .int (nI gg)] [(h0, .inr (5, (fX5 h1 h2 h3 h4))), (aI k h1 10 (vv n see tm g)), (aI k h2 24 ff), (aI k h3 24 fp), (aI k h4 4 fl), (w0, .inr (0, (fX0 h0 w1 w2 w3 w4))), (aI k w1 768 on)] (fun r => r = pW (sdX n see tm g ff fp) rn i (on (slN rn i gg)) gg) := by
  intro sz
  refine Met.ofW (cc := cX0_worthOf) (maxL := 5) (ret := (some .int)) (by decide) rfl ?_
  intro p e s m args below meth c s₁ B hml hv
  obtain ⟨rfl, hsz, hlo, hP, hK, hDL, hZ⟩ := hv
  have hx := B.exec
  have hb := B.bytes
  have hr := B.returns
  have hts := WS_ts B.pre
  have hown : s.vm.findClass RX0 = some m.cls := findClass_of_methodNamed B.named
  have hlocks := B.notSynchronized
  subst hsz
  have hA : ∀ q : Nat, s.heap.size ≤ q → (fun q : Nat => s.heap.size ≤ q) q := fun _ h => h
  have hAlo : ∀ q : Nat, (fun q : Nat => s.heap.size ≤ q) q → lo ≤ q := fun q h => Nat.le_trans hlo h
  have hS : va_S (fun q : Nat => s.heap.size ≤ q) s.heap s.heap [] := va_S.rf
  have hl := lv_entry ([.ref w0, .int (nI rn), .int (nI i), .int (nI gg)]) (n := 5) (Nat.le_of_ble_eq_true rfl)
  rw [lg_entry_eq]
  generalize (lg_sl ([.ref w0, .int (nI rn), .int (nI i), .int (nI gg)]) ++ List.replicate (5 - (lg_sl ([.ref w0, .int (nI rn), .int (nI i), .int (nI gg)])).length) Slot.unset).toArray = ls at hl ⊢
  have hl : lv_has ls 5 [(0, .ref w0), (1, .int (nI rn)), (2, .int (nI i)), (3, .int (nI gg))] := hl
  refine lv_aload_n hx hb dX0_worthOf_0 rfl (lv_at hl 0 rfl) ?_
  refine lv_iload_n hx hb dX0_worthOf_1 rfl (lv_at hl 1 rfl) ?_
  refine lv_iload_n hx hb dX0_worthOf_2 rfl (lv_at hl 2 rfl) ?_
  refine lv_iload_n hx hb dX0_worthOf_3 rfl (lv_at hl 3 rfl) ?_
  refine ro_i (D := D) (va_runV (As := [.int (nI rn), .int (nI i), .int (nI gg)]) (rest := []) ⟨hx, hb, hml, hown, hts⟩ ((y_onwardOf l D k st lo h0 w0 w1 w2 w3 w4 on rn i gg (by first | assumption | omega) (by first | assumption | omega) (by first | assumption | omega)) s.heap.size) (cwV 3 hts (gV tw_549 tw_550 tw_551 tw_85 tw_552) rfl rfl rfl (by decide +kernel) ⟨Nat.le_of_ble_eq_true rfl, Nat.le_of_ble_eq_true rfl⟩) (pV hS hAlo hlo hP hK hDL hZ [5, 6] (by decide) rfl (ci := 0) (q := (RX0, TX0, 5)) (q0 := 0) rfl rfl) rfl rfl hl.1 rfl (lv_room (Nat.le_of_ble_eq_true rfl)) dX0_worthOf_4 ⟨Nat.le_of_ble_eq_true rfl, Nat.le_of_ble_eq_true rfl⟩) hS hA hP (fun r_1 H locs hw_1 hP hS => ?_)
  try dsimp only at hw_1
  refine lv_istore (lv' := [(4, .int r_1), (0, .ref w0), (1, .int (nI rn)), (2, .int (nI i)), (3, .int (nI gg))]) hx hb dX0_worthOf_7 hl (by decide) rfl (fun ls hl => ?_)
  refine lv_iload_n hx hb dX0_worthOf_9 rfl (lv_at hl 4 rfl) ?_
  refine lv_iconst (v := 1) hx hb dX0_worthOf_10 (by decide) ?_
  refine lv_iand hx hb dX0_worthOf_11 ?_
  refine lv_topi (fun x_2 ex_2 => ?_)
  refine lv_if_ne (tgt := 20) hx hb dX0_worthOf_12 (by decide) (fun c_3 => ?_) (fun c_3 => ?_)
  · rw [ex_2] at c_3
    refine lv_iload hx hb dX0_worthOf_20 (lv_at hl 0 rfl) ?_
    refine lv_aload_n hx hb dX0_worthOf_22 rfl (lv_at hl 1 rfl) ?_
    refine va_get (D := D) (ci := 0) (v := .ref h0) (C := RX0) (T := TX0) (N := 5) hx hb hts inX0 hown hK hP 5 rfl rfl 0 (by decide) (hts _ tw_266) (fun _ h9 => h9) rfl dX0_worthOf_23 ?_
    refine lv_iload_n hx hb dX0_worthOf_26 rfl (lv_at hl 2 rfl) ?_
    refine lv_iload_n hx hb dX0_worthOf_27 rfl (lv_at hl 3 rfl) ?_
    refine ro_i (D := D) (va_runV (As := [.int (nI rn), .int (nI i)]) (rest := [.int r_1]) ⟨hx, hb, hml, hown, hts⟩ ((y_takingOf l D k st lo h0 h1 h2 h3 h4 n see tm g fp fl rn i (by first | assumption | omega) (by first | assumption | omega)) H.size) (cwV 2 hts (gV tw_556 tw_557 tw_558 tw_81 tw_559) rfl rfl rfl (by decide +kernel) ⟨Nat.le_of_ble_eq_true rfl, Nat.le_of_ble_eq_true rfl⟩) (pV hS hAlo hlo hP hK hDL hZ [0, 1, 3, 4] (by decide) rfl (ci := 5) (q := (RX5, TX5, 4)) (q0 := 0) rfl rfl) rfl rfl hl.1 rfl (lv_room (Nat.le_of_ble_eq_true rfl)) dX0_worthOf_28 ⟨Nat.le_of_ble_eq_true rfl, Nat.le_of_ble_eq_true rfl⟩) hS hA hP (fun r_4 H locs hw_4 hP hS => ?_)
    try dsimp only at hw_4
    refine va_mmin hx hb (by rw [hml]; exact hl.1.symm) hown (hts _ tw_528) (hts _ tw_529) (hts _ tw_93) (hts _ tw_530) (Nat.le_of_ble_eq_true rfl) (Nat.le_of_ble_eq_true rfl) (Nat.le_of_ble_eq_true rfl) (Nat.le_of_ble_eq_true rfl) dX0_worthOf_31 ?_
    refine lv_topi (fun x_5 ex_5 => ?_)
    exact W.iret (v := x_5) hx hb hr (fun t ht hW => ⟨⟨x_5, (), rfl, (by rw [ex_5, hw_1, hw_4, xTake (by omega) (hl9 _ (by omega)), pW_1 hg c_3]; rfl), trivial⟩, hS.F ht⟩) hS.2.2 dX0_worthOf_34
  · rw [ex_2] at c_3
    refine lv_iload hx hb dX0_worthOf_15 (lv_at hl 0 rfl) ?_
    refine lv_goto (tgt := 34) hx hb dX0_worthOf_17 (by decide) ?_
    exact W.iret (v := r_1) hx hb hr (fun t ht hW => ⟨⟨r_1, (), rfl, (hw_1.trans (pW_0 hg c_3).symm), trivial⟩, hS.F ht⟩) hS.2.2 dX0_worthOf_34


set_option maxHeartbeats 4000000 in
set_option maxRecDepth 100000 in
theorem y_reckonEnd (l : Launch) (D : va_G) (k : Nat → ClassId) (st : Nat → Nat) (lo : Nat) (h0 : Nat) (h1 : Nat) (h2 : Nat) (h3 : Nat) (h4 : Nat) (n : Nat) (see : Nat) (tm : Nat) (g : Nat → Int32) (ff : Nat → Int32) (fp : Nat → Int32) (fl : Nat → Int32) (w0 : Nat) (w1 : Nat) (w2 : Nat) (w3 : Nat) (w4 : Nat) (sr : Nat → Int32) (rn : Nat) (hrn : rn ≤ 3) (htm9 : tm ≤ 3) (hl9 : ∀ r, r < 4 → fl r = pLate (sdX n see tm g ff fp) r) : CRi l D k st lo yX0_reckonEnd cX0_reckonEnd 3 (some .int) ({ frames := 1, cells := 0, slots := 0, locals := 60 }) [.ref w0, .int (nI rn)] [(h0, .inr (5, (fX5 h1 h2 h3 h4))), (aI k h1 10 (vv n see tm g)), (aI k h2 24 ff), (aI k h3 24 fp), (aI k h4 4 fl), (w0, .inr (0, (fX0 h0 w1 w2 w3 w4))), (aI k w2 4 sr)] (fun r => r = (if tm ≤ rn then pGar (sdX n see tm g ff fp) rn else pMn (pGar (sdX n see tm g ff fp) rn) (pRnd (sdX n see tm g ff fp) + sr (rn + 1)))) := by
  intro sz
  refine Met.ofW (cc := cX0_reckonEnd) (maxL := 3) (ret := (some .int)) (by decide) rfl ?_
  intro p e s m args below meth c s₁ B hml hv
  obtain ⟨rfl, hsz, hlo, hP, hK, hDL, hZ⟩ := hv
  have hx := B.exec
  have hb := B.bytes
  have hr := B.returns
  have hts := WS_ts B.pre
  have hown : s.vm.findClass RX0 = some m.cls := findClass_of_methodNamed B.named
  have hlocks := B.notSynchronized
  subst hsz
  have hA : ∀ q : Nat, s.heap.size ≤ q → (fun q : Nat => s.heap.size ≤ q) q := fun _ h => h
  have hAlo : ∀ q : Nat, (fun q : Nat => s.heap.size ≤ q) q → lo ≤ q := fun q h => Nat.le_trans hlo h
  have hS : va_S (fun q : Nat => s.heap.size ≤ q) s.heap s.heap [] := va_S.rf
  have hl := lv_entry ([.ref w0, .int (nI rn)]) (n := 3) (Nat.le_of_ble_eq_true rfl)
  rw [lg_entry_eq]
  generalize (lg_sl ([.ref w0, .int (nI rn)]) ++ List.replicate (3 - (lg_sl ([.ref w0, .int (nI rn)])).length) Slot.unset).toArray = ls at hl ⊢
  have hl : lv_has ls 3 [(0, .ref w0), (1, .int (nI rn))] := hl
  refine lv_aload_n hx hb dX0_reckonEnd_0 rfl (lv_at hl 0 rfl) ?_
  refine va_get (D := D) (ci := 0) (v := .ref h0) (C := RX0) (T := TX0) (N := 5) hx hb hts inX0 hown hK hP 5 rfl rfl 0 (by decide) (hts _ tw_266) (fun _ h9 => h9) rfl dX0_reckonEnd_1 ?_
  refine lv_iload_n hx hb dX0_reckonEnd_4 rfl (lv_at hl 1 rfl) ?_
  refine ro_i (D := D) (va_runV (As := [.int (nI rn)]) (rest := []) ⟨hx, hb, hml, hown, hts⟩ ((y_garageOf l D k st lo h0 h1 h2 h3 h4 n see tm g fl rn (by first | assumption | omega)) s.heap.size) (cwV 1 hts (gV tw_520 tw_521 tw_522 tw_81 tw_523) rfl rfl rfl (by decide +kernel) ⟨Nat.le_of_ble_eq_true rfl, Nat.le_of_ble_eq_true rfl⟩) (pV hS hAlo hlo hP hK hDL hZ [0, 1, 4] (by decide) rfl (ci := 5) (q := (RX5, TX5, 4)) (q0 := 0) rfl rfl) rfl rfl hl.1 rfl (lv_room (Nat.le_of_ble_eq_true rfl)) dX0_reckonEnd_5 ⟨Nat.le_of_ble_eq_true rfl, Nat.le_of_ble_eq_true rfl⟩) hS hA hP (fun r_1 H locs hw_1 hP hS => ?_)
  try dsimp only at hw_1
  refine lv_istore_n (lv' := [(2, .int r_1), (0, .ref w0), (1, .int (nI rn))]) hx hb dX0_reckonEnd_8 rfl hl (by decide) rfl (fun ls hl => ?_)
  refine lv_iload_n hx hb dX0_reckonEnd_9 rfl (lv_at hl 2 rfl) ?_
  refine lv_aload_n hx hb dX0_reckonEnd_10 rfl (lv_at hl 1 rfl) ?_
  refine va_get (D := D) (ci := 0) (v := .ref h0) (C := RX0) (T := TX0) (N := 5) hx hb hts inX0 hown hK hP 5 rfl rfl 0 (by decide) (hts _ tw_266) (fun _ h9 => h9) rfl dX0_reckonEnd_11 ?_
  refine va_get (D := D) (ci := 5) (v := .ref h1) (C := RX5) (T := TX5) (N := 4) hx hb hts inX5 hown hK hP 0 rfl rfl 0 (by decide) (hts _ tw_147) (fun _ h9 => h9) rfl dX0_reckonEnd_14 ?_
  refine lv_bipush (v := 8) hx hb dX0_reckonEnd_17 (by decide) ?_
  refine va_iald hx hb hK hP 1 1 rfl rfl (by unfold vp_in; decide) dX0_reckonEnd_19 ?_
  refine lv_ti (y := (nI tm)) (by rfl) ?_
  refine lv_icmp_lt (tgt := 25) hx hb dX0_reckonEnd_20 (by decide) (fun c_2 => ?_) (fun c_2 => ?_)
  · have c_2 := (nI_ltI (a := rn) (b := tm) (by omega) (by omega)).mp c_2
    refine lv_iload_n hx hb dX0_reckonEnd_25 rfl (lv_at hl 0 rfl) ?_
    refine lv_aload_n hx hb dX0_reckonEnd_26 rfl (lv_at hl 1 rfl) ?_
    refine va_get (D := D) (ci := 0) (v := .ref h0) (C := RX0) (T := TX0) (N := 5) hx hb hts inX0 hown hK hP 5 rfl rfl 0 (by decide) (hts _ tw_266) (fun _ h9 => h9) rfl dX0_reckonEnd_27 ?_
    refine ro_i (D := D) (va_runV (As := []) (rest := [.int r_1]) ⟨hx, hb, hml, hown, hts⟩ ((y_roundDrive l D k st lo h0 h1 h2 h3 h4 n see tm g) H.size) (cwV 0 hts (gV tw_524 tw_525 tw_526 tw_81 tw_527) rfl rfl rfl (by decide +kernel) ⟨Nat.le_of_ble_eq_true rfl, Nat.le_of_ble_eq_true rfl⟩) (pV hS hAlo hlo hP hK hDL hZ [0, 1] (by decide) rfl (ci := 5) (q := (RX5, TX5, 4)) (q0 := 0) rfl rfl) rfl rfl hl.1 rfl (lv_room (Nat.le_of_ble_eq_true rfl)) dX0_reckonEnd_30 ⟨Nat.le_of_ble_eq_true rfl, Nat.le_of_ble_eq_true rfl⟩) hS hA hP (fun r_3 H locs hw_3 hP hS => ?_)
    try dsimp only at hw_3
    refine lv_aload_n hx hb dX0_reckonEnd_33 rfl (lv_at hl 1 rfl) ?_
    refine va_get (D := D) (ci := 0) (v := .ref w2) (C := RX0) (T := TX0) (N := 5) hx hb hts inX0 hown hK hP 5 rfl rfl 2 (by decide) (hts _ tw_268) (fun _ h9 => h9) rfl dX0_reckonEnd_34 ?_
    refine lv_iload_n hx hb dX0_reckonEnd_37 rfl (lv_at hl 2 rfl) ?_
    refine lv_iconst (v := 1) hx hb dX0_reckonEnd_38 (by decide) ?_
    refine lv_iadd hx hb dX0_reckonEnd_39 ?_
    refine lv_ti (y := (nI (rn + 1))) (nI_add rn 1) ?_
    refine va_iald hx hb hK hP 6 1 rfl rfl (vp_in_nI (by omega) (by decide)) dX0_reckonEnd_40 ?_
    refine lv_ti (y := (sr (rn + 1))) (by rw [nI_clamp (by omega)]) ?_
    refine lv_iadd hx hb dX0_reckonEnd_41 ?_
    refine lv_topi (fun x_4 ex_4 => ?_)
    refine va_mmin hx hb (by rw [hml]; exact hl.1.symm) hown (hts _ tw_528) (hts _ tw_529) (hts _ tw_93) (hts _ tw_530) (Nat.le_of_ble_eq_true rfl) (Nat.le_of_ble_eq_true rfl) (Nat.le_of_ble_eq_true rfl) (Nat.le_of_ble_eq_true rfl) dX0_reckonEnd_42 ?_
    refine lv_topi (fun x_5 ex_5 => ?_)
    exact W.iret (v := x_5) hx hb hr (fun t ht hW => ⟨⟨x_5, (), rfl, (by rw [if_neg (by omega), ex_5, ex_4, hw_1, hw_3, xGar (hl9 _ (by omega)), xRnd (n := n) (see := see) (tm := tm) (ff := ff) (fp := fp)]; rfl), trivial⟩, hS.F ht⟩) hS.2.2 dX0_reckonEnd_45
  · have c_2 : ¬ (rn < tm) := fun h => c_2 ((nI_ltI (a := rn) (b := tm) (by omega) (by omega)).mpr h)
    refine lv_iload_n hx hb dX0_reckonEnd_23 rfl (lv_at hl 0 rfl) ?_
    exact W.iret (v := r_1) hx hb hr (fun t ht hW => ⟨⟨r_1, (), rfl, (by rw [if_pos (by omega), hw_1]; exact xGar (hl9 _ (by omega))), trivial⟩, hS.F ht⟩) hS.2.2 dX0_reckonEnd_24


set_option maxHeartbeats 4000000 in
set_option maxRecDepth 100000 in
theorem y_reckonNext (l : Launch) (D : va_G) (k : Nat → ClassId) (st : Nat → Nat) (lo : Nat) (h0 : Nat) (h1 : Nat) (h2 : Nat) (h3 : Nat) (h4 : Nat) (n : Nat) (see : Nat) (tm : Nat) (g : Nat → Int32) (ff : Nat → Int32) (fp : Nat → Int32) (fl : Nat → Int32) (w0 : Nat) (w1 : Nat) (w2 : Nat) (w3 : Nat) (w4 : Nat) (on : Nat → Int32) (rn : Nat) (i : Nat) (gg : Nat) (hn : n ≤ 24) (hsee : see ≤ 2) (hrn : rn ≤ 3) (hi : i + 1 < n) (hg : gg < 2 ^ sqN see n i) (hg8 : gg < 8) (hl9 : ∀ r, r < 4 → fl r = pLate (sdX n see tm g ff fp) r) (hok9 : okD (sdX n see tm g ff fp)) : CRi l D k st lo yX0_reckonNext cX0_reckonNext 8 (some .int) ({ frames := 3, cells := 0, slots := 0, locals := 84 }) [.ref w0, .int (nI rn), .int (nI i), .int (nI gg)] [(h0, .inr (5, (fX5 h1 h2 h3 h4))), (aI k h1 10 (vv n see tm g)), (aI k h2 24 ff), (aI k h3 24 fp), (aI k h4 4 fl), (w0, .inr (0, (fX0 h0 w1 w2 w3 w4))), (aI k w1 768 on)] (fun r => r = pNx (sdX n see tm g ff fp) see i (fun h => pW (sdX n see tm g ff fp) rn (i + 1) (on (slN rn (i + 1) h)) h) gg) := by
  intro sz
  refine Met.ofW (cc := cX0_reckonNext) (maxL := 8) (ret := (some .int)) (by decide) rfl ?_
  intro p e s m args below meth c s₁ B hml hv
  obtain ⟨rfl, hsz, hlo, hP, hK, hDL, hZ⟩ := hv
  have hx := B.exec
  have hb := B.bytes
  have hr := B.returns
  have hts := WS_ts B.pre
  have hown : s.vm.findClass RX0 = some m.cls := findClass_of_methodNamed B.named
  have hlocks := B.notSynchronized
  subst hsz
  have hA : ∀ q : Nat, s.heap.size ≤ q → (fun q : Nat => s.heap.size ≤ q) q := fun _ h => h
  have hAlo : ∀ q : Nat, (fun q : Nat => s.heap.size ≤ q) q → lo ≤ q := fun q h => Nat.le_trans hlo h
  have hS : va_S (fun q : Nat => s.heap.size ≤ q) s.heap s.heap [] := va_S.rf
  have hl := lv_entry ([.ref w0, .int (nI rn), .int (nI i), .int (nI gg)]) (n := 8) (Nat.le_of_ble_eq_true rfl)
  rw [lg_entry_eq]
  generalize (lg_sl ([.ref w0, .int (nI rn), .int (nI i), .int (nI gg)]) ++ List.replicate (8 - (lg_sl ([.ref w0, .int (nI rn), .int (nI i), .int (nI gg)])).length) Slot.unset).toArray = ls at hl ⊢
  have hl : lv_has ls 8 [(0, .ref w0), (1, .int (nI rn)), (2, .int (nI i)), (3, .int (nI gg))] := hl
  refine lv_aload_n hx hb dX0_reckonNext_0 rfl (lv_at hl 0 rfl) ?_
  refine va_get (D := D) (ci := 0) (v := .ref h0) (C := RX0) (T := TX0) (N := 5) hx hb hts inX0 hown hK hP 5 rfl rfl 0 (by decide) (hts _ tw_266) (fun _ h9 => h9) rfl dX0_reckonNext_1 ?_
  refine va_get (D := D) (ci := 5) (v := .ref h1) (C := RX5) (T := TX5) (N := 4) hx hb hts inX5 hown hK hP 0 rfl rfl 0 (by decide) (hts _ tw_147) (fun _ h9 => h9) rfl dX0_reckonNext_4 ?_
  refine lv_bipush (v := 6) hx hb dX0_reckonNext_7 (by decide) ?_
  refine va_iald hx hb hK hP 1 1 rfl rfl (by unfold vp_in; decide) dX0_reckonNext_9 ?_
  refine lv_ti (y := (nI see)) (by rfl) ?_
  refine lv_istore (lv' := [(4, .int (nI see)), (0, .ref w0), (1, .int (nI rn)), (2, .int (nI i)), (3, .int (nI gg))]) hx hb dX0_reckonNext_10 hl (by decide) rfl (fun ls hl => ?_)
  refine lv_iload_n hx hb dX0_reckonNext_12 rfl (lv_at hl 3 rfl) ?_
  refine lv_iconst (v := 1) hx hb dX0_reckonNext_13 (by decide) ?_
  refine lv_iadd hx hb dX0_reckonNext_14 ?_
  refine lv_ti (y := (nI (i + 1))) (nI_add i 1) ?_
  refine lv_istore (lv' := [(5, .int (nI (i + 1))), (4, .int (nI see)), (0, .ref w0), (1, .int (nI rn)), (2, .int (nI i)), (3, .int (nI gg))]) hx hb dX0_reckonNext_15 hl (by decide) rfl (fun ls hl => ?_)
  refine lv_iload_n hx hb dX0_reckonNext_17 rfl (lv_at hl 5 rfl) ?_
  refine lv_iconst (v := 1) hx hb dX0_reckonNext_18 (by decide) ?_
  refine lv_ishr hx hb dX0_reckonNext_19 ?_
  refine lv_ti (y := (nI (gg / 2))) (pk_shrN (by omega) _ 1 (by decide)) ?_
  refine lv_istore (lv' := [(6, .int (nI (gg / 2))), (5, .int (nI (i + 1))), (4, .int (nI see)), (0, .ref w0), (1, .int (nI rn)), (2, .int (nI i)), (3, .int (nI gg))]) hx hb dX0_reckonNext_20 hl (by decide) rfl (fun ls hl => ?_)
  refine lv_iload hx hb dX0_reckonNext_22 (lv_at hl 1 rfl) ?_
  refine lv_iload hx hb dX0_reckonNext_24 (lv_at hl 2 rfl) ?_
  refine lv_iadd hx hb dX0_reckonNext_26 ?_
  refine lv_ti (y := (nI (i + 1 + see))) (nI_add (i + 1) see) ?_
  refine lv_aload_n hx hb dX0_reckonNext_27 rfl (lv_at hl 3 rfl) ?_
  refine va_get (D := D) (ci := 0) (v := .ref h0) (C := RX0) (T := TX0) (N := 5) hx hb hts inX0 hown hK hP 5 rfl rfl 0 (by decide) (hts _ tw_266) (fun _ h9 => h9) rfl dX0_reckonNext_28 ?_
  refine ro_i (D := D) (va_runV (As := []) (rest := [.int (nI (i + 1 + see))]) ⟨hx, hb, hml, hown, hts⟩ ((x_doors l D k st lo h0 h1 h2 h3 h4 n see tm g) s.heap.size) (cwV 0 hts (gV tw_531 tw_478 tw_479 tw_81 tw_480) rfl rfl rfl (by decide +kernel) ⟨Nat.le_of_ble_eq_true rfl, Nat.le_of_ble_eq_true rfl⟩) (pV hS hAlo hlo hP hK hDL hZ [0, 1] (by decide) rfl (ci := 5) (q := (RX5, TX5, 4)) (q0 := 0) rfl rfl) rfl rfl hl.1 rfl (lv_room (Nat.le_of_ble_eq_true rfl)) dX0_reckonNext_31 ⟨Nat.le_of_ble_eq_true rfl, Nat.le_of_ble_eq_true rfl⟩) hS hA hP (fun r_1 H locs hw_1 hP hS => ?_)
  try dsimp only at hw_1
  subst hw_1
  refine lv_icmp_lt (tgt := 47) hx hb dX0_reckonNext_34 (by decide) (fun c_2 => ?_) (fun c_2 => ?_)
  · have c_2 := (nI_ltI (a := (i + 1 + see)) (b := n) (by omega) (by omega)).mp c_2
    have hgh_9 : gg / 2 < 2 ^ see := half_lt (by rw [← (sq_in (show i + 1 + see < n by omega)).1]; exact hg)
    have hp4_9 := (p8 (show see ≤ 3 by omega))
    have hp5_9 := pw4 (show see ≤ 2 by omega)
    refine lv_aload_n hx hb dX0_reckonNext_47 rfl (lv_at hl 3 rfl) ?_
    refine va_get (D := D) (ci := 0) (v := .ref h0) (C := RX0) (T := TX0) (N := 5) hx hb hts inX0 hown hK hP 5 rfl rfl 0 (by decide) (hts _ tw_266) (fun _ h9 => h9) rfl dX0_reckonNext_48 ?_
    refine lv_iload hx hb dX0_reckonNext_51 (lv_at hl 1 rfl) ?_
    refine lv_iload hx hb dX0_reckonNext_53 (lv_at hl 2 rfl) ?_
    refine lv_iadd hx hb dX0_reckonNext_55 ?_
    refine lv_ti (y := (nI (i + 1 + see))) (nI_add (i + 1) see) ?_
    refine lv_iload_n hx hb dX0_reckonNext_56 rfl (lv_at hl 6 rfl) ?_
    refine lv_iload hx hb dX0_reckonNext_57 (lv_at hl 2 rfl) ?_
    refine lv_ishr hx hb dX0_reckonNext_59 ?_
    refine lv_topi (fun x_3 ex_3 => ?_)
    refine lv_iconst (v := 1) hx hb dX0_reckonNext_60 (by decide) ?_
    refine lv_iand hx hb dX0_reckonNext_61 ?_
    refine lv_topi (fun x_4 ex_4 => ?_)
    refine lv_if_eq (tgt := 69) hx hb dX0_reckonNext_62 (by decide) (fun c_5 => ?_) (fun c_5 => ?_)
    · rw [ex_4, ex_3] at c_5
      refine lv_iconst (v := 0) hx hb dX0_reckonNext_69 (by decide) ?_
      refine ro_i (D := D) (va_runV (As := [.int (nI (i + 1 + see)), .int 0]) (rest := []) ⟨hx, hb, hml, hown, hts⟩ ((y_chanceOf l D k st lo h0 h1 h2 h3 h4 n see tm g ff (i + 1 + see) 0 (by first | assumption | omega)) H.size) (cwV 2 hts (gV tw_564 tw_565 tw_566 tw_81 tw_567) rfl rfl rfl (by decide +kernel) ⟨Nat.le_of_ble_eq_true rfl, Nat.le_of_ble_eq_true rfl⟩) (pV hS hAlo hlo hP hK hDL hZ [0, 1, 2] (by decide) rfl (ci := 5) (q := (RX5, TX5, 4)) (q0 := 0) rfl rfl) rfl rfl hl.1 rfl (lv_room (Nat.le_of_ble_eq_true rfl)) dX0_reckonNext_70 ⟨Nat.le_of_ble_eq_true rfl, Nat.le_of_ble_eq_true rfl⟩) hS hA hP (fun r_6 H locs hw_6 hP hS => ?_)
      try dsimp only at hw_6
      refine lv_istore (lv' := [(7, .int r_6), (6, .int (nI (gg / 2))), (5, .int (nI (i + 1))), (4, .int (nI see)), (0, .ref w0), (1, .int (nI rn)), (2, .int (nI i)), (3, .int (nI gg))]) hx hb dX0_reckonNext_73 hl (by decide) rfl (fun ls hl => ?_)
      refine lv_iload hx hb dX0_reckonNext_75 (lv_at hl 0 rfl) ?_
      refine lv_aload_n hx hb dX0_reckonNext_77 rfl (lv_at hl 4 rfl) ?_
      refine lv_iload_n hx hb dX0_reckonNext_78 rfl (lv_at hl 5 rfl) ?_
      refine lv_iload hx hb dX0_reckonNext_79 (lv_at hl 2 rfl) ?_
      refine lv_iload hx hb dX0_reckonNext_81 (lv_at hl 1 rfl) ?_
      refine lv_iconst (v := 1) hx hb dX0_reckonNext_83 (by decide) ?_
      refine lv_iload hx hb dX0_reckonNext_84 (lv_at hl 3 rfl) ?_
      refine lv_ishl hx hb dX0_reckonNext_86 ?_
      refine lv_ti (y := (nI (2 ^ see))) (shl1 see (by omega)) ?_
      refine lv_ior hx hb dX0_reckonNext_87 ?_
      refine lv_ti (y := (nI (gg / 2 + 2 ^ see))) (or_bit2 see (by omega) (gg / 2) (by omega)) ?_
      refine ro_i (D := D) (va_runV (As := [.int (nI rn), .int (nI (i + 1)), .int (nI (gg / 2 + 2 ^ see))]) (rest := [.int r_6]) ⟨hx, hb, hml, hown, hts⟩ ((y_worthOf l D k st lo h0 h1 h2 h3 h4 n see tm g ff fp fl w0 w1 w2 w3 w4 on rn (i + 1) (gg / 2 + 2 ^ see) (by first | assumption | omega) (by first | assumption | omega) (by first | assumption | omega) (by omega) hl9) H.size) (cwV 3 hts (gV tw_545 tw_546 tw_547 tw_85 tw_548) rfl rfl rfl (by decide +kernel) ⟨Nat.le_of_ble_eq_true rfl, Nat.le_of_ble_eq_true rfl⟩) (pV hS hAlo hlo hP hK hDL hZ [0, 1, 2, 3, 4, 5, 6] (by decide) rfl (ci := 0) (q := (RX0, TX0, 5)) (q0 := 5) rfl rfl) rfl rfl hl.1 rfl (lv_room (Nat.le_of_ble_eq_true rfl)) dX0_reckonNext_88 ⟨Nat.le_of_ble_eq_true rfl, Nat.le_of_ble_eq_true rfl⟩) hS hA hP (fun r_7 H locs hw_7 hP hS => ?_)
      try dsimp only at hw_7
      refine lv_aload_n hx hb dX0_reckonNext_91 rfl (lv_at hl 4 rfl) ?_
      refine lv_iload_n hx hb dX0_reckonNext_92 rfl (lv_at hl 5 rfl) ?_
      refine lv_iload hx hb dX0_reckonNext_93 (lv_at hl 2 rfl) ?_
      refine lv_iload hx hb dX0_reckonNext_95 (lv_at hl 1 rfl) ?_
      refine ro_i (D := D) (va_runV (As := [.int (nI rn), .int (nI (i + 1)), .int (nI (gg / 2))]) (rest := [.int r_7, .int r_6]) ⟨hx, hb, hml, hown, hts⟩ ((y_worthOf l D k st lo h0 h1 h2 h3 h4 n see tm g ff fp fl w0 w1 w2 w3 w4 on rn (i + 1) (gg / 2) (by first | assumption | omega) (by first | assumption | omega) (by first | assumption | omega) (by omega) hl9) H.size) (cwV 3 hts (gV tw_545 tw_546 tw_547 tw_85 tw_548) rfl rfl rfl (by decide +kernel) ⟨Nat.le_of_ble_eq_true rfl, Nat.le_of_ble_eq_true rfl⟩) (pV hS hAlo hlo hP hK hDL hZ [0, 1, 2, 3, 4, 5, 6] (by decide) rfl (ci := 0) (q := (RX0, TX0, 5)) (q0 := 5) rfl rfl) rfl rfl hl.1 rfl (lv_room (Nat.le_of_ble_eq_true rfl)) dX0_reckonNext_97 ⟨Nat.le_of_ble_eq_true rfl, Nat.le_of_ble_eq_true rfl⟩) hS hA hP (fun r_8 H locs hw_8 hP hS => ?_)
      try dsimp only at hw_8
      refine ro_i (D := D) (va_runSN (As := [.int r_6, .int r_7, .int r_8]) (rest := []) ⟨hx, hb, hml, hown, hts⟩ ((y_mixed l D k st lo r_6 r_7 r_8) H.size) ⟨va_cnB 3 hts (gLW tw_570) rfl rfl rfl (hZ.2.2.2.2.2.2.2.2.1.1 (RX0, 80, yX7_mixed, RX7) (List.mem_of_getElem? (i := 5) rfl)) (hts _ tw_79) (by decide +kernel) ⟨Nat.le_of_ble_eq_true rfl, Nat.le_of_ble_eq_true rfl⟩, hts _ tw_569, trivial⟩ (pS hS hAlo hlo hP hK hDL hZ [] (by decide) rfl) rfl rfl hl.1 rfl (lv_room (Nat.le_of_ble_eq_true rfl)) dX0_reckonNext_100 ⟨Nat.le_of_ble_eq_true rfl, Nat.le_of_ble_eq_true rfl⟩) hS hA hP (fun r_9 H locs hw_9 hP hS => ?_)
      try dsimp only at hw_9
      exact W.iret (v := r_9) hx hb hr (fun t ht hW => ⟨⟨r_9, (), rfl, nx_1 (W := fun h => pW (sdX n see tm g ff fp) rn (i + 1) (on (slN rn (i + 1) h)) h) (show i + 1 + see < n by omega) (by rw [(pb_0 (by omega) hg8 c_5)]; exact hw_6.trans (xChance (by omega) (okX hok9 (by omega)))) hw_7 hw_8 hw_9, trivial⟩, hS.F ht⟩) hS.2.2 dX0_reckonNext_103
    · rw [ex_4, ex_3] at c_5
      refine lv_iconst (v := 1) hx hb dX0_reckonNext_65 (by decide) ?_
      refine lv_goto (tgt := 70) hx hb dX0_reckonNext_66 (by decide) ?_
      refine ro_i (D := D) (va_runV (As := [.int (nI (i + 1 + see)), .int 1]) (rest := []) ⟨hx, hb, hml, hown, hts⟩ ((y_chanceOf l D k st lo h0 h1 h2 h3 h4 n see tm g ff (i + 1 + see) 1 (by first | assumption | omega)) H.size) (cwV 2 hts (gV tw_564 tw_565 tw_566 tw_81 tw_567) rfl rfl rfl (by decide +kernel) ⟨Nat.le_of_ble_eq_true rfl, Nat.le_of_ble_eq_true rfl⟩) (pV hS hAlo hlo hP hK hDL hZ [0, 1, 2] (by decide) rfl (ci := 5) (q := (RX5, TX5, 4)) (q0 := 0) rfl rfl) rfl rfl hl.1 rfl (lv_room (Nat.le_of_ble_eq_true rfl)) dX0_reckonNext_70 ⟨Nat.le_of_ble_eq_true rfl, Nat.le_of_ble_eq_true rfl⟩) hS hA hP (fun r_10 H locs hw_10 hP hS => ?_)
      try dsimp only at hw_10
      refine lv_istore (lv' := [(7, .int r_10), (6, .int (nI (gg / 2))), (5, .int (nI (i + 1))), (4, .int (nI see)), (0, .ref w0), (1, .int (nI rn)), (2, .int (nI i)), (3, .int (nI gg))]) hx hb dX0_reckonNext_73 hl (by decide) rfl (fun ls hl => ?_)
      refine lv_iload hx hb dX0_reckonNext_75 (lv_at hl 0 rfl) ?_
      refine lv_aload_n hx hb dX0_reckonNext_77 rfl (lv_at hl 4 rfl) ?_
      refine lv_iload_n hx hb dX0_reckonNext_78 rfl (lv_at hl 5 rfl) ?_
      refine lv_iload hx hb dX0_reckonNext_79 (lv_at hl 2 rfl) ?_
      refine lv_iload hx hb dX0_reckonNext_81 (lv_at hl 1 rfl) ?_
      refine lv_iconst (v := 1) hx hb dX0_reckonNext_83 (by decide) ?_
      refine lv_iload hx hb dX0_reckonNext_84 (lv_at hl 3 rfl) ?_
      refine lv_ishl hx hb dX0_reckonNext_86 ?_
      refine lv_ti (y := (nI (2 ^ see))) (shl1 see (by omega)) ?_
      refine lv_ior hx hb dX0_reckonNext_87 ?_
      refine lv_ti (y := (nI (gg / 2 + 2 ^ see))) (or_bit2 see (by omega) (gg / 2) (by omega)) ?_
      refine ro_i (D := D) (va_runV (As := [.int (nI rn), .int (nI (i + 1)), .int (nI (gg / 2 + 2 ^ see))]) (rest := [.int r_10]) ⟨hx, hb, hml, hown, hts⟩ ((y_worthOf l D k st lo h0 h1 h2 h3 h4 n see tm g ff fp fl w0 w1 w2 w3 w4 on rn (i + 1) (gg / 2 + 2 ^ see) (by first | assumption | omega) (by first | assumption | omega) (by first | assumption | omega) (by omega) hl9) H.size) (cwV 3 hts (gV tw_545 tw_546 tw_547 tw_85 tw_548) rfl rfl rfl (by decide +kernel) ⟨Nat.le_of_ble_eq_true rfl, Nat.le_of_ble_eq_true rfl⟩) (pV hS hAlo hlo hP hK hDL hZ [0, 1, 2, 3, 4, 5, 6] (by decide) rfl (ci := 0) (q := (RX0, TX0, 5)) (q0 := 5) rfl rfl) rfl rfl hl.1 rfl (lv_room (Nat.le_of_ble_eq_true rfl)) dX0_reckonNext_88 ⟨Nat.le_of_ble_eq_true rfl, Nat.le_of_ble_eq_true rfl⟩) hS hA hP (fun r_11 H locs hw_11 hP hS => ?_)
      try dsimp only at hw_11
      refine lv_aload_n hx hb dX0_reckonNext_91 rfl (lv_at hl 4 rfl) ?_
      refine lv_iload_n hx hb dX0_reckonNext_92 rfl (lv_at hl 5 rfl) ?_
      refine lv_iload hx hb dX0_reckonNext_93 (lv_at hl 2 rfl) ?_
      refine lv_iload hx hb dX0_reckonNext_95 (lv_at hl 1 rfl) ?_
      refine ro_i (D := D) (va_runV (As := [.int (nI rn), .int (nI (i + 1)), .int (nI (gg / 2))]) (rest := [.int r_11, .int r_10]) ⟨hx, hb, hml, hown, hts⟩ ((y_worthOf l D k st lo h0 h1 h2 h3 h4 n see tm g ff fp fl w0 w1 w2 w3 w4 on rn (i + 1) (gg / 2) (by first | assumption | omega) (by first | assumption | omega) (by first | assumption | omega) (by omega) hl9) H.size) (cwV 3 hts (gV tw_545 tw_546 tw_547 tw_85 tw_548) rfl rfl rfl (by decide +kernel) ⟨Nat.le_of_ble_eq_true rfl, Nat.le_of_ble_eq_true rfl⟩) (pV hS hAlo hlo hP hK hDL hZ [0, 1, 2, 3, 4, 5, 6] (by decide) rfl (ci := 0) (q := (RX0, TX0, 5)) (q0 := 5) rfl rfl) rfl rfl hl.1 rfl (lv_room (Nat.le_of_ble_eq_true rfl)) dX0_reckonNext_97 ⟨Nat.le_of_ble_eq_true rfl, Nat.le_of_ble_eq_true rfl⟩) hS hA hP (fun r_12 H locs hw_12 hP hS => ?_)
      try dsimp only at hw_12
      refine ro_i (D := D) (va_runSN (As := [.int r_10, .int r_11, .int r_12]) (rest := []) ⟨hx, hb, hml, hown, hts⟩ ((y_mixed l D k st lo r_10 r_11 r_12) H.size) ⟨va_cnB 3 hts (gLW tw_570) rfl rfl rfl (hZ.2.2.2.2.2.2.2.2.1.1 (RX0, 80, yX7_mixed, RX7) (List.mem_of_getElem? (i := 5) rfl)) (hts _ tw_79) (by decide +kernel) ⟨Nat.le_of_ble_eq_true rfl, Nat.le_of_ble_eq_true rfl⟩, hts _ tw_569, trivial⟩ (pS hS hAlo hlo hP hK hDL hZ [] (by decide) rfl) rfl rfl hl.1 rfl (lv_room (Nat.le_of_ble_eq_true rfl)) dX0_reckonNext_100 ⟨Nat.le_of_ble_eq_true rfl, Nat.le_of_ble_eq_true rfl⟩) hS hA hP (fun r_13 H locs hw_13 hP hS => ?_)
      try dsimp only at hw_13
      exact W.iret (v := r_13) hx hb hr (fun t ht hW => ⟨⟨r_13, (), rfl, nx_1 (W := fun h => pW (sdX n see tm g ff fp) rn (i + 1) (on (slN rn (i + 1) h)) h) (show i + 1 + see < n by omega) (by rw [(pb_1 (by omega) hg8 c_5)]; exact hw_10.trans (xChance (by omega) (okX hok9 (by omega)))) hw_11 hw_12 hw_13, trivial⟩, hS.F ht⟩) hS.2.2 dX0_reckonNext_103
  · have c_2 : ¬ ((i + 1 + see) < n) := fun h => c_2 ((nI_ltI (a := (i + 1 + see)) (b := n) (by omega) (by omega)).mpr h)
    refine lv_aload_n hx hb dX0_reckonNext_37 rfl (lv_at hl 3 rfl) ?_
    refine lv_iload_n hx hb dX0_reckonNext_38 rfl (lv_at hl 4 rfl) ?_
    refine lv_iload hx hb dX0_reckonNext_39 (lv_at hl 1 rfl) ?_
    refine lv_iload hx hb dX0_reckonNext_41 (lv_at hl 0 rfl) ?_
    refine ro_i (D := D) (va_runV (As := [.int (nI rn), .int (nI (i + 1)), .int (nI (gg / 2))]) (rest := []) ⟨hx, hb, hml, hown, hts⟩ ((y_worthOf l D k st lo h0 h1 h2 h3 h4 n see tm g ff fp fl w0 w1 w2 w3 w4 on rn (i + 1) (gg / 2) (by first | assumption | omega) (by first | assumption | omega) (by first | assumption | omega) (by omega) hl9) H.size) (cwV 3 hts (gV tw_545 tw_546 tw_547 tw_85 tw_548) rfl rfl rfl (by decide +kernel) ⟨Nat.le_of_ble_eq_true rfl, Nat.le_of_ble_eq_true rfl⟩) (pV hS hAlo hlo hP hK hDL hZ [0, 1, 2, 3, 4, 5, 6] (by decide) rfl (ci := 0) (q := (RX0, TX0, 5)) (q0 := 5) rfl rfl) rfl rfl hl.1 rfl (lv_room (Nat.le_of_ble_eq_true rfl)) dX0_reckonNext_43 ⟨Nat.le_of_ble_eq_true rfl, Nat.le_of_ble_eq_true rfl⟩) hS hA hP (fun r_14 H locs hw_14 hP hS => ?_)
    try dsimp only at hw_14
    exact W.iret (v := r_14) hx hb hr (fun t ht hW => ⟨⟨r_14, (), rfl, nx_0 (W := fun h => pW (sdX n see tm g ff fp) rn (i + 1) (on (slN rn (i + 1) h)) h) (show ¬ i + 1 + see < n by omega) hw_14, trivial⟩, hS.F ht⟩) hS.2.2 dX0_reckonNext_46


set_option maxHeartbeats 4000000 in
set_option maxRecDepth 100000 in
theorem y_reckonDoor (l : Launch) (D : va_G) (k : Nat → ClassId) (st : Nat → Nat) (lo : Nat) (h0 : Nat) (h1 : Nat) (h2 : Nat) (h3 : Nat) (h4 : Nat) (n : Nat) (see : Nat) (tm : Nat) (g : Nat → Int32) (ff : Nat → Int32) (fp : Nat → Int32) (fl : Nat → Int32) (w0 : Nat) (w1 : Nat) (w2 : Nat) (w3 : Nat) (w4 : Nat) (on : Nat → Int32) (en : Nat → Int32) (rn : Nat) (i : Nat) (hn : n ≤ 24) (hsee : see ≤ 2) (hrn : rn ≤ 3) (hi : i < n) (hl9 : ∀ r, r < 4 → fl r = pLate (sdX n see tm g ff fp) r) (hok9 : okD (sdX n see tm g ff fp)) (hon1 : onOK (sdX n see tm g ff fp) see rn (en rn) (i + 1) on) : CWv l D k st lo yX0_reckonDoor cX0_reckonDoor 6 none ({ frames := 4, cells := 0, slots := 0, locals := 111 }) 0 0 [.ref w0, .int (nI rn), .int (nI i)] [(h0, .inr (5, (fX5 h1 h2 h3 h4))), (aI k h1 10 (vv n see tm g)), (aI k h2 24 ff), (aI k h3 24 fp), (aI k h4 4 fl), (w0, .inr (0, (fX0 h0 w1 w2 w3 w4))), (aI k w1 768 on), (aI k w3 4 en)] (fun (on_ : (Nat → Int32)) => onOK (sdX n see tm g ff fp) see rn (en rn) i on_ ∧ (∀ x, ¬ (192 * rn ≤ x ∧ x < 192 * rn + 192) → on_ x = on x)) (fun (on_ : (Nat → Int32)) => [(h0, .inr (5, (fX5 h1 h2 h3 h4))), (aI k h1 10 (vv n see tm g)), (aI k h2 24 ff), (aI k h3 24 fp), (aI k h4 4 fl), (w0, .inr (0, (fX0 h0 w1 w2 w3 w4))), (aI k w1 768 on_), (aI k w3 4 en)]) := by
  intro sz
  refine Met.ofW (cc := cX0_reckonDoor) (maxL := 6) (ret := none) (by decide) rfl ?_
  intro p e s m args below meth c s₁ B hml hv
  obtain ⟨rfl, hsz, hlo, hP, hK, hDL, hZ⟩ := hv
  have hx := B.exec
  have hb := B.bytes
  have hr := B.returns
  have hts := WS_ts B.pre
  have hown : s.vm.findClass RX0 = some m.cls := findClass_of_methodNamed B.named
  have hlocks := B.notSynchronized
  subst hsz
  have hD := hDL.self (sz := s.heap.size)
  have hAlo := A_lo hDL hlo
  generalize hAe : va_A [(h0, .inr (5, (fX5 h1 h2 h3 h4))), (aI k h1 10 (vv n see tm g)), (aI k h2 24 ff), (aI k h3 24 fp), (aI k h4 4 fl), (w0, .inr (0, (fX0 h0 w1 w2 w3 w4))), (aI k w1 768 on), (aI k w3 4 en)] s.heap.size = A at hD hAlo ⊢
  have hA : ∀ q : Nat, s.heap.size ≤ q → A q := fun q h => by rw [← hAe]; exact Or.inr h
  have hS : va_S A s.heap s.heap [] := va_S.rf
  have hl := lv_entry ([.ref w0, .int (nI rn), .int (nI i)]) (n := 6) (Nat.le_of_ble_eq_true rfl)
  rw [lg_entry_eq]
  generalize (lg_sl ([.ref w0, .int (nI rn), .int (nI i)]) ++ List.replicate (6 - (lg_sl ([.ref w0, .int (nI rn), .int (nI i)])).length) Slot.unset).toArray = ls at hl ⊢
  have hl : lv_has ls 6 [(0, .ref w0), (1, .int (nI rn)), (2, .int (nI i))] := hl
  have hp8_9 := p8 (sq_le (see := see) (n := n) (i := i) hsee)
  refine lv_iload_n hx hb dX0_reckonDoor_0 rfl (lv_at hl 2 rfl) ?_
  refine lv_aload_n hx hb dX0_reckonDoor_1 rfl (lv_at hl 0 rfl) ?_
  refine va_get (D := D) (ci := 0) (v := .ref h0) (C := RX0) (T := TX0) (N := 5) hx hb hts inX0 hown hK hP 5 rfl rfl 0 (by decide) (hts _ tw_266) (fun _ h9 => h9) rfl dX0_reckonDoor_2 ?_
  refine ro_i (D := D) (va_runV (As := []) (rest := [.int (nI i)]) ⟨hx, hb, hml, hown, hts⟩ ((x_doors l D k st lo h0 h1 h2 h3 h4 n see tm g) s.heap.size) (cwV 0 hts (gV tw_531 tw_478 tw_479 tw_81 tw_480) rfl rfl rfl (by decide +kernel) ⟨Nat.le_of_ble_eq_true rfl, Nat.le_of_ble_eq_true rfl⟩) (pV hS hAlo hlo hP hK (va_Dlo hD hAlo) hZ [0, 1] (by decide) rfl (ci := 5) (q := (RX5, TX5, 4)) (q0 := 0) rfl rfl) rfl rfl hl.1 rfl (lv_room (Nat.le_of_ble_eq_true rfl)) dX0_reckonDoor_5 ⟨Nat.le_of_ble_eq_true rfl, Nat.le_of_ble_eq_true rfl⟩) hS hA hP (fun r_1 H locs hw_1 hP hS => ?_)
  try dsimp only at hw_1
  subst hw_1
  refine lv_iconst (v := 1) hx hb dX0_reckonDoor_8 (by decide) ?_
  refine lv_isub hx hb dX0_reckonDoor_9 ?_
  refine lv_ti (y := (nI (n - 1))) (pk_sub (a := n) (b := 1) (by omega)) ?_
  refine lv_icmp_ne (tgt := 17) hx hb dX0_reckonDoor_10 (by decide) (fun c_2 => ?_) (fun c_2 => ?_)
  · have c_2 : ¬ (i = (n - 1)) := fun h => c_2 ((nI_eq (a := i) (b := (n - 1)) (by omega) (by omega)).mpr h)
    refine lv_iconst (v := 0) hx hb dX0_reckonDoor_17 (by decide) ?_
    refine lv_istore_n (lv' := [(3, .int 0), (0, .ref w0), (1, .int (nI rn)), (2, .int (nI i))]) hx hb dX0_reckonDoor_18 rfl hl (by decide) rfl (fun ls hl => ?_)
    refine lv_iconst (v := 0) hx hb dX0_reckonDoor_19 (by decide) ?_
    refine lv_istore (lv' := [(4, .int 0), (3, .int 0), (0, .ref w0), (1, .int (nI rn)), (2, .int (nI i))]) hx hb dX0_reckonDoor_20 hl (by decide) rfl (fun ls hl => ?_)
    refine W_loop (σ := Nat × (Nat → Int32)) (fun (n_ : Nat) (x_ : Nat × (Nat → Int32)) (H : Heap) (locs : List Loc) (ls : Array Slot) => match x_ with | (g2_3, on2_3) => n_ = 2 ^ sqN see n i - g2_3 ∧ (g2_3 ≤ 2 ^ sqN see n i ∧ onOK (sdX n see tm g ff fp) see rn (en rn) (i + 1) on2_3 ∧ (∀ h, h < g2_3 → on2_3 (slN rn i h) = pOn (sdX n see tm g ff fp) see rn (en rn) i h) ∧ (∀ x, ¬ (192 * rn ≤ x ∧ x < 192 * rn + 192) → on2_3 x = on x)) ∧ va_P D classes [(h0, .inr (5, (fX5 h1 h2 h3 h4))), (aI k h1 10 (vv n see tm g)), (aI k h2 24 ff), (aI k h3 24 fp), (aI k h4 4 fl), (w0, .inr (0, (fX0 h0 w1 w2 w3 w4))), (aI k w1 768 on2_3), (aI k w3 4 en)] H ∧ va_D A [(h0, .inr (5, (fX5 h1 h2 h3 h4))), (aI k h1 10 (vv n see tm g)), (aI k h2 24 ff), (aI k h3 24 fp), (aI k h4 4 fl), (w0, .inr (0, (fX0 h0 w1 w2 w3 w4))), (aI k w1 768 on2_3), (aI k w3 4 en)] ∧ va_S A s.heap H locs ∧ lv_has ls 6 [(4, .int (nI g2_3)), (3, .int 0), (0, .ref w0), (1, .int (nI rn)), (2, .int (nI i))]) (fun n_3 x_3 H locs ls hI ih_3 => ?_) _ (0, on) ⟨rfl, ⟨Nat.zero_le _, hon1, fun h hh => absurd hh (Nat.not_lt_zero h), fun _ _ => rfl⟩, hP, hD, hS, (lv_sub hl [0, 1, 2, 3, 4] rfl)⟩
    obtain ⟨g2_3, on2_3⟩ := x_3
    obtain ⟨hm_3, hv_3, hP, hD, hS, hl⟩ := hI
    subst hm_3
    refine lv_iload hx hb dX0_reckonDoor_22 (lv_at hl 0 rfl) ?_
    refine lv_aload_n hx hb dX0_reckonDoor_24 rfl (lv_at hl 2 rfl) ?_
    refine va_get (D := D) (ci := 0) (v := .ref h0) (C := RX0) (T := TX0) (N := 5) hx hb hts inX0 hown hK hP 5 rfl rfl 0 (by decide) (hts _ tw_266) (fun _ h9 => h9) rfl dX0_reckonDoor_25 ?_
    refine lv_iload_n hx hb dX0_reckonDoor_28 rfl (lv_at hl 4 rfl) ?_
    refine ro_i (D := D) (va_runV (As := [.int (nI i)]) (rest := [.int (nI g2_3)]) ⟨hx, hb, hml, hown, hts⟩ ((y_sightsAt l D k st lo h0 h1 h2 h3 h4 n see tm g i (by first | assumption | omega) (by first | assumption | omega) (by first | assumption | omega)) H.size) (cwV 1 hts (gV tw_536 tw_537 tw_538 tw_81 tw_539) rfl rfl rfl (by decide +kernel) ⟨Nat.le_of_ble_eq_true rfl, Nat.le_of_ble_eq_true rfl⟩) (pV hS hAlo hlo hP hK (va_Dlo hD hAlo) hZ [0, 1] (by decide) rfl (ci := 5) (q := (RX5, TX5, 4)) (q0 := 0) rfl rfl) rfl rfl hl.1 rfl (lv_room (Nat.le_of_ble_eq_true rfl)) dX0_reckonDoor_29 ⟨Nat.le_of_ble_eq_true rfl, Nat.le_of_ble_eq_true rfl⟩) hS hA hP (fun r_4 H locs hw_4 hP hS => ?_)
    try dsimp only at hw_4
    obtain ⟨zs_5, ezs_5⟩ : ∃ z : Nat, z = 2 ^ sqN see n i := ⟨_, rfl⟩
    rw [← ezs_5] at hw_4
    subst hw_4
    have hzs_5 : 1 ≤ zs_5 ∧ zs_5 ≤ 8 := by rw [ezs_5]; exact p8 (sq_le (by omega))
    refine lv_icmp_ge (tgt := 86) hx hb dX0_reckonDoor_32 (by decide) (fun c_6 => ?_) (fun c_6 => ?_)
    · have c_6 := (nI_leI (a := zs_5) (b := g2_3) (by omega) (by omega)).mp c_6
      have hP9 := hP.sub (ws' := [(h0, .inr (5, (fX5 h1 h2 h3 h4))), (aI k h1 10 (vv n see tm g)), (aI k h2 24 ff), (aI k h3 24 fp), (aI k h4 4 fl), (w0, .inr (0, (fX0 h0 w1 w2 w3 w4))), (aI k w1 768 on2_3), (aI k w3 4 en)]) [0, 1, 2, 3, 4, 5, 6, 7] rfl
      have hD9 := hD.sub (ws' := [(h0, .inr (5, (fX5 h1 h2 h3 h4))), (aI k h1 10 (vv n see tm g)), (aI k h2 24 ff), (aI k h3 24 fp), (aI k h4 4 fl), (w0, .inr (0, (fX0 h0 w1 w2 w3 w4))), (aI k w1 768 on2_3), (aI k w3 4 en)]) [0, 1, 2, 3, 4, 5, 6, 7] (by decide) rfl
      exact W.vret hx hb hr (fun t ht hW => ⟨⟨on2_3, rfl, ⟨on_door (d := (sdX n see tm g ff fp)) (show g2_3 = 2 ^ sqN see n i by omega) hv_3.2.1 hv_3.2.2.1, hv_3.2.2.2⟩, by rw [ht]; exact hP9, hD9⟩, hS.F ht⟩) hS.2.2 dX0_reckonDoor_86
    · have c_6 : ¬ (zs_5 ≤ g2_3) := fun h => c_6 ((nI_leI (a := zs_5) (b := g2_3) (by omega) (by omega)).mpr h)
      refine lv_iload_n hx hb dX0_reckonDoor_35 rfl (lv_at hl 1 rfl) ?_
      refine lv_if_eq (tgt := 48) hx hb dX0_reckonDoor_36 (by decide) (fun _ => ?_) (fun h => absurd (by decide) h)
      refine lv_aload_n hx hb dX0_reckonDoor_48 rfl (lv_at hl 2 rfl) ?_
      refine lv_iload_n hx hb dX0_reckonDoor_49 rfl (lv_at hl 3 rfl) ?_
      refine lv_iload_n hx hb dX0_reckonDoor_50 rfl (lv_at hl 4 rfl) ?_
      refine lv_iload hx hb dX0_reckonDoor_51 (lv_at hl 0 rfl) ?_
      refine ro_i (D := D) (va_runV (As := [.int (nI rn), .int (nI i), .int (nI g2_3)]) (rest := []) ⟨hx, hb, hml, hown, hts⟩ ((y_reckonNext l D k st lo h0 h1 h2 h3 h4 n see tm g ff fp fl w0 w1 w2 w3 w4 on2_3 rn i g2_3 (by first | assumption | omega) (by first | assumption | omega) (by first | assumption | omega) (by first | assumption | omega) (by first | assumption | omega) (by first | assumption | omega) hl9 hok9) H.size) (cwV 3 hts (gV tw_541 tw_543 tw_6 tw_85 tw_544) rfl rfl rfl (by decide +kernel) ⟨Nat.le_of_ble_eq_true rfl, Nat.le_of_ble_eq_true rfl⟩) (pV hS hAlo hlo hP hK (va_Dlo hD hAlo) hZ [0, 1, 2, 3, 4, 5, 6] (by decide) rfl (ci := 0) (q := (RX0, TX0, 5)) (q0 := 5) rfl rfl) rfl rfl hl.1 rfl (lv_room (Nat.le_of_ble_eq_true rfl)) dX0_reckonDoor_53 ⟨Nat.le_of_ble_eq_true rfl, Nat.le_of_ble_eq_true rfl⟩) hS hA hP (fun r_7 H locs hw_7 hP hS => ?_)
      try dsimp only at hw_7
      refine lv_istore (lv' := [(5, .int r_7), (4, .int (nI g2_3)), (3, .int 0), (0, .ref w0), (1, .int (nI rn)), (2, .int (nI i))]) hx hb dX0_reckonDoor_56 hl (by decide) rfl (fun ls hl => ?_)
      refine lv_aload_n hx hb dX0_reckonDoor_58 rfl (lv_at hl 3 rfl) ?_
      refine va_get (D := D) (ci := 0) (v := .ref w1) (C := RX0) (T := TX0) (N := 5) hx hb hts inX0 hown hK hP 5 rfl rfl 1 (by decide) (hts _ tw_267) (fun _ h9 => h9) rfl dX0_reckonDoor_59 ?_
      refine lv_iload_n hx hb dX0_reckonDoor_62 rfl (lv_at hl 4 rfl) ?_
      refine lv_iload_n hx hb dX0_reckonDoor_63 rfl (lv_at hl 5 rfl) ?_
      refine lv_iload hx hb dX0_reckonDoor_64 (lv_at hl 1 rfl) ?_
      refine ro_i (D := D) (va_runS (As := [.int (nI rn), .int (nI i), .int (nI g2_3)]) (rest := [.ref w1]) ⟨hx, hb, hml, hown, hts⟩ ((x_slot l D k st lo rn i g2_3) H.size) (va_cwS 3 hts (gS tw_553 tw_554 tw_85 tw_555) rfl rfl rfl (by decide +kernel) ⟨Nat.le_of_ble_eq_true rfl, Nat.le_of_ble_eq_true rfl⟩) (pS hS hAlo hlo hP hK (va_Dlo hD hAlo) hZ [] (by decide) rfl) rfl rfl hl.1 rfl (lv_room (Nat.le_of_ble_eq_true rfl)) dX0_reckonDoor_66 ⟨Nat.le_of_ble_eq_true rfl, Nat.le_of_ble_eq_true rfl⟩) hS hA hP (fun r_8 H locs hw_8 hP hS => ?_)
      try dsimp only at hw_8
      subst hw_8
      refine lv_aload_n hx hb dX0_reckonDoor_69 rfl (lv_at hl 3 rfl) ?_
      refine va_get (D := D) (ci := 0) (v := .ref h0) (C := RX0) (T := TX0) (N := 5) hx hb hts inX0 hown hK hP 5 rfl rfl 0 (by decide) (hts _ tw_266) (fun _ h9 => h9) rfl dX0_reckonDoor_70 ?_
      refine ro_i (D := D) (va_runV (As := []) (rest := [.int (nI ((rn * 24 + i) * 8 + g2_3)), .ref w1]) ⟨hx, hb, hml, hown, hts⟩ ((y_passing l D k st lo h0 h1 h2 h3 h4 n see tm g) H.size) (cwV 0 hts (gV tw_572 tw_573 tw_574 tw_81 tw_575) rfl rfl rfl (by decide +kernel) ⟨Nat.le_of_ble_eq_true rfl, Nat.le_of_ble_eq_true rfl⟩) (pV hS hAlo hlo hP hK (va_Dlo hD hAlo) hZ [0, 1] (by decide) rfl (ci := 5) (q := (RX5, TX5, 4)) (q0 := 0) rfl rfl) rfl rfl hl.1 rfl (lv_room (Nat.le_of_ble_eq_true rfl)) dX0_reckonDoor_73 ⟨Nat.le_of_ble_eq_true rfl, Nat.le_of_ble_eq_true rfl⟩) hS hA hP (fun r_9 H locs hw_9 hP hS => ?_)
      try dsimp only at hw_9
      refine lv_iload hx hb dX0_reckonDoor_76 (lv_at hl 0 rfl) ?_
      refine lv_iadd hx hb dX0_reckonDoor_78 ?_
      refine lv_topi (fun x_10 ex_10 => ?_)
      refine va_iast hx hb hK hP hD hS 6 1 rfl rfl (vp_in_nI (by omega) (by decide)) dX0_reckonDoor_79 (fun H locs hP hD hS => ?_)
      replace hP : va_P D classes [(h0, .inr (5, (fX5 h1 h2 h3 h4))), (aI k h1 10 (vv n see tm g)), (aI k h2 24 ff), (aI k h3 24 fp), (aI k h4 4 fl), (w0, .inr (0, (fX0 h0 w1 w2 w3 w4))), (aI k w1 768 (upd on2_3 (Int32.toNatClampNeg (nI ((rn * 24 + i) * 8 + g2_3))) x_10)), (aI k w3 4 en)] H := hP
      replace hD : va_D A [(h0, .inr (5, (fX5 h1 h2 h3 h4))), (aI k h1 10 (vv n see tm g)), (aI k h2 24 ff), (aI k h3 24 fp), (aI k h4 4 fl), (w0, .inr (0, (fX0 h0 w1 w2 w3 w4))), (aI k w1 768 (upd on2_3 (Int32.toNatClampNeg (nI ((rn * 24 + i) * 8 + g2_3))) x_10)), (aI k w3 4 en)] := hD
      rw [nI_clamp (n := ((rn * 24 + i) * 8 + g2_3)) (by omega)] at hP hD
      replace hP : va_P D classes [(h0, .inr (5, (fX5 h1 h2 h3 h4))), (aI k h1 10 (vv n see tm g)), (aI k h2 24 ff), (aI k h3 24 fp), (aI k h4 4 fl), (w0, .inr (0, (fX0 h0 w1 w2 w3 w4))), (aI k w1 768 (upd on2_3 ((rn * 24 + i) * 8 + g2_3) x_10)), (aI k w3 4 en)] H := hP
      replace hD : va_D A [(h0, .inr (5, (fX5 h1 h2 h3 h4))), (aI k h1 10 (vv n see tm g)), (aI k h2 24 ff), (aI k h3 24 fp), (aI k h4 4 fl), (w0, .inr (0, (fX0 h0 w1 w2 w3 w4))), (aI k w1 768 (upd on2_3 ((rn * 24 + i) * 8 + g2_3) x_10)), (aI k w3 4 en)] := hD
      refine lv_iinc (v := (nI (g2_3 + 1))) (lv' := [(4, .int (nI (g2_3 + 1))), (5, .int r_7), (3, .int 0), (0, .ref w0), (1, .int (nI rn)), (2, .int (nI i))]) hx hb dX0_reckonDoor_80 hl (k := 1) rfl (nI_add g2_3 1) (by decide) rfl (fun ls hl => ?_)
      refine lv_goto (tgt := 22) hx hb dX0_reckonDoor_83 (by decide) ?_
      have hst_3 := on_step (d := (sdX n see tm g ff fp)) (x := x_10) (show n ≤ 24 by omega) hsee (show i < n by omega) (show g2_3 < 8 by omega) hv_3.2.1 hv_3.2.2.1 (by rw [ex_10, hw_9, xPass (n := n) (see := see) (tm := tm) (ff := ff) (fp := fp), hw_7, pOn_next (show i + 1 < n by omega)]; exact congrArg (fun z => pPass (sdX n see tm g ff fp) + z) (nx_congr (show i + 1 < n by omega) (show g2_3 < 2 ^ sqN see n i by omega) (fun q hq => congrArg (fun z => pW (sdX n see tm g ff fp) rn (i + 1) z q) (hv_3.2.1 (i + 1) (by omega) (show i + 1 < n by omega) q hq))))
      exact ih_3 _ (g2_3 + 1, (upd on2_3 ((rn * 24 + i) * 8 + g2_3) x_10)) _ _ _ (by omega) ⟨rfl, ⟨by omega, hst_3.1, hst_3.2, fun x hx => (pk_un (by omega)).trans (hv_3.2.2.2 x hx)⟩, hP, hD, hS, (lv_sub hl [0, 2, 3, 4, 5] rfl)⟩
  · have c_2 := (nI_eq (a := i) (b := (n - 1)) (by omega) (by omega)).mp c_2
    refine lv_iconst (v := 1) hx hb dX0_reckonDoor_13 (by decide) ?_
    refine lv_goto (tgt := 18) hx hb dX0_reckonDoor_14 (by decide) ?_
    refine lv_istore_n (lv' := [(3, .int 1), (0, .ref w0), (1, .int (nI rn)), (2, .int (nI i))]) hx hb dX0_reckonDoor_18 rfl hl (by decide) rfl (fun ls hl => ?_)
    refine lv_iconst (v := 0) hx hb dX0_reckonDoor_19 (by decide) ?_
    refine lv_istore (lv' := [(4, .int 0), (3, .int 1), (0, .ref w0), (1, .int (nI rn)), (2, .int (nI i))]) hx hb dX0_reckonDoor_20 hl (by decide) rfl (fun ls hl => ?_)
    refine W_loop (σ := Nat × (Nat → Int32)) (fun (n_ : Nat) (x_ : Nat × (Nat → Int32)) (H : Heap) (locs : List Loc) (ls : Array Slot) => match x_ with | (g2_12, on2_12) => n_ = 2 ^ sqN see n i - g2_12 ∧ (g2_12 ≤ 2 ^ sqN see n i ∧ onOK (sdX n see tm g ff fp) see rn (en rn) (i + 1) on2_12 ∧ (∀ h, h < g2_12 → on2_12 (slN rn i h) = pOn (sdX n see tm g ff fp) see rn (en rn) i h) ∧ (∀ x, ¬ (192 * rn ≤ x ∧ x < 192 * rn + 192) → on2_12 x = on x)) ∧ va_P D classes [(h0, .inr (5, (fX5 h1 h2 h3 h4))), (aI k h1 10 (vv n see tm g)), (aI k h2 24 ff), (aI k h3 24 fp), (aI k h4 4 fl), (w0, .inr (0, (fX0 h0 w1 w2 w3 w4))), (aI k w1 768 on2_12), (aI k w3 4 en)] H ∧ va_D A [(h0, .inr (5, (fX5 h1 h2 h3 h4))), (aI k h1 10 (vv n see tm g)), (aI k h2 24 ff), (aI k h3 24 fp), (aI k h4 4 fl), (w0, .inr (0, (fX0 h0 w1 w2 w3 w4))), (aI k w1 768 on2_12), (aI k w3 4 en)] ∧ va_S A s.heap H locs ∧ lv_has ls 6 [(4, .int (nI g2_12)), (3, .int 1), (0, .ref w0), (1, .int (nI rn)), (2, .int (nI i))]) (fun n_12 x_12 H locs ls hI ih_12 => ?_) _ (0, on) ⟨rfl, ⟨Nat.zero_le _, hon1, fun h hh => absurd hh (Nat.not_lt_zero h), fun _ _ => rfl⟩, hP, hD, hS, (lv_sub hl [0, 1, 2, 3, 4] rfl)⟩
    obtain ⟨g2_12, on2_12⟩ := x_12
    obtain ⟨hm_12, hv_12, hP, hD, hS, hl⟩ := hI
    subst hm_12
    refine lv_iload hx hb dX0_reckonDoor_22 (lv_at hl 0 rfl) ?_
    refine lv_aload_n hx hb dX0_reckonDoor_24 rfl (lv_at hl 2 rfl) ?_
    refine va_get (D := D) (ci := 0) (v := .ref h0) (C := RX0) (T := TX0) (N := 5) hx hb hts inX0 hown hK hP 5 rfl rfl 0 (by decide) (hts _ tw_266) (fun _ h9 => h9) rfl dX0_reckonDoor_25 ?_
    refine lv_iload_n hx hb dX0_reckonDoor_28 rfl (lv_at hl 4 rfl) ?_
    refine ro_i (D := D) (va_runV (As := [.int (nI i)]) (rest := [.int (nI g2_12)]) ⟨hx, hb, hml, hown, hts⟩ ((y_sightsAt l D k st lo h0 h1 h2 h3 h4 n see tm g i (by first | assumption | omega) (by first | assumption | omega) (by first | assumption | omega)) H.size) (cwV 1 hts (gV tw_536 tw_537 tw_538 tw_81 tw_539) rfl rfl rfl (by decide +kernel) ⟨Nat.le_of_ble_eq_true rfl, Nat.le_of_ble_eq_true rfl⟩) (pV hS hAlo hlo hP hK (va_Dlo hD hAlo) hZ [0, 1] (by decide) rfl (ci := 5) (q := (RX5, TX5, 4)) (q0 := 0) rfl rfl) rfl rfl hl.1 rfl (lv_room (Nat.le_of_ble_eq_true rfl)) dX0_reckonDoor_29 ⟨Nat.le_of_ble_eq_true rfl, Nat.le_of_ble_eq_true rfl⟩) hS hA hP (fun r_13 H locs hw_13 hP hS => ?_)
    try dsimp only at hw_13
    obtain ⟨zs_14, ezs_14⟩ : ∃ z : Nat, z = 2 ^ sqN see n i := ⟨_, rfl⟩
    rw [← ezs_14] at hw_13
    subst hw_13
    have hzs_14 : 1 ≤ zs_14 ∧ zs_14 ≤ 8 := by rw [ezs_14]; exact p8 (sq_le (by omega))
    refine lv_icmp_ge (tgt := 86) hx hb dX0_reckonDoor_32 (by decide) (fun c_15 => ?_) (fun c_15 => ?_)
    · have c_15 := (nI_leI (a := zs_14) (b := g2_12) (by omega) (by omega)).mp c_15
      have hP9 := hP.sub (ws' := [(h0, .inr (5, (fX5 h1 h2 h3 h4))), (aI k h1 10 (vv n see tm g)), (aI k h2 24 ff), (aI k h3 24 fp), (aI k h4 4 fl), (w0, .inr (0, (fX0 h0 w1 w2 w3 w4))), (aI k w1 768 on2_12), (aI k w3 4 en)]) [0, 1, 2, 3, 4, 5, 6, 7] rfl
      have hD9 := hD.sub (ws' := [(h0, .inr (5, (fX5 h1 h2 h3 h4))), (aI k h1 10 (vv n see tm g)), (aI k h2 24 ff), (aI k h3 24 fp), (aI k h4 4 fl), (w0, .inr (0, (fX0 h0 w1 w2 w3 w4))), (aI k w1 768 on2_12), (aI k w3 4 en)]) [0, 1, 2, 3, 4, 5, 6, 7] (by decide) rfl
      exact W.vret hx hb hr (fun t ht hW => ⟨⟨on2_12, rfl, ⟨on_door (d := (sdX n see tm g ff fp)) (show g2_12 = 2 ^ sqN see n i by omega) hv_12.2.1 hv_12.2.2.1, hv_12.2.2.2⟩, by rw [ht]; exact hP9, hD9⟩, hS.F ht⟩) hS.2.2 dX0_reckonDoor_86
    · have c_15 : ¬ (zs_14 ≤ g2_12) := fun h => c_15 ((nI_leI (a := zs_14) (b := g2_12) (by omega) (by omega)).mpr h)
      refine lv_iload_n hx hb dX0_reckonDoor_35 rfl (lv_at hl 1 rfl) ?_
      refine lv_if_eq (tgt := 48) hx hb dX0_reckonDoor_36 (by decide) (fun h => absurd h (by decide)) (fun _ => ?_)
      refine lv_aload_n hx hb dX0_reckonDoor_39 rfl (lv_at hl 2 rfl) ?_
      refine va_get (D := D) (ci := 0) (v := .ref w3) (C := RX0) (T := TX0) (N := 5) hx hb hts inX0 hown hK hP 5 rfl rfl 3 (by decide) (hts _ tw_270) (fun _ h9 => h9) rfl dX0_reckonDoor_40 ?_
      refine lv_iload_n hx hb dX0_reckonDoor_43 rfl (lv_at hl 3 rfl) ?_
      refine va_iald hx hb hK hP 7 1 rfl rfl (vp_in_nI (by omega) (by decide)) dX0_reckonDoor_44 ?_
      refine lv_ti (y := (en rn)) (by rw [nI_clamp (by omega)]) ?_
      refine lv_goto (tgt := 56) hx hb dX0_reckonDoor_45 (by decide) ?_
      refine lv_istore (lv' := [(5, .int (en rn)), (4, .int (nI g2_12)), (3, .int 1), (0, .ref w0), (1, .int (nI rn)), (2, .int (nI i))]) hx hb dX0_reckonDoor_56 hl (by decide) rfl (fun ls hl => ?_)
      refine lv_aload_n hx hb dX0_reckonDoor_58 rfl (lv_at hl 3 rfl) ?_
      refine va_get (D := D) (ci := 0) (v := .ref w1) (C := RX0) (T := TX0) (N := 5) hx hb hts inX0 hown hK hP 5 rfl rfl 1 (by decide) (hts _ tw_267) (fun _ h9 => h9) rfl dX0_reckonDoor_59 ?_
      refine lv_iload_n hx hb dX0_reckonDoor_62 rfl (lv_at hl 4 rfl) ?_
      refine lv_iload_n hx hb dX0_reckonDoor_63 rfl (lv_at hl 5 rfl) ?_
      refine lv_iload hx hb dX0_reckonDoor_64 (lv_at hl 1 rfl) ?_
      refine ro_i (D := D) (va_runS (As := [.int (nI rn), .int (nI i), .int (nI g2_12)]) (rest := [.ref w1]) ⟨hx, hb, hml, hown, hts⟩ ((x_slot l D k st lo rn i g2_12) H.size) (va_cwS 3 hts (gS tw_553 tw_554 tw_85 tw_555) rfl rfl rfl (by decide +kernel) ⟨Nat.le_of_ble_eq_true rfl, Nat.le_of_ble_eq_true rfl⟩) (pS hS hAlo hlo hP hK (va_Dlo hD hAlo) hZ [] (by decide) rfl) rfl rfl hl.1 rfl (lv_room (Nat.le_of_ble_eq_true rfl)) dX0_reckonDoor_66 ⟨Nat.le_of_ble_eq_true rfl, Nat.le_of_ble_eq_true rfl⟩) hS hA hP (fun r_16 H locs hw_16 hP hS => ?_)
      try dsimp only at hw_16
      subst hw_16
      refine lv_aload_n hx hb dX0_reckonDoor_69 rfl (lv_at hl 3 rfl) ?_
      refine va_get (D := D) (ci := 0) (v := .ref h0) (C := RX0) (T := TX0) (N := 5) hx hb hts inX0 hown hK hP 5 rfl rfl 0 (by decide) (hts _ tw_266) (fun _ h9 => h9) rfl dX0_reckonDoor_70 ?_
      refine ro_i (D := D) (va_runV (As := []) (rest := [.int (nI ((rn * 24 + i) * 8 + g2_12)), .ref w1]) ⟨hx, hb, hml, hown, hts⟩ ((y_passing l D k st lo h0 h1 h2 h3 h4 n see tm g) H.size) (cwV 0 hts (gV tw_572 tw_573 tw_574 tw_81 tw_575) rfl rfl rfl (by decide +kernel) ⟨Nat.le_of_ble_eq_true rfl, Nat.le_of_ble_eq_true rfl⟩) (pV hS hAlo hlo hP hK (va_Dlo hD hAlo) hZ [0, 1] (by decide) rfl (ci := 5) (q := (RX5, TX5, 4)) (q0 := 0) rfl rfl) rfl rfl hl.1 rfl (lv_room (Nat.le_of_ble_eq_true rfl)) dX0_reckonDoor_73 ⟨Nat.le_of_ble_eq_true rfl, Nat.le_of_ble_eq_true rfl⟩) hS hA hP (fun r_17 H locs hw_17 hP hS => ?_)
      try dsimp only at hw_17
      refine lv_iload hx hb dX0_reckonDoor_76 (lv_at hl 0 rfl) ?_
      refine lv_iadd hx hb dX0_reckonDoor_78 ?_
      refine lv_topi (fun x_18 ex_18 => ?_)
      refine va_iast hx hb hK hP hD hS 6 1 rfl rfl (vp_in_nI (by omega) (by decide)) dX0_reckonDoor_79 (fun H locs hP hD hS => ?_)
      replace hP : va_P D classes [(h0, .inr (5, (fX5 h1 h2 h3 h4))), (aI k h1 10 (vv n see tm g)), (aI k h2 24 ff), (aI k h3 24 fp), (aI k h4 4 fl), (w0, .inr (0, (fX0 h0 w1 w2 w3 w4))), (aI k w1 768 (upd on2_12 (Int32.toNatClampNeg (nI ((rn * 24 + i) * 8 + g2_12))) x_18)), (aI k w3 4 en)] H := hP
      replace hD : va_D A [(h0, .inr (5, (fX5 h1 h2 h3 h4))), (aI k h1 10 (vv n see tm g)), (aI k h2 24 ff), (aI k h3 24 fp), (aI k h4 4 fl), (w0, .inr (0, (fX0 h0 w1 w2 w3 w4))), (aI k w1 768 (upd on2_12 (Int32.toNatClampNeg (nI ((rn * 24 + i) * 8 + g2_12))) x_18)), (aI k w3 4 en)] := hD
      rw [nI_clamp (n := ((rn * 24 + i) * 8 + g2_12)) (by omega)] at hP hD
      replace hP : va_P D classes [(h0, .inr (5, (fX5 h1 h2 h3 h4))), (aI k h1 10 (vv n see tm g)), (aI k h2 24 ff), (aI k h3 24 fp), (aI k h4 4 fl), (w0, .inr (0, (fX0 h0 w1 w2 w3 w4))), (aI k w1 768 (upd on2_12 ((rn * 24 + i) * 8 + g2_12) x_18)), (aI k w3 4 en)] H := hP
      replace hD : va_D A [(h0, .inr (5, (fX5 h1 h2 h3 h4))), (aI k h1 10 (vv n see tm g)), (aI k h2 24 ff), (aI k h3 24 fp), (aI k h4 4 fl), (w0, .inr (0, (fX0 h0 w1 w2 w3 w4))), (aI k w1 768 (upd on2_12 ((rn * 24 + i) * 8 + g2_12) x_18)), (aI k w3 4 en)] := hD
      refine lv_iinc (v := (nI (g2_12 + 1))) (lv' := [(4, .int (nI (g2_12 + 1))), (5, .int (en rn)), (3, .int 1), (0, .ref w0), (1, .int (nI rn)), (2, .int (nI i))]) hx hb dX0_reckonDoor_80 hl (k := 1) rfl (nI_add g2_12 1) (by decide) rfl (fun ls hl => ?_)
      refine lv_goto (tgt := 22) hx hb dX0_reckonDoor_83 (by decide) ?_
      have hst_12 := on_step (d := (sdX n see tm g ff fp)) (x := x_18) (show n ≤ 24 by omega) hsee (show i < n by omega) (show g2_12 < 8 by omega) hv_12.2.1 hv_12.2.2.1 (by rw [ex_18, hw_17, xPass (n := n) (see := see) (tm := tm) (ff := ff) (fp := fp)]; exact (pOn_last (show i + 1 = n by omega)).symm)
      exact ih_12 _ (g2_12 + 1, (upd on2_12 ((rn * 24 + i) * 8 + g2_12) x_18)) _ _ _ (by omega) ⟨rfl, ⟨by omega, hst_12.1, hst_12.2, fun x hx => (pk_un (by omega)).trans (hv_12.2.2.2 x hx)⟩, hP, hD, hS, (lv_sub hl [0, 2, 3, 4, 5] rfl)⟩


set_option maxHeartbeats 4000000 in
set_option maxRecDepth 100000 in
theorem y_reckonStart (l : Launch) (D : va_G) (k : Nat → ClassId) (st : Nat → Nat) (lo : Nat) (h0 : Nat) (h1 : Nat) (h2 : Nat) (h3 : Nat) (h4 : Nat) (n : Nat) (see : Nat) (tm : Nat) (g : Nat → Int32) (ff : Nat → Int32) (fp : Nat → Int32) (fl : Nat → Int32) (w0 : Nat) (w1 : Nat) (w2 : Nat) (w3 : Nat) (w4 : Nat) (on : Nat → Int32) (fo : Nat → Int32) (rn : Nat) (E9 : Int32) (hn : n ≤ 24) (hsee : see ≤ 2) (hrn : rn ≤ 3) (hl9 : ∀ r, r < 4 → fl r = pLate (sdX n see tm g ff fp) r) (hok9 : okD (sdX n see tm g ff fp)) (hn1 : 1 ≤ n) (hE : onOK (sdX n see tm g ff fp) see rn E9 0 on) : CWi l D k st lo yX0_reckonStart cX0_reckonStart 7 (some .int) ({ frames := 3, cells := 0, slots := 0, locals := 84 }) 0 0 [.ref w0, .int (nI rn)] [(h0, .inr (5, (fX5 h1 h2 h3 h4))), (aI k h1 10 (vv n see tm g)), (aI k h2 24 ff), (aI k h3 24 fp), (aI k h4 4 fl), (w0, .inr (0, (fX0 h0 w1 w2 w3 w4))), (aI k w1 768 on), (aI k w4 8 fo)] (fun (r : Int32) (fo_ : (Nat → Int32)) => r = pSv (sdX n see tm g ff fp) see rn E9) (fun (fo_ : (Nat → Int32)) => [(h0, .inr (5, (fX5 h1 h2 h3 h4))), (aI k h1 10 (vv n see tm g)), (aI k h2 24 ff), (aI k h3 24 fp), (aI k h4 4 fl), (w0, .inr (0, (fX0 h0 w1 w2 w3 w4))), (aI k w1 768 on), (aI k w4 8 fo_)]) := by
  intro sz
  refine Met.ofW (cc := cX0_reckonStart) (maxL := 7) (ret := (some .int)) (by decide) rfl ?_
  intro p e s m args below meth c s₁ B hml hv
  obtain ⟨rfl, hsz, hlo, hP, hK, hDL, hZ⟩ := hv
  have hx := B.exec
  have hb := B.bytes
  have hr := B.returns
  have hts := WS_ts B.pre
  have hown : s.vm.findClass RX0 = some m.cls := findClass_of_methodNamed B.named
  have hlocks := B.notSynchronized
  subst hsz
  have hD := hDL.self (sz := s.heap.size)
  have hAlo := A_lo hDL hlo
  generalize hAe : va_A [(h0, .inr (5, (fX5 h1 h2 h3 h4))), (aI k h1 10 (vv n see tm g)), (aI k h2 24 ff), (aI k h3 24 fp), (aI k h4 4 fl), (w0, .inr (0, (fX0 h0 w1 w2 w3 w4))), (aI k w1 768 on), (aI k w4 8 fo)] s.heap.size = A at hD hAlo ⊢
  have hA : ∀ q : Nat, s.heap.size ≤ q → A q := fun q h => by rw [← hAe]; exact Or.inr h
  have hS : va_S A s.heap s.heap [] := va_S.rf
  have hl := lv_entry ([.ref w0, .int (nI rn)]) (n := 7) (Nat.le_of_ble_eq_true rfl)
  rw [lg_entry_eq]
  generalize (lg_sl ([.ref w0, .int (nI rn)]) ++ List.replicate (7 - (lg_sl ([.ref w0, .int (nI rn)])).length) Slot.unset).toArray = ls at hl ⊢
  have hl : lv_has ls 7 [(0, .ref w0), (1, .int (nI rn))] := hl
  refine lv_aload_n hx hb dX0_reckonStart_0 rfl (lv_at hl 0 rfl) ?_
  refine va_get (D := D) (ci := 0) (v := .ref h0) (C := RX0) (T := TX0) (N := 5) hx hb hts inX0 hown hK hP 5 rfl rfl 0 (by decide) (hts _ tw_266) (fun _ h9 => h9) rfl dX0_reckonStart_1 ?_
  refine lv_iconst (v := 0) hx hb dX0_reckonStart_4 (by decide) ?_
  refine ro_i (D := D) (va_runV (As := [.int 0]) (rest := []) ⟨hx, hb, hml, hown, hts⟩ ((y_sightsAt l D k st lo h0 h1 h2 h3 h4 n see tm g 0 (by first | assumption | omega) (by first | assumption | omega) (by first | assumption | omega)) s.heap.size) (cwV 1 hts (gV tw_536 tw_537 tw_538 tw_81 tw_539) rfl rfl rfl (by decide +kernel) ⟨Nat.le_of_ble_eq_true rfl, Nat.le_of_ble_eq_true rfl⟩) (pV hS hAlo hlo hP hK (va_Dlo hD hAlo) hZ [0, 1] (by decide) rfl (ci := 5) (q := (RX5, TX5, 4)) (q0 := 0) rfl rfl) rfl rfl hl.1 rfl (lv_room (Nat.le_of_ble_eq_true rfl)) dX0_reckonStart_5 ⟨Nat.le_of_ble_eq_true rfl, Nat.le_of_ble_eq_true rfl⟩) hS hA hP (fun r_1 H locs hw_1 hP hS => ?_)
  try dsimp only at hw_1
  obtain ⟨zs_2, ezs_2⟩ : ∃ z : Nat, z = 2 ^ sqN see n 0 := ⟨_, rfl⟩
  rw [← ezs_2] at hw_1
  subst hw_1
  have hzs_2 : 1 ≤ zs_2 ∧ zs_2 ≤ 8 := by rw [ezs_2]; exact p8 (sq_le (by omega))
  have hq0_9 : (sqN see n 0) ≤ see + 1 ∧ (sqN see n 0) ≤ n ∧ 1 ≤ (sqN see n 0) := by unfold sqN; omega
  refine lv_istore_n (lv' := [(2, .int (nI zs_2)), (0, .ref w0), (1, .int (nI rn))]) hx hb dX0_reckonStart_8 rfl hl (by decide) rfl (fun ls hl => ?_)
  refine lv_iconst (v := 0) hx hb dX0_reckonStart_9 (by decide) ?_
  refine lv_istore_n (lv' := [(3, .int 0), (2, .int (nI zs_2)), (0, .ref w0), (1, .int (nI rn))]) hx hb dX0_reckonStart_10 rfl hl (by decide) rfl (fun ls hl => ?_)
  refine W_loop (σ := Nat × (Nat → Int32)) (fun (n_ : Nat) (x_ : Nat × (Nat → Int32)) (H : Heap) (locs : List Loc) (ls : Array Slot) => match x_ with | (g2_3, fo2_3) => n_ = zs_2 - g2_3 ∧ (g2_3 ≤ zs_2 ∧ ∀ h, h < g2_3 → fo2_3 h = pWo (sdX n see tm g ff fp) see rn E9 0 h) ∧ va_P D classes [(h0, .inr (5, (fX5 h1 h2 h3 h4))), (aI k h1 10 (vv n see tm g)), (aI k h2 24 ff), (aI k h3 24 fp), (aI k h4 4 fl), (w0, .inr (0, (fX0 h0 w1 w2 w3 w4))), (aI k w1 768 on), (aI k w4 8 fo2_3)] H ∧ va_D A [(h0, .inr (5, (fX5 h1 h2 h3 h4))), (aI k h1 10 (vv n see tm g)), (aI k h2 24 ff), (aI k h3 24 fp), (aI k h4 4 fl), (w0, .inr (0, (fX0 h0 w1 w2 w3 w4))), (aI k w1 768 on), (aI k w4 8 fo2_3)] ∧ va_S A s.heap H locs ∧ lv_has ls 7 [(3, .int (nI g2_3)), (2, .int (nI zs_2)), (0, .ref w0), (1, .int (nI rn))]) (fun n_3 x_3 H locs ls hI ih_3 => ?_) _ (0, fo) ⟨rfl, ⟨by omega, fun h hh => absurd hh (Nat.not_lt_zero h)⟩, hP, hD, hS, (lv_sub hl [0, 1, 2, 3] rfl)⟩
  obtain ⟨g2_3, fo2_3⟩ := x_3
  obtain ⟨hm_3, hv_3, hP, hD, hS, hl⟩ := hI
  subst hm_3
  refine lv_iload_n hx hb dX0_reckonStart_11 rfl (lv_at hl 0 rfl) ?_
  refine lv_iload_n hx hb dX0_reckonStart_12 rfl (lv_at hl 1 rfl) ?_
  refine lv_icmp_ge (tgt := 41) hx hb dX0_reckonStart_13 (by decide) (fun c_4 => ?_) (fun c_4 => ?_)
  · have c_4 := (nI_leI (a := zs_2) (b := g2_3) (by omega) (by omega)).mp c_4
    have hF_9 : ∀ h, h < 2 ^ (sqN see n 0) → fo2_3 h = pFo (sdX n see tm g ff fp) (fun h => pWo (sdX n see tm g ff fp) see rn E9 0 h) (sqN see n 0) (0) h := fun h hh => hv_3.2 h (by rw [← ezs_2] at hh; omega)
    refine lv_aload_n hx hb dX0_reckonStart_41 rfl (lv_at hl 2 rfl) ?_
    refine va_get (D := D) (ci := 0) (v := .ref h0) (C := RX0) (T := TX0) (N := 5) hx hb hts inX0 hown hK hP 5 rfl rfl 0 (by decide) (hts _ tw_266) (fun _ h9 => h9) rfl dX0_reckonStart_42 ?_
    refine va_get (D := D) (ci := 5) (v := .ref h1) (C := RX5) (T := TX5) (N := 4) hx hb hts inX5 hown hK hP 0 rfl rfl 0 (by decide) (hts _ tw_147) (fun _ h9 => h9) rfl dX0_reckonStart_45 ?_
    refine lv_bipush (v := 6) hx hb dX0_reckonStart_48 (by decide) ?_
    refine va_iald hx hb hK hP 1 1 rfl rfl (by unfold vp_in; decide) dX0_reckonStart_50 ?_
    refine lv_ti (y := (nI see)) (by rfl) ?_
    refine lv_istore_n (lv' := [(3, .int (nI see)), (2, .int (nI zs_2)), (0, .ref w0), (1, .int (nI rn))]) hx hb dX0_reckonStart_51 rfl hl (by decide) rfl (fun ls hl => ?_)
    refine W_loop (σ := Nat × (Nat → Int32)) (fun (n_ : Nat) (x_ : Nat × (Nat → Int32)) (H : Heap) (locs : List Loc) (ls : Array Slot) => match x_ with | (q_5, fo2_5) => n_ = 2 * q_5 ∧ (q_5 ≤ see + 1 ∧ ∀ h, h < 2 ^ min q_5 (sqN see n 0) → fo2_5 h = pFo (sdX n see tm g ff fp) (fun h => pWo (sdX n see tm g ff fp) see rn E9 0 h) (sqN see n 0) ((sqN see n 0) - q_5) h) ∧ va_P D classes [(h0, .inr (5, (fX5 h1 h2 h3 h4))), (aI k h1 10 (vv n see tm g)), (aI k h2 24 ff), (aI k h3 24 fp), (aI k h4 4 fl), (w0, .inr (0, (fX0 h0 w1 w2 w3 w4))), (aI k w1 768 on), (aI k w4 8 fo2_5)] H ∧ va_D A [(h0, .inr (5, (fX5 h1 h2 h3 h4))), (aI k h1 10 (vv n see tm g)), (aI k h2 24 ff), (aI k h3 24 fp), (aI k h4 4 fl), (w0, .inr (0, (fX0 h0 w1 w2 w3 w4))), (aI k w1 768 on), (aI k w4 8 fo2_5)] ∧ va_S A s.heap H locs ∧ lv_has ls 7 [(3, .int (nI q_5 - 1)), (2, .int (nI zs_2)), (0, .ref w0), (1, .int (nI rn))]) (fun n_5 x_5 H locs ls hI ih_5 => ?_) _ (see + 1, fo2_3) ⟨rfl, ⟨by omega, fun h hh => by rw [show min (see + 1) (sqN see n 0) = (sqN see n 0) by omega] at hh; rw [show (sqN see n 0) - (see + 1) = 0 by omega]; exact hF_9 h hh⟩, hP, hD, hS, (by rw [nI_pred]; exact lv_sub hl [0, 1, 2, 3] rfl)⟩
    obtain ⟨q_5, fo2_5⟩ := x_5
    obtain ⟨hm_5, hv_5, hP, hD, hS, hl⟩ := hI
    subst hm_5
    rcases q_5 with _ | q_5
    · rw [dn0] at hl
      refine lv_iload_n hx hb dX0_reckonStart_52 rfl (lv_at hl 0 rfl) ?_
      refine lv_if_lt (tgt := 148) hx hb dX0_reckonStart_53 (by decide) (fun _ => ?_) (fun h => absurd (by decide) h)
      refine lv_aload_n hx hb dX0_reckonStart_148 rfl (lv_at hl 2 rfl) ?_
      refine va_get (D := D) (ci := 0) (v := .ref w4) (C := RX0) (T := TX0) (N := 5) hx hb hts inX0 hown hK hP 5 rfl rfl 4 (by decide) (hts _ tw_272) (fun _ h9 => h9) rfl dX0_reckonStart_149 ?_
      refine lv_iconst (v := 0) hx hb dX0_reckonStart_152 (by decide) ?_
      refine va_iald hx hb hK hP 7 1 rfl rfl (by unfold vp_in; decide) dX0_reckonStart_153 ?_
      refine lv_ti (y := (fo2_5 0)) (by rfl) ?_
      have hP9 := hP.sub (ws' := [(h0, .inr (5, (fX5 h1 h2 h3 h4))), (aI k h1 10 (vv n see tm g)), (aI k h2 24 ff), (aI k h3 24 fp), (aI k h4 4 fl), (w0, .inr (0, (fX0 h0 w1 w2 w3 w4))), (aI k w1 768 on), (aI k w4 8 fo2_5)]) [0, 1, 2, 3, 4, 5, 6, 7] rfl
      have hD9 := hD.sub (ws' := [(h0, .inr (5, (fX5 h1 h2 h3 h4))), (aI k h1 10 (vv n see tm g)), (aI k h2 24 ff), (aI k h3 24 fp), (aI k h4 4 fl), (w0, .inr (0, (fX0 h0 w1 w2 w3 w4))), (aI k w1 768 on), (aI k w4 8 fo2_5)]) [0, 1, 2, 3, 4, 5, 6, 7] (by decide) rfl
      exact W.iret (v := (fo2_5 0)) hx hb hr (fun t ht hW => ⟨⟨(fo2_5 0), fo2_5, rfl, hv_5.2 0 (by rw [Nat.zero_min]; exact Nat.one_pos), by rw [ht]; exact hP9, hD9⟩, hS.F ht⟩) hS.2.2 dX0_reckonStart_154
    · rw [nI_pred] at hl
      refine lv_iload_n hx hb dX0_reckonStart_52 rfl (lv_at hl 0 rfl) ?_
      refine lv_if_lt (tgt := 148) hx hb dX0_reckonStart_53 (by decide) (fun h => absurd h (nI_pos0 (by omega))) (fun _ => ?_)
      refine lv_iconst (v := 1) hx hb dX0_reckonStart_56 (by decide) ?_
      refine lv_iload_n hx hb dX0_reckonStart_57 rfl (lv_at hl 0 rfl) ?_
      refine lv_ishl hx hb dX0_reckonStart_58 ?_
      refine lv_ti (y := (nI (2 ^ q_5))) (shl1 q_5 (by omega)) ?_
      refine lv_istore (lv' := [(4, .int (nI (2 ^ q_5))), (3, .int (nI q_5)), (2, .int (nI zs_2)), (0, .ref w0), (1, .int (nI rn))]) hx hb dX0_reckonStart_59 hl (by decide) rfl (fun ls hl => ?_)
      have hp4_5 := pw4 (show q_5 ≤ 2 by omega)
      rcases Nat.lt_or_ge q_5 (sqN see n 0) with hjq_5 | hjq_5
      · have hpz_5 : 2 ^ q_5 < zs_2 := by rw [ezs_2]; exact pw_lt.mpr hjq_5
        refine lv_iconst (v := 0) hx hb dX0_reckonStart_61 (by decide) ?_
        refine lv_istore (lv' := [(5, .int 0), (4, .int (nI (2 ^ q_5))), (3, .int (nI q_5)), (2, .int (nI zs_2)), (0, .ref w0), (1, .int (nI rn))]) hx hb dX0_reckonStart_62 hl (by decide) rfl (fun ls hl => ?_)
        refine W_loop (σ := Nat × (Nat → Int32)) (fun (n_ : Nat) (x_ : Nat × (Nat → Int32)) (H : Heap) (locs : List Loc) (ls : Array Slot) => match x_ with | (g3_6, fo3_6) => n_ = 2 ^ q_5 - g3_6 ∧ (g3_6 ≤ 2 ^ q_5 ∧ (∀ h, h < g3_6 → fo3_6 h = pFo (sdX n see tm g ff fp) (fun h => pWo (sdX n see tm g ff fp) see rn E9 0 h) (sqN see n 0) ((sqN see n 0) - q_5) h) ∧ (∀ h, g3_6 ≤ h → h < 2 ^ (q_5 + 1) → fo3_6 h = pFo (sdX n see tm g ff fp) (fun h => pWo (sdX n see tm g ff fp) see rn E9 0 h) (sqN see n 0) ((sqN see n 0) - (q_5 + 1)) h)) ∧ va_P D classes [(h0, .inr (5, (fX5 h1 h2 h3 h4))), (aI k h1 10 (vv n see tm g)), (aI k h2 24 ff), (aI k h3 24 fp), (aI k h4 4 fl), (w0, .inr (0, (fX0 h0 w1 w2 w3 w4))), (aI k w1 768 on), (aI k w4 8 fo3_6)] H ∧ va_D A [(h0, .inr (5, (fX5 h1 h2 h3 h4))), (aI k h1 10 (vv n see tm g)), (aI k h2 24 ff), (aI k h3 24 fp), (aI k h4 4 fl), (w0, .inr (0, (fX0 h0 w1 w2 w3 w4))), (aI k w1 768 on), (aI k w4 8 fo3_6)] ∧ va_S A s.heap H locs ∧ lv_has ls 7 [(5, .int (nI g3_6)), (4, .int (nI (2 ^ q_5))), (3, .int (nI q_5)), (2, .int (nI zs_2)), (0, .ref w0), (1, .int (nI rn))]) (fun n_6 x_6 H locs ls hI ih_6 => ?_) _ (0, fo2_5) ⟨rfl, ⟨Nat.zero_le _, fun h hh => absurd hh (Nat.not_lt_zero h), fun h _ hh => hv_5.2 h (by rw [show min (q_5 + 1) (sqN see n 0) = q_5 + 1 by omega]; exact hh)⟩, hP, hD, hS, (lv_sub hl [0, 1, 2, 3, 4, 5] rfl)⟩
        obtain ⟨g3_6, fo3_6⟩ := x_6
        obtain ⟨hm_6, hv_6, hP, hD, hS, hl⟩ := hI
        subst hm_6
        refine lv_iload hx hb dX0_reckonStart_64 (lv_at hl 1 rfl) ?_
        refine lv_iload_n hx hb dX0_reckonStart_66 rfl (lv_at hl 3 rfl) ?_
        refine lv_icmp_ge (tgt := 142) hx hb dX0_reckonStart_67 (by decide) (fun h => absurd ((nI_leI (a := zs_2) (b := (2 ^ q_5)) (by omega) (by omega)).mp h) (by omega)) (fun _ => ?_)
        refine lv_iload hx hb dX0_reckonStart_70 (lv_at hl 0 rfl) ?_
        refine lv_iload hx hb dX0_reckonStart_72 (lv_at hl 1 rfl) ?_
        refine lv_icmp_ge (tgt := 142) hx hb dX0_reckonStart_74 (by decide) (fun c_8 => ?_) (fun c_8 => ?_)
        · have c_8 := (nI_leI (a := (2 ^ q_5)) (b := g3_6) (by omega) (by omega)).mp c_8
          refine lv_iinc (v := (nI q_5 - 1)) (lv' := [(3, .int (nI q_5 - 1)), (5, .int (nI g3_6)), (4, .int (nI (2 ^ q_5))), (2, .int (nI zs_2)), (0, .ref w0), (1, .int (nI rn))]) hx hb dX0_reckonStart_142 hl (k := 2) rfl (dn1 _) (by decide) rfl (fun ls hl => ?_)
          refine lv_goto (tgt := 52) hx hb dX0_reckonStart_145 (by decide) ?_
          exact ih_5 _ (q_5, fo3_6) _ _ _ (by omega) ⟨rfl, ⟨by omega, fun h hh => hv_6.2.1 h (by rw [show min q_5 (sqN see n 0) = q_5 by omega] at hh; omega)⟩, hP, hD, hS, (lv_sub hl [0, 3, 4, 5] rfl)⟩
        · have c_8 : ¬ ((2 ^ q_5) ≤ g3_6) := fun h => c_8 ((nI_leI (a := (2 ^ q_5)) (b := g3_6) (by omega) (by omega)).mpr h)
          refine lv_iload_n hx hb dX0_reckonStart_77 rfl (lv_at hl 2 rfl) ?_
          refine lv_if_le (tgt := 96) hx hb dX0_reckonStart_78 (by decide) (fun c_9 => ?_) (fun c_9 => ?_)
          · have c_9 := (nI_leI (a := q_5) (b := 0) (by omega) (by omega)).mp c_9
            refine lv_iconst (v := 0) hx hb dX0_reckonStart_96 (by decide) ?_
            refine lv_istore (lv' := [(6, .int 0), (5, .int (nI g3_6)), (4, .int (nI (2 ^ q_5))), (3, .int (nI q_5)), (2, .int (nI zs_2)), (0, .ref w0), (1, .int (nI rn))]) hx hb dX0_reckonStart_97 hl (by decide) rfl (fun ls hl => ?_)
            refine lv_aload_n hx hb dX0_reckonStart_99 rfl (lv_at hl 5 rfl) ?_
            refine va_get (D := D) (ci := 0) (v := .ref w4) (C := RX0) (T := TX0) (N := 5) hx hb hts inX0 hown hK hP 5 rfl rfl 4 (by decide) (hts _ tw_272) (fun _ h9 => h9) rfl dX0_reckonStart_100 ?_
            refine lv_iload hx hb dX0_reckonStart_103 (lv_at hl 1 rfl) ?_
            refine lv_aload_n hx hb dX0_reckonStart_105 rfl (lv_at hl 5 rfl) ?_
            refine va_get (D := D) (ci := 0) (v := .ref h0) (C := RX0) (T := TX0) (N := 5) hx hb hts inX0 hown hK hP 5 rfl rfl 0 (by decide) (hts _ tw_266) (fun _ h9 => h9) rfl dX0_reckonStart_106 ?_
            refine lv_iload_n hx hb dX0_reckonStart_109 rfl (lv_at hl 3 rfl) ?_
            refine lv_iload hx hb dX0_reckonStart_110 (lv_at hl 0 rfl) ?_
            refine ro_i (D := D) (va_runV (As := [.int (nI q_5), .int 0]) (rest := [.int (nI g3_6), .ref w4]) ⟨hx, hb, hml, hown, hts⟩ ((y_chanceOf l D k st lo h0 h1 h2 h3 h4 n see tm g ff q_5 0 (by first | assumption | omega)) H.size) (cwV 2 hts (gV tw_564 tw_565 tw_566 tw_81 tw_567) rfl rfl rfl (by decide +kernel) ⟨Nat.le_of_ble_eq_true rfl, Nat.le_of_ble_eq_true rfl⟩) (pV hS hAlo hlo hP hK (va_Dlo hD hAlo) hZ [0, 1, 2] (by decide) rfl (ci := 5) (q := (RX5, TX5, 4)) (q0 := 0) rfl rfl) rfl rfl hl.1 rfl (lv_room (Nat.le_of_ble_eq_true rfl)) dX0_reckonStart_112 ⟨Nat.le_of_ble_eq_true rfl, Nat.le_of_ble_eq_true rfl⟩) hS hA hP (fun r_10 H locs hw_10 hP hS => ?_)
            try dsimp only at hw_10
            refine lv_aload_n hx hb dX0_reckonStart_115 rfl (lv_at hl 5 rfl) ?_
            refine va_get (D := D) (ci := 0) (v := .ref w4) (C := RX0) (T := TX0) (N := 5) hx hb hts inX0 hown hK hP 5 rfl rfl 4 (by decide) (hts _ tw_272) (fun _ h9 => h9) rfl dX0_reckonStart_116 ?_
            refine lv_iload hx hb dX0_reckonStart_119 (lv_at hl 1 rfl) ?_
            refine lv_iload hx hb dX0_reckonStart_121 (lv_at hl 2 rfl) ?_
            refine lv_ior hx hb dX0_reckonStart_123 ?_
            refine lv_ti (y := (nI (g3_6 + 2 ^ q_5))) (or_bit2 q_5 (by omega) g3_6 (by omega)) ?_
            refine va_iald hx hb hK hP 7 1 rfl rfl (vp_in_nI (by omega) (by decide)) dX0_reckonStart_124 ?_
            refine lv_ti (y := (fo3_6 (g3_6 + 2 ^ q_5))) (by rw [nI_clamp (by omega)]) ?_
            refine lv_aload_n hx hb dX0_reckonStart_125 rfl (lv_at hl 5 rfl) ?_
            refine va_get (D := D) (ci := 0) (v := .ref w4) (C := RX0) (T := TX0) (N := 5) hx hb hts inX0 hown hK hP 5 rfl rfl 4 (by decide) (hts _ tw_272) (fun _ h9 => h9) rfl dX0_reckonStart_126 ?_
            refine lv_iload hx hb dX0_reckonStart_129 (lv_at hl 1 rfl) ?_
            refine va_iald hx hb hK hP 7 1 rfl rfl (vp_in_nI (by omega) (by decide)) dX0_reckonStart_131 ?_
            refine lv_ti (y := (fo3_6 g3_6)) (by rw [nI_clamp (by omega)]) ?_
            refine ro_i (D := D) (va_runSN (As := [.int r_10, .int (fo3_6 (g3_6 + 2 ^ q_5)), .int (fo3_6 g3_6)]) (rest := [.int (nI g3_6), .ref w4]) ⟨hx, hb, hml, hown, hts⟩ ((y_mixed l D k st lo r_10 (fo3_6 (g3_6 + 2 ^ q_5)) (fo3_6 g3_6)) H.size) ⟨va_cnB 3 hts (gLW tw_570) rfl rfl rfl (hZ.2.2.2.2.2.2.2.2.1.1 (RX0, 80, yX7_mixed, RX7) (List.mem_of_getElem? (i := 5) rfl)) (hts _ tw_79) (by decide +kernel) ⟨Nat.le_of_ble_eq_true rfl, Nat.le_of_ble_eq_true rfl⟩, hts _ tw_569, trivial⟩ (pS hS hAlo hlo hP hK (va_Dlo hD hAlo) hZ [] (by decide) rfl) rfl rfl hl.1 rfl (lv_room (Nat.le_of_ble_eq_true rfl)) dX0_reckonStart_132 ⟨Nat.le_of_ble_eq_true rfl, Nat.le_of_ble_eq_true rfl⟩) hS hA hP (fun r_11 H locs hw_11 hP hS => ?_)
            try dsimp only at hw_11
            refine va_iast hx hb hK hP hD hS 7 1 rfl rfl (vp_in_nI (by omega) (by decide)) dX0_reckonStart_135 (fun H locs hP hD hS => ?_)
            replace hP : va_P D classes [(h0, .inr (5, (fX5 h1 h2 h3 h4))), (aI k h1 10 (vv n see tm g)), (aI k h2 24 ff), (aI k h3 24 fp), (aI k h4 4 fl), (w0, .inr (0, (fX0 h0 w1 w2 w3 w4))), (aI k w1 768 on), (aI k w4 8 (upd fo3_6 (Int32.toNatClampNeg (nI g3_6)) r_11))] H := hP
            replace hD : va_D A [(h0, .inr (5, (fX5 h1 h2 h3 h4))), (aI k h1 10 (vv n see tm g)), (aI k h2 24 ff), (aI k h3 24 fp), (aI k h4 4 fl), (w0, .inr (0, (fX0 h0 w1 w2 w3 w4))), (aI k w1 768 on), (aI k w4 8 (upd fo3_6 (Int32.toNatClampNeg (nI g3_6)) r_11))] := hD
            rw [nI_clamp (n := g3_6) (by omega)] at hP hD
            replace hP : va_P D classes [(h0, .inr (5, (fX5 h1 h2 h3 h4))), (aI k h1 10 (vv n see tm g)), (aI k h2 24 ff), (aI k h3 24 fp), (aI k h4 4 fl), (w0, .inr (0, (fX0 h0 w1 w2 w3 w4))), (aI k w1 768 on), (aI k w4 8 (upd fo3_6 g3_6 r_11))] H := hP
            replace hD : va_D A [(h0, .inr (5, (fX5 h1 h2 h3 h4))), (aI k h1 10 (vv n see tm g)), (aI k h2 24 ff), (aI k h3 24 fp), (aI k h4 4 fl), (w0, .inr (0, (fX0 h0 w1 w2 w3 w4))), (aI k w1 768 on), (aI k w4 8 (upd fo3_6 g3_6 r_11))] := hD
            refine lv_iinc (v := (nI (g3_6 + 1))) (lv' := [(5, .int (nI (g3_6 + 1))), (6, .int 0), (4, .int (nI (2 ^ q_5))), (3, .int (nI q_5)), (2, .int (nI zs_2)), (0, .ref w0), (1, .int (nI rn))]) hx hb dX0_reckonStart_136 hl (k := 1) rfl (nI_add g3_6 1) (by decide) rfl (fun ls hl => ?_)
            refine lv_goto (tgt := 64) hx hb dX0_reckonStart_139 (by decide) ?_
            have hst_6 := fo_step (d := (sdX n see tm g ff fp)) (W := (fun h => pWo (sdX n see tm g ff fp) see rn E9 0 h)) (q := (sqN see n 0)) hjq_5 (show g3_6 < 2 ^ q_5 by omega) hv_6.2.1 hv_6.2.2 (by rw [(show pAh g3_6 q_5 = 0 by rw [show q_5 = 0 by omega]; exact ah_z)]; exact hw_10.trans (xChance (show q_5 < n by omega) (okX hok9 (show q_5 < n by omega)))) rfl rfl hw_11
            exact ih_6 _ (g3_6 + 1, (upd fo3_6 g3_6 r_11)) _ _ _ (by omega) ⟨rfl, ⟨by omega, hst_6.1, hst_6.2⟩, hP, hD, hS, (lv_sub hl [0, 2, 3, 4, 5, 6] rfl)⟩
          · have c_9 : ¬ (q_5 ≤ 0) := fun h => c_9 ((nI_leI (a := q_5) (b := 0) (by omega) (by omega)).mpr h)
            refine lv_iload hx hb dX0_reckonStart_81 (lv_at hl 0 rfl) ?_
            refine lv_iload_n hx hb dX0_reckonStart_83 rfl (lv_at hl 2 rfl) ?_
            refine lv_iconst (v := 1) hx hb dX0_reckonStart_84 (by decide) ?_
            refine lv_isub hx hb dX0_reckonStart_85 ?_
            refine lv_ti (y := (nI (q_5 - 1))) (pk_sub (a := q_5) (b := 1) (by omega)) ?_
            refine lv_ishr hx hb dX0_reckonStart_86 ?_
            refine lv_topi (fun x_13 ex_13 => ?_)
            refine lv_iconst (v := 1) hx hb dX0_reckonStart_87 (by decide) ?_
            refine lv_iand hx hb dX0_reckonStart_88 ?_
            refine lv_topi (fun x_14 ex_14 => ?_)
            refine lv_if_eq (tgt := 96) hx hb dX0_reckonStart_89 (by decide) (fun c_15 => ?_) (fun c_15 => ?_)
            · rw [ex_14, ex_13] at c_15
              refine lv_iconst (v := 0) hx hb dX0_reckonStart_96 (by decide) ?_
              refine lv_istore (lv' := [(6, .int 0), (5, .int (nI g3_6)), (4, .int (nI (2 ^ q_5))), (3, .int (nI q_5)), (2, .int (nI zs_2)), (0, .ref w0), (1, .int (nI rn))]) hx hb dX0_reckonStart_97 hl (by decide) rfl (fun ls hl => ?_)
              refine lv_aload_n hx hb dX0_reckonStart_99 rfl (lv_at hl 5 rfl) ?_
              refine va_get (D := D) (ci := 0) (v := .ref w4) (C := RX0) (T := TX0) (N := 5) hx hb hts inX0 hown hK hP 5 rfl rfl 4 (by decide) (hts _ tw_272) (fun _ h9 => h9) rfl dX0_reckonStart_100 ?_
              refine lv_iload hx hb dX0_reckonStart_103 (lv_at hl 1 rfl) ?_
              refine lv_aload_n hx hb dX0_reckonStart_105 rfl (lv_at hl 5 rfl) ?_
              refine va_get (D := D) (ci := 0) (v := .ref h0) (C := RX0) (T := TX0) (N := 5) hx hb hts inX0 hown hK hP 5 rfl rfl 0 (by decide) (hts _ tw_266) (fun _ h9 => h9) rfl dX0_reckonStart_106 ?_
              refine lv_iload_n hx hb dX0_reckonStart_109 rfl (lv_at hl 3 rfl) ?_
              refine lv_iload hx hb dX0_reckonStart_110 (lv_at hl 0 rfl) ?_
              refine ro_i (D := D) (va_runV (As := [.int (nI q_5), .int 0]) (rest := [.int (nI g3_6), .ref w4]) ⟨hx, hb, hml, hown, hts⟩ ((y_chanceOf l D k st lo h0 h1 h2 h3 h4 n see tm g ff q_5 0 (by first | assumption | omega)) H.size) (cwV 2 hts (gV tw_564 tw_565 tw_566 tw_81 tw_567) rfl rfl rfl (by decide +kernel) ⟨Nat.le_of_ble_eq_true rfl, Nat.le_of_ble_eq_true rfl⟩) (pV hS hAlo hlo hP hK (va_Dlo hD hAlo) hZ [0, 1, 2] (by decide) rfl (ci := 5) (q := (RX5, TX5, 4)) (q0 := 0) rfl rfl) rfl rfl hl.1 rfl (lv_room (Nat.le_of_ble_eq_true rfl)) dX0_reckonStart_112 ⟨Nat.le_of_ble_eq_true rfl, Nat.le_of_ble_eq_true rfl⟩) hS hA hP (fun r_16 H locs hw_16 hP hS => ?_)
              try dsimp only at hw_16
              refine lv_aload_n hx hb dX0_reckonStart_115 rfl (lv_at hl 5 rfl) ?_
              refine va_get (D := D) (ci := 0) (v := .ref w4) (C := RX0) (T := TX0) (N := 5) hx hb hts inX0 hown hK hP 5 rfl rfl 4 (by decide) (hts _ tw_272) (fun _ h9 => h9) rfl dX0_reckonStart_116 ?_
              refine lv_iload hx hb dX0_reckonStart_119 (lv_at hl 1 rfl) ?_
              refine lv_iload hx hb dX0_reckonStart_121 (lv_at hl 2 rfl) ?_
              refine lv_ior hx hb dX0_reckonStart_123 ?_
              refine lv_ti (y := (nI (g3_6 + 2 ^ q_5))) (or_bit2 q_5 (by omega) g3_6 (by omega)) ?_
              refine va_iald hx hb hK hP 7 1 rfl rfl (vp_in_nI (by omega) (by decide)) dX0_reckonStart_124 ?_
              refine lv_ti (y := (fo3_6 (g3_6 + 2 ^ q_5))) (by rw [nI_clamp (by omega)]) ?_
              refine lv_aload_n hx hb dX0_reckonStart_125 rfl (lv_at hl 5 rfl) ?_
              refine va_get (D := D) (ci := 0) (v := .ref w4) (C := RX0) (T := TX0) (N := 5) hx hb hts inX0 hown hK hP 5 rfl rfl 4 (by decide) (hts _ tw_272) (fun _ h9 => h9) rfl dX0_reckonStart_126 ?_
              refine lv_iload hx hb dX0_reckonStart_129 (lv_at hl 1 rfl) ?_
              refine va_iald hx hb hK hP 7 1 rfl rfl (vp_in_nI (by omega) (by decide)) dX0_reckonStart_131 ?_
              refine lv_ti (y := (fo3_6 g3_6)) (by rw [nI_clamp (by omega)]) ?_
              refine ro_i (D := D) (va_runSN (As := [.int r_16, .int (fo3_6 (g3_6 + 2 ^ q_5)), .int (fo3_6 g3_6)]) (rest := [.int (nI g3_6), .ref w4]) ⟨hx, hb, hml, hown, hts⟩ ((y_mixed l D k st lo r_16 (fo3_6 (g3_6 + 2 ^ q_5)) (fo3_6 g3_6)) H.size) ⟨va_cnB 3 hts (gLW tw_570) rfl rfl rfl (hZ.2.2.2.2.2.2.2.2.1.1 (RX0, 80, yX7_mixed, RX7) (List.mem_of_getElem? (i := 5) rfl)) (hts _ tw_79) (by decide +kernel) ⟨Nat.le_of_ble_eq_true rfl, Nat.le_of_ble_eq_true rfl⟩, hts _ tw_569, trivial⟩ (pS hS hAlo hlo hP hK (va_Dlo hD hAlo) hZ [] (by decide) rfl) rfl rfl hl.1 rfl (lv_room (Nat.le_of_ble_eq_true rfl)) dX0_reckonStart_132 ⟨Nat.le_of_ble_eq_true rfl, Nat.le_of_ble_eq_true rfl⟩) hS hA hP (fun r_17 H locs hw_17 hP hS => ?_)
              try dsimp only at hw_17
              refine va_iast hx hb hK hP hD hS 7 1 rfl rfl (vp_in_nI (by omega) (by decide)) dX0_reckonStart_135 (fun H locs hP hD hS => ?_)
              replace hP : va_P D classes [(h0, .inr (5, (fX5 h1 h2 h3 h4))), (aI k h1 10 (vv n see tm g)), (aI k h2 24 ff), (aI k h3 24 fp), (aI k h4 4 fl), (w0, .inr (0, (fX0 h0 w1 w2 w3 w4))), (aI k w1 768 on), (aI k w4 8 (upd fo3_6 (Int32.toNatClampNeg (nI g3_6)) r_17))] H := hP
              replace hD : va_D A [(h0, .inr (5, (fX5 h1 h2 h3 h4))), (aI k h1 10 (vv n see tm g)), (aI k h2 24 ff), (aI k h3 24 fp), (aI k h4 4 fl), (w0, .inr (0, (fX0 h0 w1 w2 w3 w4))), (aI k w1 768 on), (aI k w4 8 (upd fo3_6 (Int32.toNatClampNeg (nI g3_6)) r_17))] := hD
              rw [nI_clamp (n := g3_6) (by omega)] at hP hD
              replace hP : va_P D classes [(h0, .inr (5, (fX5 h1 h2 h3 h4))), (aI k h1 10 (vv n see tm g)), (aI k h2 24 ff), (aI k h3 24 fp), (aI k h4 4 fl), (w0, .inr (0, (fX0 h0 w1 w2 w3 w4))), (aI k w1 768 on), (aI k w4 8 (upd fo3_6 g3_6 r_17))] H := hP
              replace hD : va_D A [(h0, .inr (5, (fX5 h1 h2 h3 h4))), (aI k h1 10 (vv n see tm g)), (aI k h2 24 ff), (aI k h3 24 fp), (aI k h4 4 fl), (w0, .inr (0, (fX0 h0 w1 w2 w3 w4))), (aI k w1 768 on), (aI k w4 8 (upd fo3_6 g3_6 r_17))] := hD
              refine lv_iinc (v := (nI (g3_6 + 1))) (lv' := [(5, .int (nI (g3_6 + 1))), (6, .int 0), (4, .int (nI (2 ^ q_5))), (3, .int (nI q_5)), (2, .int (nI zs_2)), (0, .ref w0), (1, .int (nI rn))]) hx hb dX0_reckonStart_136 hl (k := 1) rfl (nI_add g3_6 1) (by decide) rfl (fun ls hl => ?_)
              refine lv_goto (tgt := 64) hx hb dX0_reckonStart_139 (by decide) ?_
              have hst_6 := fo_step (d := (sdX n see tm g ff fp)) (W := (fun h => pWo (sdX n see tm g ff fp) see rn E9 0 h)) (q := (sqN see n 0)) hjq_5 (show g3_6 < 2 ^ q_5 by omega) hv_6.2.1 hv_6.2.2 (by rw [(ah_0 (by omega) (by omega) c_15)]; exact hw_16.trans (xChance (show q_5 < n by omega) (okX hok9 (show q_5 < n by omega)))) rfl rfl hw_17
              exact ih_6 _ (g3_6 + 1, (upd fo3_6 g3_6 r_17)) _ _ _ (by omega) ⟨rfl, ⟨by omega, hst_6.1, hst_6.2⟩, hP, hD, hS, (lv_sub hl [0, 2, 3, 4, 5, 6] rfl)⟩
            · rw [ex_14, ex_13] at c_15
              refine lv_iconst (v := 1) hx hb dX0_reckonStart_92 (by decide) ?_
              refine lv_goto (tgt := 97) hx hb dX0_reckonStart_93 (by decide) ?_
              refine lv_istore (lv' := [(6, .int 1), (5, .int (nI g3_6)), (4, .int (nI (2 ^ q_5))), (3, .int (nI q_5)), (2, .int (nI zs_2)), (0, .ref w0), (1, .int (nI rn))]) hx hb dX0_reckonStart_97 hl (by decide) rfl (fun ls hl => ?_)
              refine lv_aload_n hx hb dX0_reckonStart_99 rfl (lv_at hl 5 rfl) ?_
              refine va_get (D := D) (ci := 0) (v := .ref w4) (C := RX0) (T := TX0) (N := 5) hx hb hts inX0 hown hK hP 5 rfl rfl 4 (by decide) (hts _ tw_272) (fun _ h9 => h9) rfl dX0_reckonStart_100 ?_
              refine lv_iload hx hb dX0_reckonStart_103 (lv_at hl 1 rfl) ?_
              refine lv_aload_n hx hb dX0_reckonStart_105 rfl (lv_at hl 5 rfl) ?_
              refine va_get (D := D) (ci := 0) (v := .ref h0) (C := RX0) (T := TX0) (N := 5) hx hb hts inX0 hown hK hP 5 rfl rfl 0 (by decide) (hts _ tw_266) (fun _ h9 => h9) rfl dX0_reckonStart_106 ?_
              refine lv_iload_n hx hb dX0_reckonStart_109 rfl (lv_at hl 3 rfl) ?_
              refine lv_iload hx hb dX0_reckonStart_110 (lv_at hl 0 rfl) ?_
              refine ro_i (D := D) (va_runV (As := [.int (nI q_5), .int 1]) (rest := [.int (nI g3_6), .ref w4]) ⟨hx, hb, hml, hown, hts⟩ ((y_chanceOf l D k st lo h0 h1 h2 h3 h4 n see tm g ff q_5 1 (by first | assumption | omega)) H.size) (cwV 2 hts (gV tw_564 tw_565 tw_566 tw_81 tw_567) rfl rfl rfl (by decide +kernel) ⟨Nat.le_of_ble_eq_true rfl, Nat.le_of_ble_eq_true rfl⟩) (pV hS hAlo hlo hP hK (va_Dlo hD hAlo) hZ [0, 1, 2] (by decide) rfl (ci := 5) (q := (RX5, TX5, 4)) (q0 := 0) rfl rfl) rfl rfl hl.1 rfl (lv_room (Nat.le_of_ble_eq_true rfl)) dX0_reckonStart_112 ⟨Nat.le_of_ble_eq_true rfl, Nat.le_of_ble_eq_true rfl⟩) hS hA hP (fun r_19 H locs hw_19 hP hS => ?_)
              try dsimp only at hw_19
              refine lv_aload_n hx hb dX0_reckonStart_115 rfl (lv_at hl 5 rfl) ?_
              refine va_get (D := D) (ci := 0) (v := .ref w4) (C := RX0) (T := TX0) (N := 5) hx hb hts inX0 hown hK hP 5 rfl rfl 4 (by decide) (hts _ tw_272) (fun _ h9 => h9) rfl dX0_reckonStart_116 ?_
              refine lv_iload hx hb dX0_reckonStart_119 (lv_at hl 1 rfl) ?_
              refine lv_iload hx hb dX0_reckonStart_121 (lv_at hl 2 rfl) ?_
              refine lv_ior hx hb dX0_reckonStart_123 ?_
              refine lv_ti (y := (nI (g3_6 + 2 ^ q_5))) (or_bit2 q_5 (by omega) g3_6 (by omega)) ?_
              refine va_iald hx hb hK hP 7 1 rfl rfl (vp_in_nI (by omega) (by decide)) dX0_reckonStart_124 ?_
              refine lv_ti (y := (fo3_6 (g3_6 + 2 ^ q_5))) (by rw [nI_clamp (by omega)]) ?_
              refine lv_aload_n hx hb dX0_reckonStart_125 rfl (lv_at hl 5 rfl) ?_
              refine va_get (D := D) (ci := 0) (v := .ref w4) (C := RX0) (T := TX0) (N := 5) hx hb hts inX0 hown hK hP 5 rfl rfl 4 (by decide) (hts _ tw_272) (fun _ h9 => h9) rfl dX0_reckonStart_126 ?_
              refine lv_iload hx hb dX0_reckonStart_129 (lv_at hl 1 rfl) ?_
              refine va_iald hx hb hK hP 7 1 rfl rfl (vp_in_nI (by omega) (by decide)) dX0_reckonStart_131 ?_
              refine lv_ti (y := (fo3_6 g3_6)) (by rw [nI_clamp (by omega)]) ?_
              refine ro_i (D := D) (va_runSN (As := [.int r_19, .int (fo3_6 (g3_6 + 2 ^ q_5)), .int (fo3_6 g3_6)]) (rest := [.int (nI g3_6), .ref w4]) ⟨hx, hb, hml, hown, hts⟩ ((y_mixed l D k st lo r_19 (fo3_6 (g3_6 + 2 ^ q_5)) (fo3_6 g3_6)) H.size) ⟨va_cnB 3 hts (gLW tw_570) rfl rfl rfl (hZ.2.2.2.2.2.2.2.2.1.1 (RX0, 80, yX7_mixed, RX7) (List.mem_of_getElem? (i := 5) rfl)) (hts _ tw_79) (by decide +kernel) ⟨Nat.le_of_ble_eq_true rfl, Nat.le_of_ble_eq_true rfl⟩, hts _ tw_569, trivial⟩ (pS hS hAlo hlo hP hK (va_Dlo hD hAlo) hZ [] (by decide) rfl) rfl rfl hl.1 rfl (lv_room (Nat.le_of_ble_eq_true rfl)) dX0_reckonStart_132 ⟨Nat.le_of_ble_eq_true rfl, Nat.le_of_ble_eq_true rfl⟩) hS hA hP (fun r_20 H locs hw_20 hP hS => ?_)
              try dsimp only at hw_20
              refine va_iast hx hb hK hP hD hS 7 1 rfl rfl (vp_in_nI (by omega) (by decide)) dX0_reckonStart_135 (fun H locs hP hD hS => ?_)
              replace hP : va_P D classes [(h0, .inr (5, (fX5 h1 h2 h3 h4))), (aI k h1 10 (vv n see tm g)), (aI k h2 24 ff), (aI k h3 24 fp), (aI k h4 4 fl), (w0, .inr (0, (fX0 h0 w1 w2 w3 w4))), (aI k w1 768 on), (aI k w4 8 (upd fo3_6 (Int32.toNatClampNeg (nI g3_6)) r_20))] H := hP
              replace hD : va_D A [(h0, .inr (5, (fX5 h1 h2 h3 h4))), (aI k h1 10 (vv n see tm g)), (aI k h2 24 ff), (aI k h3 24 fp), (aI k h4 4 fl), (w0, .inr (0, (fX0 h0 w1 w2 w3 w4))), (aI k w1 768 on), (aI k w4 8 (upd fo3_6 (Int32.toNatClampNeg (nI g3_6)) r_20))] := hD
              rw [nI_clamp (n := g3_6) (by omega)] at hP hD
              replace hP : va_P D classes [(h0, .inr (5, (fX5 h1 h2 h3 h4))), (aI k h1 10 (vv n see tm g)), (aI k h2 24 ff), (aI k h3 24 fp), (aI k h4 4 fl), (w0, .inr (0, (fX0 h0 w1 w2 w3 w4))), (aI k w1 768 on), (aI k w4 8 (upd fo3_6 g3_6 r_20))] H := hP
              replace hD : va_D A [(h0, .inr (5, (fX5 h1 h2 h3 h4))), (aI k h1 10 (vv n see tm g)), (aI k h2 24 ff), (aI k h3 24 fp), (aI k h4 4 fl), (w0, .inr (0, (fX0 h0 w1 w2 w3 w4))), (aI k w1 768 on), (aI k w4 8 (upd fo3_6 g3_6 r_20))] := hD
              refine lv_iinc (v := (nI (g3_6 + 1))) (lv' := [(5, .int (nI (g3_6 + 1))), (6, .int 1), (4, .int (nI (2 ^ q_5))), (3, .int (nI q_5)), (2, .int (nI zs_2)), (0, .ref w0), (1, .int (nI rn))]) hx hb dX0_reckonStart_136 hl (k := 1) rfl (nI_add g3_6 1) (by decide) rfl (fun ls hl => ?_)
              refine lv_goto (tgt := 64) hx hb dX0_reckonStart_139 (by decide) ?_
              have hst_6 := fo_step (d := (sdX n see tm g ff fp)) (W := (fun h => pWo (sdX n see tm g ff fp) see rn E9 0 h)) (q := (sqN see n 0)) hjq_5 (show g3_6 < 2 ^ q_5 by omega) hv_6.2.1 hv_6.2.2 (by rw [(ah_1 (by omega) (by omega) (by omega) c_15)]; exact hw_19.trans (xChance (show q_5 < n by omega) (okX hok9 (show q_5 < n by omega)))) rfl rfl hw_20
              exact ih_6 _ (g3_6 + 1, (upd fo3_6 g3_6 r_20)) _ _ _ (by omega) ⟨rfl, ⟨by omega, hst_6.1, hst_6.2⟩, hP, hD, hS, (lv_sub hl [0, 2, 3, 4, 5, 6] rfl)⟩
      · have hpz_5 : zs_2 ≤ 2 ^ q_5 := by rw [ezs_2]; exact Nat.pow_le_pow_right (by omega) hjq_5
        refine lv_iconst (v := 0) hx hb dX0_reckonStart_61 (by decide) ?_
        refine lv_istore (lv' := [(5, .int 0), (4, .int (nI (2 ^ q_5))), (3, .int (nI q_5)), (2, .int (nI zs_2)), (0, .ref w0), (1, .int (nI rn))]) hx hb dX0_reckonStart_62 hl (by decide) rfl (fun ls hl => ?_)
        refine lv_iload hx hb dX0_reckonStart_64 (lv_at hl 1 rfl) ?_
        refine lv_iload_n hx hb dX0_reckonStart_66 rfl (lv_at hl 3 rfl) ?_
        refine lv_icmp_ge (tgt := 142) hx hb dX0_reckonStart_67 (by decide) (fun _ => ?_) (fun h => absurd ((nI_leI (a := zs_2) (b := (2 ^ q_5)) (by omega) (by omega)).mpr (by omega)) h)
        refine lv_iinc (v := (nI q_5 - 1)) (lv' := [(3, .int (nI q_5 - 1)), (5, .int 0), (4, .int (nI (2 ^ q_5))), (2, .int (nI zs_2)), (0, .ref w0), (1, .int (nI rn))]) hx hb dX0_reckonStart_142 hl (k := 2) rfl (dn1 _) (by decide) rfl (fun ls hl => ?_)
        refine lv_goto (tgt := 52) hx hb dX0_reckonStart_145 (by decide) ?_
        exact ih_5 _ (q_5, fo2_5) _ _ _ (by omega) ⟨rfl, ⟨by omega, fun h hh => by have h9 := hv_5.2 h (by rw [show min (q_5 + 1) (sqN see n 0) = min q_5 (sqN see n 0) by omega]; exact hh); rw [show (sqN see n 0) - (q_5 + 1) = (sqN see n 0) - q_5 by omega] at h9; exact h9⟩, hP, hD, hS, (lv_sub hl [0, 3, 4, 5] rfl)⟩
  · have c_4 : ¬ (zs_2 ≤ g2_3) := fun h => c_4 ((nI_leI (a := zs_2) (b := g2_3) (by omega) (by omega)).mpr h)
    refine lv_iload_n hx hb dX0_reckonStart_16 rfl (lv_at hl 0 rfl) ?_
    refine lv_bipush (v := 8) hx hb dX0_reckonStart_17 (by decide) ?_
    refine lv_icmp_ge (tgt := 41) hx hb dX0_reckonStart_19 (by decide) (fun c_23 => ?_) (fun c_23 => ?_)
    · have c_23 := (nI_leI (a := 8) (b := g2_3) (by omega) (by omega)).mp c_23
      exact absurd c_23 (by omega)
    · have c_23 : ¬ (8 ≤ g2_3) := fun h => c_23 ((nI_leI (a := 8) (b := g2_3) (by omega) (by omega)).mpr h)
      refine lv_aload_n hx hb dX0_reckonStart_22 rfl (lv_at hl 2 rfl) ?_
      refine va_get (D := D) (ci := 0) (v := .ref w4) (C := RX0) (T := TX0) (N := 5) hx hb hts inX0 hown hK hP 5 rfl rfl 4 (by decide) (hts _ tw_272) (fun _ h9 => h9) rfl dX0_reckonStart_23 ?_
      refine lv_iload_n hx hb dX0_reckonStart_26 rfl (lv_at hl 0 rfl) ?_
      refine lv_aload_n hx hb dX0_reckonStart_27 rfl (lv_at hl 2 rfl) ?_
      refine lv_iload_n hx hb dX0_reckonStart_28 rfl (lv_at hl 3 rfl) ?_
      refine lv_iconst (v := 0) hx hb dX0_reckonStart_29 (by decide) ?_
      refine lv_iload_n hx hb dX0_reckonStart_30 rfl (lv_at hl 0 rfl) ?_
      refine ro_i (D := D) (va_runV (As := [.int (nI rn), .int 0, .int (nI g2_3)]) (rest := [.int (nI g2_3), .ref w4]) ⟨hx, hb, hml, hown, hts⟩ ((y_worthOf l D k st lo h0 h1 h2 h3 h4 n see tm g ff fp fl w0 w1 w2 w3 w4 on rn 0 g2_3 (by first | assumption | omega) (by first | assumption | omega) (by first | assumption | omega) (by first | assumption | omega) hl9) H.size) (cwV 3 hts (gV tw_545 tw_546 tw_547 tw_85 tw_548) rfl rfl rfl (by decide +kernel) ⟨Nat.le_of_ble_eq_true rfl, Nat.le_of_ble_eq_true rfl⟩) (pV hS hAlo hlo hP hK (va_Dlo hD hAlo) hZ [0, 1, 2, 3, 4, 5, 6] (by decide) rfl (ci := 0) (q := (RX0, TX0, 5)) (q0 := 5) rfl rfl) rfl rfl hl.1 rfl (lv_room (Nat.le_of_ble_eq_true rfl)) dX0_reckonStart_31 ⟨Nat.le_of_ble_eq_true rfl, Nat.le_of_ble_eq_true rfl⟩) hS hA hP (fun r_24 H locs hw_24 hP hS => ?_)
      try dsimp only at hw_24
      refine va_iast hx hb hK hP hD hS 7 1 rfl rfl (vp_in_nI (by omega) (by decide)) dX0_reckonStart_34 (fun H locs hP hD hS => ?_)
      replace hP : va_P D classes [(h0, .inr (5, (fX5 h1 h2 h3 h4))), (aI k h1 10 (vv n see tm g)), (aI k h2 24 ff), (aI k h3 24 fp), (aI k h4 4 fl), (w0, .inr (0, (fX0 h0 w1 w2 w3 w4))), (aI k w1 768 on), (aI k w4 8 (upd fo2_3 (Int32.toNatClampNeg (nI g2_3)) r_24))] H := hP
      replace hD : va_D A [(h0, .inr (5, (fX5 h1 h2 h3 h4))), (aI k h1 10 (vv n see tm g)), (aI k h2 24 ff), (aI k h3 24 fp), (aI k h4 4 fl), (w0, .inr (0, (fX0 h0 w1 w2 w3 w4))), (aI k w1 768 on), (aI k w4 8 (upd fo2_3 (Int32.toNatClampNeg (nI g2_3)) r_24))] := hD
      rw [nI_clamp (n := g2_3) (by omega)] at hP hD
      replace hP : va_P D classes [(h0, .inr (5, (fX5 h1 h2 h3 h4))), (aI k h1 10 (vv n see tm g)), (aI k h2 24 ff), (aI k h3 24 fp), (aI k h4 4 fl), (w0, .inr (0, (fX0 h0 w1 w2 w3 w4))), (aI k w1 768 on), (aI k w4 8 (upd fo2_3 g2_3 r_24))] H := hP
      replace hD : va_D A [(h0, .inr (5, (fX5 h1 h2 h3 h4))), (aI k h1 10 (vv n see tm g)), (aI k h2 24 ff), (aI k h3 24 fp), (aI k h4 4 fl), (w0, .inr (0, (fX0 h0 w1 w2 w3 w4))), (aI k w1 768 on), (aI k w4 8 (upd fo2_3 g2_3 r_24))] := hD
      refine lv_iinc (v := (nI (g2_3 + 1))) (lv' := [(3, .int (nI (g2_3 + 1))), (2, .int (nI zs_2)), (0, .ref w0), (1, .int (nI rn))]) hx hb dX0_reckonStart_35 hl (k := 0) rfl (nI_add g2_3 1) (by decide) rfl (fun ls hl => ?_)
      refine lv_goto (tgt := 11) hx hb dX0_reckonStart_38 (by decide) ?_
      exact ih_3 _ (g2_3 + 1, (upd fo2_3 g2_3 r_24)) _ _ _ (by omega) ⟨rfl, ⟨by omega, la_upd hv_3.2 (hw_24.trans (congrArg (fun z => pW (sdX n see tm g ff fp) rn 0 z g2_3) (hE 0 (by omega) (show 0 < n by omega) g2_3 (show g2_3 < 2 ^ sqN see n 0 by rw [← ezs_2]; omega))))⟩, hP, hD, hS, (lv_sub hl [0, 1, 2, 3] rfl)⟩


set_option maxHeartbeats 4000000 in
set_option maxRecDepth 100000 in
theorem y_reckon (l : Launch) (D : va_G) (k : Nat → ClassId) (st : Nat → Nat) (lo : Nat) (h0 : Nat) (h1 : Nat) (h2 : Nat) (h3 : Nat) (h4 : Nat) (n : Nat) (see : Nat) (tm : Nat) (g : Nat → Int32) (ff : Nat → Int32) (fp : Nat → Int32) (fl : Nat → Int32) (w0 : Nat) (w1 : Nat) (w2 : Nat) (w3 : Nat) (w4 : Nat) (on : Nat → Int32) (sr : Nat → Int32) (en : Nat → Int32) (fo : Nat → Int32) (hn : n ≤ 24) (hsee : see ≤ 2) (htm9 : tm ≤ 3) (hl9 : ∀ r, r < 4 → fl r = pLate (sdX n see tm g ff fp) r) (hok9 : okD (sdX n see tm g ff fp)) (hn1 : 1 ≤ n) : CWv l D k st lo yX0_reckon cX0_reckon 3 none ({ frames := 5, cells := 0, slots := 0, locals := 136 }) 0 0 [.ref w0] [(h0, .inr (5, (fX5 h1 h2 h3 h4))), (aI k h1 10 (vv n see tm g)), (aI k h2 24 ff), (aI k h3 24 fp), (aI k h4 4 fl), (w0, .inr (0, (fX0 h0 w1 w2 w3 w4))), (aI k w1 768 on), (aI k w2 4 sr), (aI k w3 4 en), (aI k w4 8 fo)] (fun (u : (Nat → Int32) × (Nat → Int32) × (Nat → Int32) × (Nat → Int32)) => match u with | (on_, sr_, en_, fo_) => wyOK (sdX n see tm g ff fp) see tm 0 on_ sr_ en_) (fun (u : (Nat → Int32) × (Nat → Int32) × (Nat → Int32) × (Nat → Int32)) => match u with | (on_, sr_, en_, fo_) => [(h0, .inr (5, (fX5 h1 h2 h3 h4))), (aI k h1 10 (vv n see tm g)), (aI k h2 24 ff), (aI k h3 24 fp), (aI k h4 4 fl), (w0, .inr (0, (fX0 h0 w1 w2 w3 w4))), (aI k w1 768 on_), (aI k w2 4 sr_), (aI k w3 4 en_), (aI k w4 8 fo_)]) := by
  intro sz
  refine Met.ofW (cc := cX0_reckon) (maxL := 3) (ret := none) (by decide) rfl ?_
  intro p e s m args below meth c s₁ B hml hv
  obtain ⟨rfl, hsz, hlo, hP, hK, hDL, hZ⟩ := hv
  have hx := B.exec
  have hb := B.bytes
  have hr := B.returns
  have hts := WS_ts B.pre
  have hown : s.vm.findClass RX0 = some m.cls := findClass_of_methodNamed B.named
  have hlocks := B.notSynchronized
  subst hsz
  have hD := hDL.self (sz := s.heap.size)
  have hAlo := A_lo hDL hlo
  generalize hAe : va_A [(h0, .inr (5, (fX5 h1 h2 h3 h4))), (aI k h1 10 (vv n see tm g)), (aI k h2 24 ff), (aI k h3 24 fp), (aI k h4 4 fl), (w0, .inr (0, (fX0 h0 w1 w2 w3 w4))), (aI k w1 768 on), (aI k w2 4 sr), (aI k w3 4 en), (aI k w4 8 fo)] s.heap.size = A at hD hAlo ⊢
  have hA : ∀ q : Nat, s.heap.size ≤ q → A q := fun q h => by rw [← hAe]; exact Or.inr h
  have hS : va_S A s.heap s.heap [] := va_S.rf
  have hl := lv_entry ([.ref w0]) (n := 3) (Nat.le_of_ble_eq_true rfl)
  rw [lg_entry_eq]
  generalize (lg_sl ([.ref w0]) ++ List.replicate (3 - (lg_sl ([.ref w0])).length) Slot.unset).toArray = ls at hl ⊢
  have hl : lv_has ls 3 [(0, .ref w0)] := hl
  refine lv_aload_n hx hb dX0_reckon_0 rfl (lv_at hl 0 rfl) ?_
  refine va_get (D := D) (ci := 0) (v := .ref h0) (C := RX0) (T := TX0) (N := 5) hx hb hts inX0 hown hK hP 5 rfl rfl 0 (by decide) (hts _ tw_266) (fun _ h9 => h9) rfl dX0_reckon_1 ?_
  refine va_get (D := D) (ci := 5) (v := .ref h1) (C := RX5) (T := TX5) (N := 4) hx hb hts inX5 hown hK hP 0 rfl rfl 0 (by decide) (hts _ tw_147) (fun _ h9 => h9) rfl dX0_reckon_4 ?_
  refine lv_bipush (v := 8) hx hb dX0_reckon_7 (by decide) ?_
  refine va_iald hx hb hK hP 1 1 rfl rfl (by unfold vp_in; decide) dX0_reckon_9 ?_
  refine lv_ti (y := (nI tm)) (by rfl) ?_
  refine lv_istore_n (lv' := [(1, .int (nI tm)), (0, .ref w0)]) hx hb dX0_reckon_10 rfl hl (by decide) rfl (fun ls hl => ?_)
  refine W_loop (σ := Nat × (Nat → Int32) × (Nat → Int32) × (Nat → Int32) × (Nat → Int32)) (fun (n_ : Nat) (x_ : Nat × (Nat → Int32) × (Nat → Int32) × (Nat → Int32) × (Nat → Int32)) (H : Heap) (locs : List Loc) (ls : Array Slot) => match x_ with | (q_1, on2_1, sr2_1, en2_1, fo2_1) => n_ = 2 * q_1 ∧ (q_1 ≤ tm + 1 ∧ wyOK (sdX n see tm g ff fp) see tm q_1 on2_1 sr2_1 en2_1) ∧ va_P D classes [(h0, .inr (5, (fX5 h1 h2 h3 h4))), (aI k h1 10 (vv n see tm g)), (aI k h2 24 ff), (aI k h3 24 fp), (aI k h4 4 fl), (w0, .inr (0, (fX0 h0 w1 w2 w3 w4))), (aI k w1 768 on2_1), (aI k w2 4 sr2_1), (aI k w3 4 en2_1), (aI k w4 8 fo2_1)] H ∧ va_D A [(h0, .inr (5, (fX5 h1 h2 h3 h4))), (aI k h1 10 (vv n see tm g)), (aI k h2 24 ff), (aI k h3 24 fp), (aI k h4 4 fl), (w0, .inr (0, (fX0 h0 w1 w2 w3 w4))), (aI k w1 768 on2_1), (aI k w2 4 sr2_1), (aI k w3 4 en2_1), (aI k w4 8 fo2_1)] ∧ va_S A s.heap H locs ∧ lv_has ls 3 [(1, .int (nI q_1 - 1)), (0, .ref w0)]) (fun n_1 x_1 H locs ls hI ih_1 => ?_) _ (tm + 1, on, sr, en, fo) ⟨rfl, ⟨by omega, fun r h1 h2 => absurd h1 (by omega)⟩, hP, hD, hS, (by rw [nI_pred]; exact lv_sub hl [0, 1] rfl)⟩
  obtain ⟨q_1, on2_1, sr2_1, en2_1, fo2_1⟩ := x_1
  obtain ⟨hm_1, hv_1, hP, hD, hS, hl⟩ := hI
  subst hm_1
  rcases q_1 with _ | q_1
  · rw [dn0] at hl
    refine lv_iload_n hx hb dX0_reckon_11 rfl (lv_at hl 0 rfl) ?_
    refine lv_if_lt (tgt := 69) hx hb dX0_reckon_12 (by decide) (fun _ => ?_) (fun h => absurd (by decide) h)
    have hP9 := hP.sub (ws' := [(h0, .inr (5, (fX5 h1 h2 h3 h4))), (aI k h1 10 (vv n see tm g)), (aI k h2 24 ff), (aI k h3 24 fp), (aI k h4 4 fl), (w0, .inr (0, (fX0 h0 w1 w2 w3 w4))), (aI k w1 768 on2_1), (aI k w2 4 sr2_1), (aI k w3 4 en2_1), (aI k w4 8 fo2_1)]) [0, 1, 2, 3, 4, 5, 6, 7, 8, 9] rfl
    have hD9 := hD.sub (ws' := [(h0, .inr (5, (fX5 h1 h2 h3 h4))), (aI k h1 10 (vv n see tm g)), (aI k h2 24 ff), (aI k h3 24 fp), (aI k h4 4 fl), (w0, .inr (0, (fX0 h0 w1 w2 w3 w4))), (aI k w1 768 on2_1), (aI k w2 4 sr2_1), (aI k w3 4 en2_1), (aI k w4 8 fo2_1)]) [0, 1, 2, 3, 4, 5, 6, 7, 8, 9] (by decide +kernel) rfl
    exact W.vret hx hb hr (fun t ht hW => ⟨⟨(on2_1, sr2_1, en2_1, fo2_1), rfl, hv_1.2, by rw [ht]; exact hP9, hD9⟩, hS.F ht⟩) hS.2.2 dX0_reckon_69
  · rw [nI_pred] at hl
    refine lv_iload_n hx hb dX0_reckon_11 rfl (lv_at hl 0 rfl) ?_
    refine lv_if_lt (tgt := 69) hx hb dX0_reckon_12 (by decide) (fun h => absurd h (nI_pos0 (by omega))) (fun _ => ?_)
    refine lv_aload_n hx hb dX0_reckon_15 rfl (lv_at hl 1 rfl) ?_
    refine va_get (D := D) (ci := 0) (v := .ref w3) (C := RX0) (T := TX0) (N := 5) hx hb hts inX0 hown hK hP 5 rfl rfl 3 (by decide) (hts _ tw_270) (fun _ h9 => h9) rfl dX0_reckon_16 ?_
    refine lv_iload_n hx hb dX0_reckon_19 rfl (lv_at hl 0 rfl) ?_
    refine lv_aload_n hx hb dX0_reckon_20 rfl (lv_at hl 1 rfl) ?_
    refine lv_iload_n hx hb dX0_reckon_21 rfl (lv_at hl 0 rfl) ?_
    refine ro_i (D := D) (va_runV (As := [.int (nI q_1)]) (rest := [.int (nI q_1), .ref w3]) ⟨hx, hb, hml, hown, hts⟩ ((y_reckonEnd l D k st lo h0 h1 h2 h3 h4 n see tm g ff fp fl w0 w1 w2 w3 w4 sr2_1 q_1 (by first | assumption | omega) (by first | assumption | omega) hl9) H.size) (cwV 1 hts (gV tw_516 tw_518 tw_4 tw_85 tw_519) rfl rfl rfl (by decide +kernel) ⟨Nat.le_of_ble_eq_true rfl, Nat.le_of_ble_eq_true rfl⟩) (pV hS hAlo hlo hP hK (va_Dlo hD hAlo) hZ [0, 1, 2, 3, 4, 5, 7] (by decide) rfl (ci := 0) (q := (RX0, TX0, 5)) (q0 := 5) rfl rfl) rfl rfl hl.1 rfl (lv_room (Nat.le_of_ble_eq_true rfl)) dX0_reckon_22 ⟨Nat.le_of_ble_eq_true rfl, Nat.le_of_ble_eq_true rfl⟩) hS hA hP (fun r_2 H locs hw_2 hP hS => ?_)
    try dsimp only at hw_2
    refine va_iast hx hb hK hP hD hS 8 1 rfl rfl (vp_in_nI (by omega) (by decide)) dX0_reckon_25 (fun H locs hP hD hS => ?_)
    replace hP : va_P D classes [(h0, .inr (5, (fX5 h1 h2 h3 h4))), (aI k h1 10 (vv n see tm g)), (aI k h2 24 ff), (aI k h3 24 fp), (aI k h4 4 fl), (w0, .inr (0, (fX0 h0 w1 w2 w3 w4))), (aI k w1 768 on2_1), (aI k w2 4 sr2_1), (aI k w3 4 (upd en2_1 (Int32.toNatClampNeg (nI q_1)) r_2)), (aI k w4 8 fo2_1)] H := hP
    replace hD : va_D A [(h0, .inr (5, (fX5 h1 h2 h3 h4))), (aI k h1 10 (vv n see tm g)), (aI k h2 24 ff), (aI k h3 24 fp), (aI k h4 4 fl), (w0, .inr (0, (fX0 h0 w1 w2 w3 w4))), (aI k w1 768 on2_1), (aI k w2 4 sr2_1), (aI k w3 4 (upd en2_1 (Int32.toNatClampNeg (nI q_1)) r_2)), (aI k w4 8 fo2_1)] := hD
    rw [nI_clamp (n := q_1) (by omega)] at hP hD
    replace hP : va_P D classes [(h0, .inr (5, (fX5 h1 h2 h3 h4))), (aI k h1 10 (vv n see tm g)), (aI k h2 24 ff), (aI k h3 24 fp), (aI k h4 4 fl), (w0, .inr (0, (fX0 h0 w1 w2 w3 w4))), (aI k w1 768 on2_1), (aI k w2 4 sr2_1), (aI k w3 4 (upd en2_1 q_1 r_2)), (aI k w4 8 fo2_1)] H := hP
    replace hD : va_D A [(h0, .inr (5, (fX5 h1 h2 h3 h4))), (aI k h1 10 (vv n see tm g)), (aI k h2 24 ff), (aI k h3 24 fp), (aI k h4 4 fl), (w0, .inr (0, (fX0 h0 w1 w2 w3 w4))), (aI k w1 768 on2_1), (aI k w2 4 sr2_1), (aI k w3 4 (upd en2_1 q_1 r_2)), (aI k w4 8 fo2_1)] := hD
    have hen_1 : r_2 = pEr (sdX n see tm g ff fp) see tm q_1 := by rw [hw_2]; rcases Nat.lt_or_ge q_1 tm with h | h; rw [if_neg (by omega), (hv_1.2 (q_1 + 1) (by omega) (by omega)).2.1, pEr_ahead h]; rw [if_pos h, show q_1 = tm by omega, pEr_last]
    refine lv_aload_n hx hb dX0_reckon_26 rfl (lv_at hl 1 rfl) ?_
    refine va_get (D := D) (ci := 0) (v := .ref h0) (C := RX0) (T := TX0) (N := 5) hx hb hts inX0 hown hK hP 5 rfl rfl 0 (by decide) (hts _ tw_266) (fun _ h9 => h9) rfl dX0_reckon_27 ?_
    refine ro_i (D := D) (va_runV (As := []) (rest := []) ⟨hx, hb, hml, hown, hts⟩ ((x_doors l D k st lo h0 h1 h2 h3 h4 n see tm g) H.size) (cwV 0 hts (gV tw_531 tw_478 tw_479 tw_81 tw_480) rfl rfl rfl (by decide +kernel) ⟨Nat.le_of_ble_eq_true rfl, Nat.le_of_ble_eq_true rfl⟩) (pV hS hAlo hlo hP hK (va_Dlo hD hAlo) hZ [0, 1] (by decide) rfl (ci := 5) (q := (RX5, TX5, 4)) (q0 := 0) rfl rfl) rfl rfl hl.1 rfl (lv_room (Nat.le_of_ble_eq_true rfl)) dX0_reckon_30 ⟨Nat.le_of_ble_eq_true rfl, Nat.le_of_ble_eq_true rfl⟩) hS hA hP (fun r_4 H locs hw_4 hP hS => ?_)
    try dsimp only at hw_4
    subst hw_4
    refine lv_iconst (v := 1) hx hb dX0_reckon_33 (by decide) ?_
    refine lv_isub hx hb dX0_reckon_34 ?_
    refine lv_ti (y := (nI n - 1)) rfl ?_
    refine lv_istore_n (lv' := [(2, .int (nI n - 1)), (1, .int (nI q_1)), (0, .ref w0)]) hx hb dX0_reckon_35 rfl hl (by decide) rfl (fun ls hl => ?_)
    refine W_loop (σ := Nat × (Nat → Int32)) (fun (n_ : Nat) (x_ : Nat × (Nat → Int32)) (H : Heap) (locs : List Loc) (ls : Array Slot) => match x_ with | (qi_5, on3_5) => n_ = 2 * qi_5 ∧ (qi_5 ≤ n ∧ onOK (sdX n see tm g ff fp) see q_1 ((upd en2_1 q_1 r_2) q_1) qi_5 on3_5 ∧ (∀ x, ¬ (192 * q_1 ≤ x ∧ x < 192 * q_1 + 192) → on3_5 x = on2_1 x)) ∧ va_P D classes [(h0, .inr (5, (fX5 h1 h2 h3 h4))), (aI k h1 10 (vv n see tm g)), (aI k h2 24 ff), (aI k h3 24 fp), (aI k h4 4 fl), (w0, .inr (0, (fX0 h0 w1 w2 w3 w4))), (aI k w1 768 on3_5), (aI k w2 4 sr2_1), (aI k w3 4 (upd en2_1 q_1 r_2)), (aI k w4 8 fo2_1)] H ∧ va_D A [(h0, .inr (5, (fX5 h1 h2 h3 h4))), (aI k h1 10 (vv n see tm g)), (aI k h2 24 ff), (aI k h3 24 fp), (aI k h4 4 fl), (w0, .inr (0, (fX0 h0 w1 w2 w3 w4))), (aI k w1 768 on3_5), (aI k w2 4 sr2_1), (aI k w3 4 (upd en2_1 q_1 r_2)), (aI k w4 8 fo2_1)] ∧ va_S A s.heap H locs ∧ lv_has ls 3 [(2, .int (nI qi_5 - 1)), (1, .int (nI q_1)), (0, .ref w0)]) (fun n_5 x_5 H locs ls hI ih_5 => ?_) _ (n, on2_1) ⟨rfl, ⟨by omega, fun i h1 h2 => absurd h1 (by have h3 : i < n := h2; omega), fun _ _ => rfl⟩, hP, hD, hS, (lv_sub hl [0, 1, 2] rfl)⟩
    obtain ⟨qi_5, on3_5⟩ := x_5
    obtain ⟨hm_5, hv_5, hP, hD, hS, hl⟩ := hI
    subst hm_5
    rcases qi_5 with _ | qi_5
    · rw [dn0] at hl
      refine lv_iload_n hx hb dX0_reckon_36 rfl (lv_at hl 0 rfl) ?_
      refine lv_if_lt (tgt := 52) hx hb dX0_reckon_37 (by decide) (fun _ => ?_) (fun h => absurd (by decide) h)
      refine lv_aload_n hx hb dX0_reckon_52 rfl (lv_at hl 2 rfl) ?_
      refine va_get (D := D) (ci := 0) (v := .ref w2) (C := RX0) (T := TX0) (N := 5) hx hb hts inX0 hown hK hP 5 rfl rfl 2 (by decide) (hts _ tw_268) (fun _ h9 => h9) rfl dX0_reckon_53 ?_
      refine lv_iload_n hx hb dX0_reckon_56 rfl (lv_at hl 1 rfl) ?_
      refine lv_aload_n hx hb dX0_reckon_57 rfl (lv_at hl 2 rfl) ?_
      refine lv_iload_n hx hb dX0_reckon_58 rfl (lv_at hl 1 rfl) ?_
      refine rw_i (D := D) (wr := [(aI k w2 4 sr2_1), (aI k w3 4 (upd en2_1 q_1 r_2))]) (va_runV (As := [.int (nI q_1)]) (rest := [.int (nI q_1), .ref w2]) ⟨hx, hb, hml, hown, hts⟩ ((y_reckonStart l D k st lo h0 h1 h2 h3 h4 n see tm g ff fp fl w0 w1 w2 w3 w4 on3_5 fo2_1 q_1 ((upd en2_1 q_1 r_2) q_1) (by first | assumption | omega) (by first | assumption | omega) (by first | assumption | omega) hl9 hok9 (by first | assumption | omega) hv_5.2.1) H.size) (cwV 1 hts (gV tw_576 tw_578 tw_7 tw_85 tw_579) rfl rfl rfl (by decide +kernel) ⟨Nat.le_of_ble_eq_true rfl, Nat.le_of_ble_eq_true rfl⟩) (pV hS hAlo hlo hP hK (va_Dlo hD hAlo) hZ [0, 1, 2, 3, 4, 5, 6, 9] (by decide) rfl (ci := 0) (q := (RX0, TX0, 5)) (q0 := 5) rfl rfl) rfl rfl hl.1 rfl (lv_room (Nat.le_of_ble_eq_true rfl)) dX0_reckon_59 ⟨Nat.le_of_ble_eq_true rfl, Nat.le_of_ble_eq_true rfl⟩) hS hA hP hD [0, 1, 2, 3, 4, 5, 6, 9] [7, 8] rfl rfl (by decide +kernel) (by decide +kernel) (fun r_6 u H locs hw_6 hP hD hS => ?_)
      obtain ⟨fo__6, rfl⟩ : ∃ z, z = u := ⟨_, rfl⟩
      replace hP : va_P D classes [(aI k w2 4 sr2_1), (aI k w3 4 (upd en2_1 q_1 r_2)), (h0, .inr (5, (fX5 h1 h2 h3 h4))), (aI k h1 10 (vv n see tm g)), (aI k h2 24 ff), (aI k h3 24 fp), (aI k h4 4 fl), (w0, .inr (0, (fX0 h0 w1 w2 w3 w4))), (aI k w1 768 on3_5), (aI k w4 8 fo__6)] H := hP
      replace hD : va_D A [(aI k w2 4 sr2_1), (aI k w3 4 (upd en2_1 q_1 r_2)), (h0, .inr (5, (fX5 h1 h2 h3 h4))), (aI k h1 10 (vv n see tm g)), (aI k h2 24 ff), (aI k h3 24 fp), (aI k h4 4 fl), (w0, .inr (0, (fX0 h0 w1 w2 w3 w4))), (aI k w1 768 on3_5), (aI k w4 8 fo__6)] := hD
      try dsimp only at hw_6
      refine va_iast hx hb hK hP hD hS 0 1 rfl rfl (vp_in_nI (by omega) (by decide)) dX0_reckon_62 (fun H locs hP hD hS => ?_)
      replace hP : va_P D classes [(aI k w2 4 (upd sr2_1 (Int32.toNatClampNeg (nI q_1)) r_6)), (aI k w3 4 (upd en2_1 q_1 r_2)), (h0, .inr (5, (fX5 h1 h2 h3 h4))), (aI k h1 10 (vv n see tm g)), (aI k h2 24 ff), (aI k h3 24 fp), (aI k h4 4 fl), (w0, .inr (0, (fX0 h0 w1 w2 w3 w4))), (aI k w1 768 on3_5), (aI k w4 8 fo__6)] H := hP
      replace hD : va_D A [(aI k w2 4 (upd sr2_1 (Int32.toNatClampNeg (nI q_1)) r_6)), (aI k w3 4 (upd en2_1 q_1 r_2)), (h0, .inr (5, (fX5 h1 h2 h3 h4))), (aI k h1 10 (vv n see tm g)), (aI k h2 24 ff), (aI k h3 24 fp), (aI k h4 4 fl), (w0, .inr (0, (fX0 h0 w1 w2 w3 w4))), (aI k w1 768 on3_5), (aI k w4 8 fo__6)] := hD
      rw [nI_clamp (n := q_1) (by omega)] at hP hD
      replace hP : va_P D classes [(aI k w2 4 (upd sr2_1 q_1 r_6)), (aI k w3 4 (upd en2_1 q_1 r_2)), (h0, .inr (5, (fX5 h1 h2 h3 h4))), (aI k h1 10 (vv n see tm g)), (aI k h2 24 ff), (aI k h3 24 fp), (aI k h4 4 fl), (w0, .inr (0, (fX0 h0 w1 w2 w3 w4))), (aI k w1 768 on3_5), (aI k w4 8 fo__6)] H := hP
      replace hD : va_D A [(aI k w2 4 (upd sr2_1 q_1 r_6)), (aI k w3 4 (upd en2_1 q_1 r_2)), (h0, .inr (5, (fX5 h1 h2 h3 h4))), (aI k h1 10 (vv n see tm g)), (aI k h2 24 ff), (aI k h3 24 fp), (aI k h4 4 fl), (w0, .inr (0, (fX0 h0 w1 w2 w3 w4))), (aI k w1 768 on3_5), (aI k w4 8 fo__6)] := hD
      refine lv_iinc (v := (nI q_1 - 1)) (lv' := [(1, .int (nI q_1 - 1)), (2, .int (-1)), (0, .ref w0)]) hx hb dX0_reckon_63 hl (k := 1) rfl (dn1 _) (by decide) rfl (fun ls hl => ?_)
      refine lv_goto (tgt := 11) hx hb dX0_reckon_66 (by decide) ?_
      exact ih_1 _ (q_1, on3_5, (upd sr2_1 q_1 r_6), (upd en2_1 q_1 r_2), fo__6) _ _ _ (by omega) ⟨rfl, ⟨by omega, wy_step (show n ≤ 24 by omega) hsee (by omega) hv_1.2 hen_1 (by have h9 := hv_5.2.1; exact h9) hv_5.2.2 hw_6⟩, (hP.sub [2, 3, 4, 5, 6, 7, 8, 0, 1, 9] rfl), (hD.sub [2, 3, 4, 5, 6, 7, 8, 0, 1, 9] (by decide +kernel) rfl), hS, (lv_sub hl [0, 2] rfl)⟩
    · rw [nI_pred] at hl
      refine lv_iload_n hx hb dX0_reckon_36 rfl (lv_at hl 0 rfl) ?_
      refine lv_if_lt (tgt := 52) hx hb dX0_reckon_37 (by decide) (fun h => absurd h (nI_pos0 (by omega))) (fun _ => ?_)
      refine lv_aload_n hx hb dX0_reckon_40 rfl (lv_at hl 2 rfl) ?_
      refine lv_iload_n hx hb dX0_reckon_41 rfl (lv_at hl 1 rfl) ?_
      refine lv_iload_n hx hb dX0_reckon_42 rfl (lv_at hl 0 rfl) ?_
      refine rw_v (D := D) (wr := [(aI k w2 4 sr2_1), (aI k w4 8 fo2_1)]) (va_runV (As := [.int (nI q_1), .int (nI qi_5)]) (rest := []) ⟨hx, hb, hml, hown, hts⟩ ((y_reckonDoor l D k st lo h0 h1 h2 h3 h4 n see tm g ff fp fl w0 w1 w2 w3 w4 on3_5 (upd en2_1 q_1 r_2) q_1 qi_5 (by first | assumption | omega) (by first | assumption | omega) (by first | assumption | omega) (by first | assumption | omega) hl9 hok9 hv_5.2.1) H.size) (cwV 2 hts (gV tw_532 tw_534 tw_5 tw_85 tw_535) rfl rfl rfl (by decide +kernel) ⟨Nat.le_of_ble_eq_true rfl, Nat.le_of_ble_eq_true rfl⟩) (pV hS hAlo hlo hP hK (va_Dlo hD hAlo) hZ [0, 1, 2, 3, 4, 5, 6, 8] (by decide) rfl (ci := 0) (q := (RX0, TX0, 5)) (q0 := 5) rfl rfl) rfl rfl hl.1 rfl (lv_room (Nat.le_of_ble_eq_true rfl)) dX0_reckon_43 ⟨Nat.le_of_ble_eq_true rfl, Nat.le_of_ble_eq_true rfl⟩) hS hA hP hD [0, 1, 2, 3, 4, 5, 6, 8] [7, 9] rfl rfl (by decide +kernel) (by decide +kernel) (fun u H locs hw_8 hP hD hS => ?_)
      obtain ⟨on__8, rfl⟩ : ∃ z, z = u := ⟨_, rfl⟩
      replace hP : va_P D classes [(aI k w2 4 sr2_1), (aI k w4 8 fo2_1), (h0, .inr (5, (fX5 h1 h2 h3 h4))), (aI k h1 10 (vv n see tm g)), (aI k h2 24 ff), (aI k h3 24 fp), (aI k h4 4 fl), (w0, .inr (0, (fX0 h0 w1 w2 w3 w4))), (aI k w1 768 on__8), (aI k w3 4 (upd en2_1 q_1 r_2))] H := hP
      replace hD : va_D A [(aI k w2 4 sr2_1), (aI k w4 8 fo2_1), (h0, .inr (5, (fX5 h1 h2 h3 h4))), (aI k h1 10 (vv n see tm g)), (aI k h2 24 ff), (aI k h3 24 fp), (aI k h4 4 fl), (w0, .inr (0, (fX0 h0 w1 w2 w3 w4))), (aI k w1 768 on__8), (aI k w3 4 (upd en2_1 q_1 r_2))] := hD
      try dsimp only at hw_8
      refine lv_iinc (v := (nI qi_5 - 1)) (lv' := [(2, .int (nI qi_5 - 1)), (1, .int (nI q_1)), (0, .ref w0)]) hx hb dX0_reckon_46 hl (k := 0) rfl (dn1 _) (by decide) rfl (fun ls hl => ?_)
      refine lv_goto (tgt := 36) hx hb dX0_reckon_49 (by decide) ?_
      exact ih_5 _ (qi_5, on__8) _ _ _ (by omega) ⟨rfl, ⟨by omega, hw_8.1, fun x hx => (hw_8.2 x hx).trans (hv_5.2.2 x hx)⟩, (hP.sub [2, 3, 4, 5, 6, 7, 8, 0, 9, 1] rfl), (hD.sub [2, 3, 4, 5, 6, 7, 8, 0, 9, 1] (by decide +kernel) rfl), hS, (lv_sub hl [0, 1, 2] rfl)⟩


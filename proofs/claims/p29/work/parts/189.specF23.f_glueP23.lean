theorem f_glueP23 : True := trivial
/-! what is told once is within its bounds -/
def okG (f : Nat → Int32) : Prop := ∀ k, 1 ≤ k → k ≤ 9 → inB (f k) (zLE k) (zMO k)
theorem okG_0 : okG (nG zNT) := by
  intro k h1 h2
  rw [nG_in h1 h2]
  rcases (show k = 1 ∨ k = 2 ∨ k = 3 ∨ k = 4 ∨ k = 5 ∨ k = 6 ∨ k = 7 ∨ k = 8 ∨ k = 9 by omega) with rfl | rfl | rfl | rfl | rfl | rfl | rfl | rfl | rfl <;> exact ⟨by decide, by decide⟩
theorem okG_upd {f : Nat → Int32} {k : Nat} {v : Int32} (h : okG f) (hv : inB v (zLE k) (zMO k)) : okG (upd f k v) := by
  intro j h1 h2
  by_cases e : j = k
  · rw [e, pk_us]
    exact hv
  · rw [pk_un e]
    exact h j h1 h2
theorem siF_in {b : Nat → Int32} {n k t p t1 : Nat} {v v2 : Int32} (h : siF b n k t = (0, p, t1, v, v2)) : inB v (zLE k) (zMO k) ∧ (k = 7 → inB v2 0 3) := by
  unfold siF at h
  rcases h1 : nuR b n (decide (k = 1)) (zLE k) (zMO k) t with ⟨e1, p1, u1, v1, q1⟩
  simp only [h1] at h
  by_cases c1 : e1 = 0
  · rw [if_pos c1] at h
    rw [c1] at h1
    by_cases c2 : k = 7
    · rw [if_pos c2] at h
      rcases h2 : wdR b n (sByt.getD 8 []) u1 with ⟨e2, p2, u2⟩
      simp only [h2] at h
      by_cases c3 : e2 = 0
      · rw [if_pos c3] at h
        rcases h3 : nuR b n false 0 3 u2 with ⟨e3, p3, u3, w3, q3⟩
        simp only [h3] at h
        by_cases c4 : e3 = 0
        · rw [if_pos c4] at h
          rw [c4] at h3
          have e : v1 = v := congrArg (fun z => z.2.2.2.1) h
          have e' : w3 = v2 := congrArg (fun z => z.2.2.2.2) h
          rw [← e, ← e']
          exact ⟨(nuR_in h1).1, fun _ => (nuR_in h3).1⟩
        · rw [if_neg c4] at h
          exact absurd (congrArg Prod.fst h) c4
      · rw [if_neg c3] at h
        exact absurd (congrArg Prod.fst h) c3
    · rw [if_neg c2] at h
      have e : v1 = v := congrArg (fun z => z.2.2.2.1) h
      rw [← e]
      exact ⟨(nuR_in h1).1, fun q => absurd q c2⟩
  · rw [if_neg c1] at h
    exact absurd (congrArg Prod.fst h) c1
theorem siC_in {b : Nat → Int32} {n k t p t1 : Nat} {v v2 : Int32} (h : siC b n k t = (0, p, t1, v, v2)) : inB v (zLE k) (zMO k) ∧ (k = 7 → inB v2 0 3) := by
  unfold siC at h
  rcases h1 : siF b n k t with ⟨e, p1, u1, w, w2⟩
  simp only [h1] at h
  by_cases c1 : e = 0
  · rw [if_pos c1] at h
    rcases h2 : smR b n u1 with ⟨e6, p6, u6⟩
    simp only [h2] at h
    by_cases c2 : e6 = 0
    · rw [if_pos c2] at h
      have e3 : w = v := congrArg (fun z => z.2.2.2.1) h
      have e4 : w2 = v2 := congrArg (fun z => z.2.2.2.2) h
      rw [c1] at h1
      rw [← e3, ← e4]
      exact siF_in h1
    · rw [if_neg c2] at h
      exact absurd (congrArg Prod.fst h) c2
  · rw [if_neg c1] at h
    exact absurd (congrArg Prod.fst h) c1
theorem okG_cl {b : Nat → Int32} {n t : Nat} {σ : PSt} (h : (clF b n t σ).1 = 0) (ho : okG σ.2.1) : okG (clF b n t σ).2.2.2.2.1 := by
  unfold clF at h ⊢
  by_cases c1 : kwN (letA b n (skA b n t)) = 10
  · rw [if_pos c1] at h
    exact absurd (show (1 : Nat) = 0 from h) (by decide)
  · rw [if_neg c1] at h ⊢
    by_cases c2 : kwN (letA b n (skA b n t)) = 0
    · rw [if_pos c2] at h ⊢
      rcases h1 : doC b n σ.1 (skA b n t + (letA b n (skA b n t)).length) with ⟨e, p, u1, m, v3, v5⟩
      simp only [h1] at h ⊢
      by_cases c3 : e = 0
      · rw [if_pos c3]
        exact ho
      · rw [if_neg c3] at h
        exact absurd h c3
    · rw [if_neg c2] at h ⊢
      by_cases c3 : σ.2.2.2.2 (kwN (letA b n (skA b n t))) = true
      · rw [if_pos c3] at h
        exact absurd (show (3 : Nat) = 0 from h) (by decide)
      · rw [if_neg c3] at h ⊢
        rcases h1 : siC b n (kwN (letA b n (skA b n t))) (skA b n t + (letA b n (skA b n t)).length) with ⟨e, p, u1, v, v2⟩
        simp only [h1] at h ⊢
        by_cases c4 : e = 0
        · rw [if_pos c4]
          rw [c4] at h1
          have hs := siC_in h1
          show okG (if kwN (letA b n (skA b n t)) = 7 then upd (upd σ.2.1 7 v) 8 v2 else upd σ.2.1 (kwN (letA b n (skA b n t))) v)
          by_cases c7 : kwN (letA b n (skA b n t)) = 7
          · rw [if_pos c7]
            rw [c7] at hs
            exact okG_upd (okG_upd ho hs.1) (hs.2 rfl)
          · rw [if_neg c7]
            exact okG_upd ho hs.1
        · rw [if_neg c4] at h
          exact absurd h c4
theorem okG_L {b : Nat → Int32} {n : Nat} : ∀ k t σ, (stL b n k t σ).1 = 0 → okG σ.2.1 → okG (stL b n k t σ).2.2.2.1 := by
  intro k
  induction k with
  | zero => intro t σ _ ho; exact ho
  | succ k ih =>
    intro t σ h ho
    have e : stL b n (k + 1) t σ = (if skA b n t < n then (if (clF b n t σ).1 = 0 then stL b n k (clF b n t σ).2.2.1 (clF b n t σ).2.2.2 else ((clF b n t σ).1, (clF b n t σ).2.1, σ)) else (0, 0, σ)) := rfl
    rw [e] at h ⊢
    by_cases c1 : skA b n t < n
    · rw [if_pos c1] at h ⊢
      by_cases c2 : (clF b n t σ).1 = 0
      · rw [if_pos c2] at h ⊢
        exact ih _ _ h (okG_cl c2 ho)
      · rw [if_neg c2] at h
        exact absurd h c2
    · rw [if_neg c1]
      exact ho
theorem okG_F {b : Nat → Int32} {n t : Nat} {σ : PSt} (h : stF b n t = (0, 0, σ)) : okG σ.2.1 := by
  unfold stF at h
  by_cases c : (stL b n 240 t st0).1 = 0 ∧ (stL b n 240 t st0).2.2.1 = 0
  · rw [if_pos c] at h
    exact absurd (show (1 : Nat) = 0 from congrArg Prod.fst h) (by decide)
  · rw [if_neg c] at h
    have h1 := okG_L 240 t st0 (show (stL b n 240 t st0).1 = 0 by rw [h]) okG_0
    rw [h] at h1
    exact h1
/-- a street that has doors has its singles in bounds -/
theorem stP_okG {pz : Int32} {b : Nat → Int32} {n n' : Nat} {fp r fp' : Int32} {sd sd' : Nat → SDt} (h : stP pz b n fp sd r n' fp' sd') (e : ∀ i, i < 3 → 0 < (sd i).1 → okG (sd i).2.1) : ∀ i, i < 3 → 0 < (sd' i).1 → okG (sd' i).2.1 := by
  intro i hi3 hp
  rcases Classical.em (inB pz 0 2) with hi | hi
  · obtain ⟨h1, h2⟩ := h.2 hi
    rcases h2 with ⟨e1, pl, a1, a2, a3, a4, a5, a6, a7⟩ | ⟨sn, σ, a1, a2, a3, a4, a5, a6, a7⟩
    · rw [a7 i hi3] at hp ⊢
      exact e i hi3 hp
    · by_cases hs : i = sn
      · rw [hs, a6]
        exact okG_F a3
      · rw [a7 i hi3 hs] at hp ⊢
        exact e i hi3 hp
  · rw [(h.1 hi).2.2.2 i hi3] at hp ⊢
    exact e i hi3 hp
/-- late, as the reference asks -/
theorem late_same {T c : Nat} (hT : T ≤ 10000) (hc : c ≤ 10000) : (0 < (if 0 ≤ nI T - nI c then nI T - nI c else 0)) ↔ nI c < nI T := by
  have e0 : (0 : Int32).toInt = 0 := by decide
  have e1 : (nI T).toInt = (T : Int) := nI_toInt (by omega)
  have e2 : (nI c).toInt = (c : Int) := nI_toInt (by omega)
  have e3 : (nI T - nI c).toInt = (T : Int) - c := by
    rw [Int32.toInt_sub, e1, e2]
    exact Int.bmod_eq_of_le (by omega) (by omega)
  by_cases h : 0 ≤ nI T - nI c
  · rw [if_pos h, Int32.lt_iff_toInt_lt, Int32.lt_iff_toInt_lt, e0, e1, e2, e3]
    omega
  · have k : ¬ (0 : Int32).toInt ≤ (nI T - nI c).toInt := fun q => h (Int32.le_iff_toInt_le.mpr q)
    rw [if_neg h, Int32.lt_iff_toInt_lt, Int32.lt_iff_toInt_lt, e0, e1, e2]
    rw [e0, e3] at k
    omega
theorem mBar {bm : Nat → Nat} {fs ff fr : Nat → Int32} {q p : Nat} : pBar (ruM bm fs ff fr q) p = pBa (fun i => fs (12 * q + 1 + i)) (fun i => ff (12 * q + 1 + i)) (ff (12 * q)) (nI p) (bm q - 1) := pBa_clp (bm q - 1) (Nat.le_refl _)
theorem g_nat {d : SDt} {k m : Nat} (h : okG d.2.1) (h1 : 1 ≤ k) (h2 : k ≤ 9) (hz : zLE k = 0) (hm : zMO k = nI m) (hmb : m < 2 ^ 31) : ∃ x : Nat, x ≤ m ∧ d.2.1 k = nI x := by
  have h3 := h k h1 h2
  rw [hz, hm] at h3
  obtain ⟨x, -, hx, e⟩ := inB_ofc (a := 0) (b := m) (by omega) hmb h3
  exact ⟨x, hx, e⟩
theorem mLt {dn se tm : Nat → Nat} {gs ffr fpr : Nat → Int32} {s r : Nat} {z : Int32} (hg : okG (sdM dn (sg se tm gs) ffr fpr s).2.1) (hn : dn s ≤ 24) (hr : r ≤ 3) (hz : z = fM_late se tm gs s (nI r * (nI (dn s) + sg se tm gs (9 * s + 6)) + nI (dn s))) : 0 < z ↔ pLt (sdM dn (sg se tm gs) ffr fpr s) r = true := by
  obtain ⟨a, ha, ea⟩ := g_nat (k := 7) (m := 60) hg (by omega) (by omega) rfl rfl (by omega)
  obtain ⟨c, hc, ec⟩ := g_nat (k := 5) (m := 200) hg (by omega) (by omega) rfl rfl (by omega)
  have ea2 : sg se tm gs (9 * s + 6) = nI a := by
    rw [← ea, gM' (by omega) (by omega)]
  have ec2 : sg se tm gs (9 * s + 4) = nI c := by
    rw [← ec, gM' (by omega) (by omega)]
  have eT : nI r * (nI (dn s) + nI a) + nI (dn s) = nI (r * (dn s + a) + dn s) := by
    rw [nI_add, pk_mul, nI_add]
  have hb : r * (dn s + a) + dn s ≤ 10000 := by
    have : r * (dn s + a) ≤ 3 * 84 := Nat.mul_le_mul hr (by omega)
    omega
  unfold fM_late at hz
  unfold pLt
  rw [hz, ea2, ec2, eT, decide_eq_true_iff]
  show _ ↔ (sdM dn (sg se tm gs) ffr fpr s).2.1 5 < nI r * (nI (dn s) + (sdM dn (sg se tm gs) ffr fpr s).2.1 7) + nI (dn s)
  rw [ea, ec, eT]
  exact late_same hb (by omega)
theorem mR_0 {d : SDt} {u : RUt} {wh L : Nat} : mR d u wh L 0 = mV d u wh L (pGs d wh L) d.1 0 0 := rfl
theorem mR_s {d : SDt} {u : RUt} {wh L r : Nat} (h : r < L) : mR d u wh L (L - r) = mV d u wh r (mR d u wh L (L - (r + 1)) + pRs d wh) d.1 0 0 := by
  rw [show L - r = (L - (r + 1)) + 1 by omega]
  show mV d u wh (L - (L - (r + 1) + 1)) _ d.1 0 0 = _
  rw [show L - (L - (r + 1) + 1) = r by omega]
theorem mR_l {d : SDt} {u : RUt} {wh L r : Nat} (h : r = L) : mR d u wh L (L - r) = mV d u wh r (pGs d wh r) d.1 0 0 := by
  subst h
  rw [Nat.sub_self]
  rfl
theorem meA_fun {p2 : Int32} {d : SDt} {u : RUt} {x y : Int32} (h : meA p2 d u x) (k : meA p2 d u y) : x = y := by
  rcases Classical.em (inB p2 0 2) with c | c
  · obtain ⟨w, -, h2, e⟩ := inB_ofc (a := 0) (b := 2) (by omega) (by omega) c
    exact (h.2 w h2 e).trans (k.2 w h2 e).symm
  · exact (h.1 c).trans (k.1 c).symm
theorem me_o {p2 : Int32} {d : SDt} {u : RUt} (h : ¬ inB p2 0 2) : meA p2 d u (-1002) := ⟨fun _ => rfl, fun w hw e => absurd (by rw [e]; exact in02 (by omega)) h⟩
theorem me_i {wh : Nat} {d : SDt} {u : RUt} {r : Int32} (hw : wh ≤ 2) (h : r = mR d u wh (muD d u) (muD d u)) : meA (nI wh) d u r := by
  refine ⟨fun c => absurd (in02 (by omega)) c, fun w hw2 e => ?_⟩
  have := nI_inj (by omega) (by omega) e
  subst this
  exact h
def mnP (sd : Nat → SDt) (k : Nat) (ru : Nat → RUt) (p0 p1 p2 r : Int32) : Prop := ((∀ s t, s < 3 → t < k → p0 = nI s → p1 = nI t → ¬ 0 < (sd s).1) → r = -1001) ∧ ∀ s t, s < 3 → t < k → p0 = nI s → p1 = nI t → 0 < (sd s).1 → meA p2 (sd s) (ru t) r
theorem mnP_fun {sd se : Nat → SDt} {k : Nat} {ru rv : Nat → RUt} {p0 p1 p2 r q : Int32} (h : mnP sd k ru p0 p1 p2 r) (g : mnP se k rv p0 p1 p2 q) (e : ∀ i, i < 3 → sd i = se i) (e2 : ∀ i, i < k → ru i = rv i) : r = q := by
  rcases Classical.em (∃ s t, s < 3 ∧ t < k ∧ p0 = nI s ∧ p1 = nI t ∧ 0 < (sd s).1) with ⟨s, t, h1, h2, h3, h4, h5⟩ | hn
  · have a := h.2 s t h1 h2 h3 h4 h5
    have b := g.2 s t h1 h2 h3 h4 (by rw [← e s h1]; exact h5)
    rw [← e s h1, ← e2 t h2] at b
    exact meA_fun a b
  · have a := h.1 (fun s t h1 h2 h3 h4 h5 => hn ⟨s, t, h1, h2, h3, h4, h5⟩)
    have b := g.1 (fun s t h1 h2 h3 h4 h5 => hn ⟨s, t, h1, h2, h3, h4, by rw [e s h1]; exact h5⟩)
    exact a.trans b.symm
theorem mn_no0 {sd : Nat → SDt} {k : Nat} {ru : Nat → RUt} {p0 p1 p2 : Int32} (h : ∀ s, s < 3 → p0 = nI s → ¬ 0 < (sd s).1) : mnP sd k ru p0 p1 p2 (-1001) := ⟨fun _ => rfl, fun s t h1 _ h3 _ h5 => absurd h5 (h s h1 h3)⟩
theorem mn_no1 {sd : Nat → SDt} {k : Nat} {ru : Nat → RUt} {p0 p1 p2 : Int32} (h : ∀ t, t < k → ¬ p1 = nI t) : mnP sd k ru p0 p1 p2 (-1001) := ⟨fun _ => rfl, fun s t _ h2 _ h4 _ => absurd h4 (h t h2)⟩
theorem mn_at {sd : Nat → SDt} {k s t : Nat} {ru : Nat → RUt} {p2 r : Int32} (hk : k ≤ 4) (hs : s < 3) (ht : t < k) (hp : 0 < (sd s).1) (h : meA p2 (sd s) (ru t) r) : mnP sd k ru (nI s) (nI t) p2 r := by
  refine ⟨fun q => absurd hp (q s t hs ht rfl rfl), fun s2 t2 k1 k2 k3 k4 _ => ?_⟩
  have e1 := nI_inj (by omega) (by omega) k3
  have e2 := nI_inj (by omega) (by omega) k4
  subst e1 e2
  exact h


set_option maxHeartbeats 4000000 in
set_option maxRecDepth 100000 in
theorem y_meanOf (l : Launch) (D : va_G) (k : Nat → ClassId) (st : Nat → Nat) (lo : Nat) (y0 : Nat) (y1 : Nat) (y2 : Nat) (y3 : Nat) (wt : Int32) (wc : Int32) (ya : Nat → Int32) (yb : Nat → Int32) (h0 : Nat) (h1 : Nat) (h2 : Nat) (h3 : Nat) (h4 : Nat) (n : Nat) (see : Nat) (tm : Nat) (g : Nat → Int32) (ff : Nat → Int32) (fp : Nat → Int32) (fl : Nat → Int32) (u0 : Nat) (u1 : Nat) (u2 : Nat) (rf : Int32) (rc : Nat) (rr : Nat) (rs : Nat → Int32) (rb : Nat → Int32) (wh : Nat) (hn : n ≤ 24) (hrc : rc ≤ 24) (hrr : rr ≤ 3) (htm9 : tm ≤ 3) (hwh : wh ≤ 2) (hl9 : ∀ r, r < 4 → fl r = pLate (sdX n see tm g ff fp) r) (hok9 : okD (sdX n see tm g ff fp)) : CWi l D k st lo yX2_meanOf cX2_meanOf 7 (some .int) ({ frames := 4, cells := 0, slots := 0, locals := 115 }) 0 0 [.ref y0, .ref h0, .ref u0, .int (nI wh)] [(y0, .inr (2, (fX2 y1 y2 y3 wt wc))), (aI k y1 25 ya), (aI k y2 25 yb), (h0, .inr (5, (fX5 h1 h2 h3 h4))), (aI k h1 10 (vv n see tm g)), (aI k h2 24 ff), (aI k h3 24 fp), (aI k h4 4 fl), (u0, .inr (3, (fX3 u1 u2 rf (nI rc) (nI rr)))), (aI k u1 24 rs), (aI k u2 24 rb)] (fun (r : Int32) (u : (Nat → Int32) × (Nat → Int32)) => match u with | (ya_, yb_) => r = mR (sdX n see tm g ff fp) (ruX rf rc rr rs rb) wh (min rr tm) ((min rr tm))) (fun (u : (Nat → Int32) × (Nat → Int32)) => match u with | (ya_, yb_) => [(y0, .inr (2, (fX2 y1 y2 y3 wt wc))), (aI k y1 25 ya_), (aI k y2 25 yb_), (h0, .inr (5, (fX5 h1 h2 h3 h4))), (aI k h1 10 (vv n see tm g)), (aI k h2 24 ff), (aI k h3 24 fp), (aI k h4 4 fl), (u0, .inr (3, (fX3 u1 u2 rf (nI rc) (nI rr)))), (aI k u1 24 rs), (aI k u2 24 rb)]) := by
  intro sz
  refine Met.ofW (cc := cX2_meanOf) (maxL := 7) (ret := (some .int)) (by decide) rfl ?_
  intro p e s m args below meth c s₁ B hml hv
  obtain ⟨rfl, hsz, hlo, hP, hK, hDL, hZ⟩ := hv
  have hx := B.exec
  have hb := B.bytes
  have hr := B.returns
  have hts := WS_ts B.pre
  have hown : s.vm.findClass RX2 = some m.cls := findClass_of_methodNamed B.named
  have hlocks := B.notSynchronized
  subst hsz
  have hD := hDL.self (sz := s.heap.size)
  have hAlo := A_lo hDL hlo
  generalize hAe : va_A [(y0, .inr (2, (fX2 y1 y2 y3 wt wc))), (aI k y1 25 ya), (aI k y2 25 yb), (h0, .inr (5, (fX5 h1 h2 h3 h4))), (aI k h1 10 (vv n see tm g)), (aI k h2 24 ff), (aI k h3 24 fp), (aI k h4 4 fl), (u0, .inr (3, (fX3 u1 u2 rf (nI rc) (nI rr)))), (aI k u1 24 rs), (aI k u2 24 rb)] s.heap.size = A at hD hAlo ⊢
  have hA : ∀ q : Nat, s.heap.size ≤ q → A q := fun q h => by rw [← hAe]; exact Or.inr h
  have hS : va_S A s.heap s.heap [] := va_S.rf
  have hl := lv_entry ([.ref y0, .ref h0, .ref u0, .int (nI wh)]) (n := 7) (Nat.le_of_ble_eq_true rfl)
  rw [lg_entry_eq]
  generalize (lg_sl ([.ref y0, .ref h0, .ref u0, .int (nI wh)]) ++ List.replicate (7 - (lg_sl ([.ref y0, .ref h0, .ref u0, .int (nI wh)])).length) Slot.unset).toArray = ls at hl ⊢
  have hl : lv_has ls 7 [(0, .ref y0), (1, .ref h0), (2, .ref u0), (3, .int (nI wh))] := hl
  refine lv_aload_n hx hb dX2_meanOf_0 rfl (lv_at hl 2 rfl) ?_
  refine lv_aload_n hx hb dX2_meanOf_1 rfl (lv_at hl 1 rfl) ?_
  refine ro_i (D := D) (va_runV (As := [.ref h0]) (rest := []) ⟨hx, hb, hml, hown, hts⟩ ((x_roundsIn l D k st lo u0 u1 u2 rf rc rr h0 h1 h2 h3 h4 n see tm g (by first | assumption | omega) (by first | assumption | omega)) s.heap.size) (cwV 1 hts (gV tw_705 tw_706 tw_707 tw_86 tw_708) rfl rfl rfl (by decide +kernel) ⟨Nat.le_of_ble_eq_true rfl, Nat.le_of_ble_eq_true rfl⟩) (pV hS hAlo hlo hP hK (va_Dlo hD hAlo) hZ [8, 3, 4] (by decide) rfl (ci := 3) (q := (RX3, TX3, 5)) (q0 := 0) rfl rfl) rfl rfl hl.1 rfl (lv_room (Nat.le_of_ble_eq_true rfl)) dX2_meanOf_2 ⟨Nat.le_of_ble_eq_true rfl, Nat.le_of_ble_eq_true rfl⟩) hS hA hP (fun r_1 H locs hw_1 hP hS => ?_)
  try dsimp only at hw_1
  subst hw_1
  refine lv_istore (lv' := [(4, .int (nI (min rr tm))), (0, .ref y0), (1, .ref h0), (2, .ref u0), (3, .int (nI wh))]) hx hb dX2_meanOf_5 hl (by decide) rfl (fun ls hl => ?_)
  refine lv_aload_n hx hb dX2_meanOf_7 rfl (lv_at hl 2 rfl) ?_
  refine lv_iload hx hb dX2_meanOf_8 (lv_at hl 0 rfl) ?_
  refine lv_iload_n hx hb dX2_meanOf_10 rfl (lv_at hl 4 rfl) ?_
  refine ro_i (D := D) (va_runS (As := [.ref h0, .int (nI (min rr tm)), .int (nI wh)]) (rest := []) ⟨hx, hb, hml, hown, hts⟩ ((y_garageShare l D k st lo h0 h1 h2 h3 h4 n see tm g ff fp fl (min rr tm) wh (by first | assumption | omega) (by first | assumption | omega) hl9) H.size) (va_cwS 3 hts (gS tw_710 tw_711 tw_83 tw_712) rfl rfl rfl (by decide +kernel) ⟨Nat.le_of_ble_eq_true rfl, Nat.le_of_ble_eq_true rfl⟩) (pS hS hAlo hlo hP hK (va_Dlo hD hAlo) hZ [3, 4, 5, 6, 7] (by decide) rfl) rfl rfl hl.1 rfl (lv_room (Nat.le_of_ble_eq_true rfl)) dX2_meanOf_11 ⟨Nat.le_of_ble_eq_true rfl, Nat.le_of_ble_eq_true rfl⟩) hS hA hP (fun r_2 H locs hw_2 hP hS => ?_)
  try dsimp only at hw_2
  refine lv_istore (lv' := [(5, .int r_2), (4, .int (nI (min rr tm))), (0, .ref y0), (1, .ref h0), (2, .ref u0), (3, .int (nI wh))]) hx hb dX2_meanOf_14 hl (by decide) rfl (fun ls hl => ?_)
  refine lv_iload hx hb dX2_meanOf_16 (lv_at hl 1 rfl) ?_
  refine lv_istore (lv' := [(6, .int (nI (min rr tm))), (5, .int r_2), (4, .int (nI (min rr tm))), (0, .ref y0), (1, .ref h0), (2, .ref u0), (3, .int (nI wh))]) hx hb dX2_meanOf_18 hl (by decide) rfl (fun ls hl => ?_)
  refine W_loop (σ := Nat × Int32 × (Nat → Int32) × (Nat → Int32)) (fun (n_ : Nat) (x_ : Nat × Int32 × (Nat → Int32) × (Nat → Int32)) (H : Heap) (locs : List Loc) (ls : Array Slot) => match x_ with | (q_3, fo2_3, ya2_3, yb2_3) => n_ = 2 * q_3 ∧ (q_3 ≤ (min rr tm) + 1 ∧ (q_3 = (min rr tm) + 1 → fo2_3 = pGs (sdX n see tm g ff fp) wh (min rr tm)) ∧ (0 < q_3 → q_3 ≤ (min rr tm) → fo2_3 = mR (sdX n see tm g ff fp) (ruX rf rc rr rs rb) wh (min rr tm) ((min rr tm) - q_3) + pRs (sdX n see tm g ff fp) wh) ∧ (q_3 = 0 → fo2_3 = mR (sdX n see tm g ff fp) (ruX rf rc rr rs rb) wh (min rr tm) ((min rr tm) - q_3))) ∧ va_P D classes [(y0, .inr (2, (fX2 y1 y2 y3 wt wc))), (aI k y1 25 ya2_3), (aI k y2 25 yb2_3), (h0, .inr (5, (fX5 h1 h2 h3 h4))), (aI k h1 10 (vv n see tm g)), (aI k h2 24 ff), (aI k h3 24 fp), (aI k h4 4 fl), (u0, .inr (3, (fX3 u1 u2 rf (nI rc) (nI rr)))), (aI k u1 24 rs), (aI k u2 24 rb)] H ∧ va_D A [(y0, .inr (2, (fX2 y1 y2 y3 wt wc))), (aI k y1 25 ya2_3), (aI k y2 25 yb2_3), (h0, .inr (5, (fX5 h1 h2 h3 h4))), (aI k h1 10 (vv n see tm g)), (aI k h2 24 ff), (aI k h3 24 fp), (aI k h4 4 fl), (u0, .inr (3, (fX3 u1 u2 rf (nI rc) (nI rr)))), (aI k u1 24 rs), (aI k u2 24 rb)] ∧ va_S A s.heap H locs ∧ lv_has ls 7 [(6, .int (nI q_3 - 1)), (5, .int fo2_3), (4, .int (nI (min rr tm))), (0, .ref y0), (1, .ref h0), (2, .ref u0), (3, .int (nI wh))]) (fun n_3 x_3 H locs ls hI ih_3 => ?_) _ (min rr tm + 1, r_2, ya, yb) ⟨rfl, ⟨by omega, fun _ => hw_2, fun _ h => absurd h (by omega), fun h => absurd h (by omega)⟩, hP, hD, hS, (by rw [nI_pred]; exact lv_sub hl [0, 1, 2, 3, 4, 5, 6] rfl)⟩
  obtain ⟨q_3, fo2_3, ya2_3, yb2_3⟩ := x_3
  obtain ⟨hm_3, hv_3, hP, hD, hS, hl⟩ := hI
  subst hm_3
  rcases q_3 with _ | q_3
  · rw [dn0] at hl
    refine lv_iload hx hb dX2_meanOf_20 (lv_at hl 0 rfl) ?_
    refine lv_if_lt (tgt := 62) hx hb dX2_meanOf_22 (by decide) (fun _ => ?_) (fun h => absurd (by decide) h)
    refine lv_iload hx hb dX2_meanOf_62 (lv_at hl 1 rfl) ?_
    have hP9 := hP.sub (ws' := [(y0, .inr (2, (fX2 y1 y2 y3 wt wc))), (aI k y1 25 ya2_3), (aI k y2 25 yb2_3), (h0, .inr (5, (fX5 h1 h2 h3 h4))), (aI k h1 10 (vv n see tm g)), (aI k h2 24 ff), (aI k h3 24 fp), (aI k h4 4 fl), (u0, .inr (3, (fX3 u1 u2 rf (nI rc) (nI rr)))), (aI k u1 24 rs), (aI k u2 24 rb)]) [0, 1, 2, 3, 4, 5, 6, 7, 8, 9, 10] rfl
    have hD9 := hD.sub (ws' := [(y0, .inr (2, (fX2 y1 y2 y3 wt wc))), (aI k y1 25 ya2_3), (aI k y2 25 yb2_3), (h0, .inr (5, (fX5 h1 h2 h3 h4))), (aI k h1 10 (vv n see tm g)), (aI k h2 24 ff), (aI k h3 24 fp), (aI k h4 4 fl), (u0, .inr (3, (fX3 u1 u2 rf (nI rc) (nI rr)))), (aI k u1 24 rs), (aI k u2 24 rb)]) [0, 1, 2, 3, 4, 5, 6, 7, 8, 9, 10] (by decide +kernel) rfl
    exact W.iret (v := fo2_3) hx hb hr (fun t ht hW => ⟨⟨fo2_3, (ya2_3, yb2_3), rfl, (hv_3.2.2.2 rfl), by rw [ht]; exact hP9, hD9⟩, hS.F ht⟩) hS.2.2 dX2_meanOf_64
  · rw [nI_pred] at hl
    refine lv_iload hx hb dX2_meanOf_20 (lv_at hl 0 rfl) ?_
    refine lv_if_lt (tgt := 62) hx hb dX2_meanOf_22 (by decide) (fun h => absurd h (nI_pos0 (by omega))) (fun _ => ?_)
    refine lv_aload_n hx hb dX2_meanOf_25 rfl (lv_at hl 3 rfl) ?_
    refine lv_aload_n hx hb dX2_meanOf_26 rfl (lv_at hl 4 rfl) ?_
    refine lv_aload_n hx hb dX2_meanOf_27 rfl (lv_at hl 5 rfl) ?_
    refine lv_iload_n hx hb dX2_meanOf_28 rfl (lv_at hl 6 rfl) ?_
    refine lv_iload hx hb dX2_meanOf_29 (lv_at hl 0 rfl) ?_
    refine lv_iload hx hb dX2_meanOf_31 (lv_at hl 1 rfl) ?_
    refine rw_i (D := D) (wr := []) (va_runV (As := [.ref h0, .ref u0, .int (nI wh), .int (nI q_3), .int fo2_3]) (rest := []) ⟨hx, hb, hml, hown, hts⟩ ((y_meanOfRound l D k st lo y0 y1 y2 y3 wt wc ya2_3 yb2_3 h0 h1 h2 h3 h4 n see tm g ff fp fl u0 u1 u2 rf rc rr rs rb wh q_3 fo2_3 (by first | assumption | omega) (by first | assumption | omega) (by first | assumption | omega) (by first | assumption | omega) hl9 hok9) H.size) (cwV 5 hts (gV tw_719 tw_721 tw_16 tw_83 tw_722) rfl rfl rfl (by decide +kernel) ⟨Nat.le_of_ble_eq_true rfl, Nat.le_of_ble_eq_true rfl⟩) (pV hS hAlo hlo hP hK (va_Dlo hD hAlo) hZ [0, 1, 2, 3, 4, 5, 6, 7, 8, 9, 10] (by decide +kernel) rfl (ci := 2) (q := (RX2, TX2, 5)) (q0 := 0) rfl rfl) rfl rfl hl.1 rfl (lv_room (Nat.le_of_ble_eq_true rfl)) dX2_meanOf_33 ⟨Nat.le_of_ble_eq_true rfl, Nat.le_of_ble_eq_true rfl⟩) hS hA hP hD [0, 1, 2, 3, 4, 5, 6, 7, 8, 9, 10] [] rfl rfl (by decide +kernel) (by decide +kernel) (fun r_4 u H locs hw_4 hP hD hS => ?_)
    obtain ⟨ya__4, yb__4⟩ := u
    replace hP : va_P D classes [(y0, .inr (2, (fX2 y1 y2 y3 wt wc))), (aI k y1 25 ya__4), (aI k y2 25 yb__4), (h0, .inr (5, (fX5 h1 h2 h3 h4))), (aI k h1 10 (vv n see tm g)), (aI k h2 24 ff), (aI k h3 24 fp), (aI k h4 4 fl), (u0, .inr (3, (fX3 u1 u2 rf (nI rc) (nI rr)))), (aI k u1 24 rs), (aI k u2 24 rb)] H := hP
    replace hD : va_D A [(y0, .inr (2, (fX2 y1 y2 y3 wt wc))), (aI k y1 25 ya__4), (aI k y2 25 yb__4), (h0, .inr (5, (fX5 h1 h2 h3 h4))), (aI k h1 10 (vv n see tm g)), (aI k h2 24 ff), (aI k h3 24 fp), (aI k h4 4 fl), (u0, .inr (3, (fX3 u1 u2 rf (nI rc) (nI rr)))), (aI k u1 24 rs), (aI k u2 24 rb)] := hD
    try dsimp only at hw_4
    refine lv_istore (lv' := [(5, .int r_4), (6, .int (nI q_3)), (4, .int (nI (min rr tm))), (0, .ref y0), (1, .ref h0), (2, .ref u0), (3, .int (nI wh))]) hx hb dX2_meanOf_36 hl (by decide) rfl (fun ls hl => ?_)
    refine lv_iload hx hb dX2_meanOf_38 (lv_at hl 1 rfl) ?_
    refine lv_if_le (tgt := 56) hx hb dX2_meanOf_40 (by decide) (fun c_5 => ?_) (fun c_5 => ?_)
    · have c_5 := (nI_leI (a := q_3) (b := 0) (by omega) (by omega)).mp c_5
      refine lv_iinc (v := (nI q_3 - 1)) (lv' := [(6, .int (nI q_3 - 1)), (5, .int r_4), (4, .int (nI (min rr tm))), (0, .ref y0), (1, .ref h0), (2, .ref u0), (3, .int (nI wh))]) hx hb dX2_meanOf_56 hl (k := 1) rfl (dn1 _) (by decide) rfl (fun ls hl => ?_)
      refine lv_goto (tgt := 20) hx hb dX2_meanOf_59 (by decide) ?_
      have hmr_3 : r_4 = mR (sdX n see tm g ff fp) (ruX rf rc rr rs rb) wh (min rr tm) ((min rr tm) - q_3) := by rw [hw_4]; rcases Nat.lt_or_ge q_3 (min rr tm) with h | h; rw [mR_s h, hv_3.2.2.1 (by omega) (by omega)]; rfl; rw [mR_l (show q_3 = (min rr tm) by omega), hv_3.2.1 (by omega), show (min rr tm) = q_3 by omega]; rfl
      exact ih_3 _ (q_3, r_4, ya__4, yb__4) _ _ _ (by omega) ⟨rfl, ⟨by omega, fun h => absurd h (by omega), fun h1 _ => (absurd h1 (by omega)), (fun _ => hmr_3)⟩, hP, hD, hS, (lv_sub hl [0, 1, 2, 3, 4, 5, 6] rfl)⟩
    · have c_5 : ¬ (q_3 ≤ 0) := fun h => c_5 ((nI_leI (a := q_3) (b := 0) (by omega) (by omega)).mpr h)
      refine lv_iload_n hx hb dX2_meanOf_43 rfl (lv_at hl 6 rfl) ?_
      refine lv_if_ne (tgt := 56) hx hb dX2_meanOf_44 (by decide) (fun c_6 => ?_) (fun c_6 => ?_)
      · have c_6 : ¬ (wh = 0) := fun h => c_6 ((nI_eq (a := wh) (b := 0) (by omega) (by omega)).mpr h)
        refine lv_iinc (v := (nI q_3 - 1)) (lv' := [(6, .int (nI q_3 - 1)), (5, .int r_4), (4, .int (nI (min rr tm))), (0, .ref y0), (1, .ref h0), (2, .ref u0), (3, .int (nI wh))]) hx hb dX2_meanOf_56 hl (k := 1) rfl (dn1 _) (by decide) rfl (fun ls hl => ?_)
        refine lv_goto (tgt := 20) hx hb dX2_meanOf_59 (by decide) ?_
        have hmr_3 : r_4 = mR (sdX n see tm g ff fp) (ruX rf rc rr rs rb) wh (min rr tm) ((min rr tm) - q_3) := by rw [hw_4]; rcases Nat.lt_or_ge q_3 (min rr tm) with h | h; rw [mR_s h, hv_3.2.2.1 (by omega) (by omega)]; rfl; rw [mR_l (show q_3 = (min rr tm) by omega), hv_3.2.1 (by omega), show (min rr tm) = q_3 by omega]; rfl
        exact ih_3 _ (q_3, r_4, ya__4, yb__4) _ _ _ (by omega) ⟨rfl, ⟨by omega, fun h => absurd h (by omega), fun h1 _ => (by rw [hmr_3]; unfold pRs; rw [if_neg (by omega), Int32.add_zero]), (fun _ => hmr_3)⟩, hP, hD, hS, (lv_sub hl [0, 1, 2, 3, 4, 5, 6] rfl)⟩
      · have c_6 := (nI_eq (a := wh) (b := 0) (by omega) (by omega)).mp c_6
        refine lv_iload hx hb dX2_meanOf_47 (lv_at hl 0 rfl) ?_
        refine lv_aload_n hx hb dX2_meanOf_49 rfl (lv_at hl 4 rfl) ?_
        refine ro_i (D := D) (va_runV (As := []) (rest := [.int r_4]) ⟨hx, hb, hml, hown, hts⟩ ((y_roundDrive l D k st lo h0 h1 h2 h3 h4 n see tm g) H.size) (cwV 0 hts (gV tw_735 tw_525 tw_526 tw_81 tw_527) rfl rfl rfl (by decide +kernel) ⟨Nat.le_of_ble_eq_true rfl, Nat.le_of_ble_eq_true rfl⟩) (pV hS hAlo hlo hP hK (va_Dlo hD hAlo) hZ [3, 4] (by decide) rfl (ci := 5) (q := (RX5, TX5, 4)) (q0 := 0) rfl rfl) rfl rfl hl.1 rfl (lv_room (Nat.le_of_ble_eq_true rfl)) dX2_meanOf_50 ⟨Nat.le_of_ble_eq_true rfl, Nat.le_of_ble_eq_true rfl⟩) hS hA hP (fun r_7 H locs hw_7 hP hS => ?_)
        try dsimp only at hw_7
        refine lv_iadd hx hb dX2_meanOf_53 ?_
        refine lv_topi (fun x_8 ex_8 => ?_)
        refine lv_istore (lv' := [(5, .int x_8), (6, .int (nI q_3)), (4, .int (nI (min rr tm))), (0, .ref y0), (1, .ref h0), (2, .ref u0), (3, .int (nI wh))]) hx hb dX2_meanOf_54 hl (by decide) rfl (fun ls hl => ?_)
        refine lv_iinc (v := (nI q_3 - 1)) (lv' := [(6, .int (nI q_3 - 1)), (5, .int x_8), (4, .int (nI (min rr tm))), (0, .ref y0), (1, .ref h0), (2, .ref u0), (3, .int (nI wh))]) hx hb dX2_meanOf_56 hl (k := 1) rfl (dn1 _) (by decide) rfl (fun ls hl => ?_)
        refine lv_goto (tgt := 20) hx hb dX2_meanOf_59 (by decide) ?_
        have hmr_3 : r_4 = mR (sdX n see tm g ff fp) (ruX rf rc rr rs rb) wh (min rr tm) ((min rr tm) - q_3) := by rw [hw_4]; rcases Nat.lt_or_ge q_3 (min rr tm) with h | h; rw [mR_s h, hv_3.2.2.1 (by omega) (by omega)]; rfl; rw [mR_l (show q_3 = (min rr tm) by omega), hv_3.2.1 (by omega), show (min rr tm) = q_3 by omega]; rfl
        exact ih_3 _ (q_3, x_8, ya__4, yb__4) _ _ _ (by omega) ⟨rfl, ⟨by omega, fun h => absurd h (by omega), fun h1 _ => (by rw [ex_8, hmr_3, hw_7]; unfold pRs; rw [if_pos (by omega)]; exact congrArg (fun z => _ + z) xRnd), (fun h => absurd h (by omega))⟩, hP, hD, hS, (lv_sub hl [0, 1, 2, 3, 4, 5, 6] rfl)⟩


set_option maxHeartbeats 4000000 in
set_option maxRecDepth 100000 in
theorem y_isRule (l : Launch) (D : va_G) (k : Nat → ClassId) (st : Nat → Nat) (lo : Nat) (a : Nat → Nat) (rk : Nat) (lfa : Int32) (pz : Int32) (hrk : rk ≤ 4) : CRi l D k st lo yX7_isRule cX7_isRule 2 (some .boolean) ({ frames := 0, cells := 0, slots := 0, locals := 0 }) [.ref (a 0), .int pz] [((a 0), .inr (7, (fX7 (a 1) (a 3) (a 19) (a 35) (a 40) (nI rk) lfa (a 53) (a 56) (a 63) (a 64) (a 68))))] (fun r => (r = 1 ∧ ((pz = 0 ∧ 0 < rk) ∨ (pz = 1 ∧ 1 < rk) ∨ (pz = 2 ∧ 2 < rk) ∨ (pz = 3 ∧ 3 < rk))) ∨ (r = 0 ∧ ∀ t, t < rk → ¬ pz = nI t)) := by
  intro sz
  refine Met.ofW (cc := cX7_isRule) (maxL := 2) (ret := (some .boolean)) (by decide) rfl ?_
  intro p e s m args below meth c s₁ B hml hv
  obtain ⟨rfl, hsz, hlo, hP, hK, hDL, hZ⟩ := hv
  have hx := B.exec
  have hb := B.bytes
  have hr := B.returns
  have hts := WS_ts B.pre
  have hown : s.vm.findClass RX7 = some m.cls := findClass_of_methodNamed B.named
  have hlocks := B.notSynchronized
  subst hsz
  have hA : ∀ q : Nat, s.heap.size ≤ q → (fun q : Nat => s.heap.size ≤ q) q := fun _ h => h
  have hAlo : ∀ q : Nat, (fun q : Nat => s.heap.size ≤ q) q → lo ≤ q := fun q h => Nat.le_trans hlo h
  have hS : va_S (fun q : Nat => s.heap.size ≤ q) s.heap s.heap [] := va_S.rf
  have hl := lv_entry ([.ref (a 0), .int pz]) (n := 2) (Nat.le_of_ble_eq_true rfl)
  rw [lg_entry_eq]
  generalize (lg_sl ([.ref (a 0), .int pz]) ++ List.replicate (2 - (lg_sl ([.ref (a 0), .int pz])).length) Slot.unset).toArray = ls at hl ⊢
  have hl : lv_has ls 2 [(0, .ref (a 0)), (1, .int pz)] := hl
  refine lv_iload_n hx hb dX7_isRule_0 rfl (lv_at hl 1 rfl) ?_
  refine lv_if_lt (tgt := 16) hx hb dX7_isRule_1 (by decide) (fun c_1 => ?_) (fun c_1 => ?_)
  · refine lv_iconst (v := 0) hx hb dX7_isRule_16 (by decide) ?_
    exact W.zret (v := 0) (ty := .boolean) hx hb hr rfl (fun t ht hW => ⟨⟨0, (), rfl, .inr ⟨rfl, fun t h1 h2 => absurd c_1 (by rw [h2]; exact Int32.not_lt.mpr (nI_ge0 (by omega)))⟩, trivial⟩, hS.F ht⟩) hS.2.2 dX7_isRule_17
  · obtain ⟨i_9, hi_9, rfl⟩ := nI_of c_1
    refine lv_iload_n hx hb dX7_isRule_4 rfl (lv_at hl 1 rfl) ?_
    refine lv_aload_n hx hb dX7_isRule_5 rfl (lv_at hl 0 rfl) ?_
    refine va_get (D := D) (ci := 7) (v := .int (nI rk)) (C := RX7) (T := TX7) (N := 12) hx hb hts inX7 hown hK hP 0 rfl rfl 5 (by decide) (hts _ tw_310) (fun _ h9 => h9) rfl dX7_isRule_6 ?_
    refine lv_icmp_ge (tgt := 16) hx hb dX7_isRule_9 (by decide) (fun c_2 => ?_) (fun c_2 => ?_)
    · have c_2 := (nI_leI (a := rk) (b := i_9) (by omega) (by omega)).mp c_2
      refine lv_iconst (v := 0) hx hb dX7_isRule_16 (by decide) ?_
      exact W.zret (v := 0) (ty := .boolean) hx hb hr rfl (fun t ht hW => ⟨⟨0, (), rfl, .inr ⟨rfl, fun t h1 h2 => by have h9 := nI_inj (by omega) (by omega) h2; omega⟩, trivial⟩, hS.F ht⟩) hS.2.2 dX7_isRule_17
    · have c_2 : ¬ (rk ≤ i_9) := fun h => c_2 ((nI_leI (a := rk) (b := i_9) (by omega) (by omega)).mpr h)
      rcases (show i_9 = 0 ∨ i_9 = 1 ∨ i_9 = 2 ∨ i_9 = 3 by omega) with rfl | rfl | rfl | rfl
      · refine lv_iconst (v := 1) hx hb dX7_isRule_12 (by decide) ?_
        refine lv_goto (tgt := 17) hx hb dX7_isRule_13 (by decide) ?_
        exact W.zret (v := 1) (ty := .boolean) hx hb hr rfl (fun t ht hW => ⟨⟨1, (), rfl, .inl ⟨rfl, .inl ⟨rfl, by omega⟩⟩, trivial⟩, hS.F ht⟩) hS.2.2 dX7_isRule_17
      · refine lv_iconst (v := 1) hx hb dX7_isRule_12 (by decide) ?_
        refine lv_goto (tgt := 17) hx hb dX7_isRule_13 (by decide) ?_
        exact W.zret (v := 1) (ty := .boolean) hx hb hr rfl (fun t ht hW => ⟨⟨1, (), rfl, .inl ⟨rfl, .inr (.inl ⟨rfl, by omega⟩)⟩, trivial⟩, hS.F ht⟩) hS.2.2 dX7_isRule_17
      · refine lv_iconst (v := 1) hx hb dX7_isRule_12 (by decide) ?_
        refine lv_goto (tgt := 17) hx hb dX7_isRule_13 (by decide) ?_
        exact W.zret (v := 1) (ty := .boolean) hx hb hr rfl (fun t ht hW => ⟨⟨1, (), rfl, .inl ⟨rfl, .inr (.inr (.inl ⟨rfl, by omega⟩))⟩, trivial⟩, hS.F ht⟩) hS.2.2 dX7_isRule_17
      · refine lv_iconst (v := 1) hx hb dX7_isRule_12 (by decide) ?_
        refine lv_goto (tgt := 17) hx hb dX7_isRule_13 (by decide) ?_
        exact W.zret (v := 1) (ty := .boolean) hx hb hr rfl (fun t ht hW => ⟨⟨1, (), rfl, .inl ⟨rfl, .inr (.inr (.inr ⟨rfl, by omega⟩))⟩, trivial⟩, hS.F ht⟩) hS.2.2 dX7_isRule_17


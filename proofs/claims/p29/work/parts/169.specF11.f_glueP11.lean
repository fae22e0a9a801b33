theorem f_glueP11 : True := trivial
/-- a change, with its word -/
def seR (b : Nat → Int32) (n cnt : Nat) (sn : Nat → Int32) (t : Nat) : Nat × Nat × Nat × Int32 × Int32 :=
  match wdR b n (sByt.getD 13 []) t with
  | (e1, p1, t1) => if e1 = 0 then chR b n cnt sn t1 else (e1, p1, t1, 0, 0)
theorem se_w {b : Nat → Int32} {n cnt t e p t1 : Nat} {sn : Nat → Int32} (h : wdR b n (sByt.getD 13 []) t = (e, p, t1)) (he : 1 ≤ e) : (seR b n cnt sn t).1 = e ∧ (seR b n cnt sn t).2.1 = p := by
  have q : seR b n cnt sn t = (e, p, t1, 0, 0) := by
    unfold seR
    rw [h]
    show (if e = 0 then _ else _) = _
    rw [if_neg (by omega)]
  rw [q]
  exact ⟨rfl, rfl⟩
theorem se_c {b : Nat → Int32} {n cnt t p t1 : Nat} {sn : Nat → Int32} (h : wdR b n (sByt.getD 13 []) t = (0, p, t1)) : seR b n cnt sn t = chR b n cnt sn t1 := by
  unfold seR
  rw [h]
  show (if (0 : Nat) = 0 then _ else _) = _
  rw [if_pos rfl]
theorem seR_clp {b : Nat → Int32} {n cnt t : Nat} {sn : Nat → Int32} : seR b n cnt (clp cnt sn) t = seR b n cnt sn t := by
  unfold seR
  rcases wdR b n (sByt.getD 13 []) t with ⟨e1, p1, t1⟩
  show (if e1 = 0 then chR b n cnt (clp cnt sn) t1 else _) = (if e1 = 0 then chR b n cnt sn t1 else _)
  rw [chR_clp]
theorem se_c1 {ru q : Nat} {f : Nat → Int32} {v : Int32} (hb : 1 ≤ q) (c : f (12 * ru + q - 1) < v) : q - 1 = 0 ∨ (fun i => f (12 * ru + 1 + i)) (q - 1 - 1) < v := by
  rcases Nat.eq_zero_or_pos (q - 1) with h | h
  · exact .inl h
  · refine .inr ?_
    show f (12 * ru + 1 + (q - 1 - 1)) < v
    rw [show 12 * ru + 1 + (q - 1 - 1) = 12 * ru + q - 1 by omega]
    exact c
theorem se_c0 {ru q : Nat} {f : Nat → Int32} {v : Int32} (hb : 1 ≤ q) (h0 : f (12 * ru) = 0) (hv : inB v 1 24) (c : ¬ f (12 * ru + q - 1) < v) : ¬ (q - 1 = 0 ∨ (fun i => f (12 * ru + 1 + i)) (q - 1 - 1) < v) := by
  rintro (h | h)
  · rw [show 12 * ru + q - 1 = 12 * ru by omega, h0] at c
    have h1 := Int32.le_iff_toInt_le.mp hv.1
    have e1 : (1 : Int32).toInt = 1 := by decide
    have e0 : (0 : Int32).toInt = 0 := by decide
    exact c (Int32.lt_iff_toInt_lt.mpr (by rw [e0]; rw [e1] at h1; omega))
  · rcases Nat.eq_zero_or_pos (q - 1) with h2 | h2
    · rw [show 12 * ru + q - 1 = 12 * ru by omega, h0] at c
      have h1 := Int32.le_iff_toInt_le.mp hv.1
      have e1 : (1 : Int32).toInt = 1 := by decide
      have e0 : (0 : Int32).toInt = 0 := by decide
      exact c (Int32.lt_iff_toInt_lt.mpr (by rw [e0]; rw [e1] at h1; omega))
    · have h3 : f (12 * ru + 1 + (q - 1 - 1)) < v := h
      rw [show 12 * ru + 1 + (q - 1 - 1) = 12 * ru + q - 1 by omega] at h3
      exact c h3
/-- the loop, from behind the blanks -/
theorem roR_sk {b : Nat → Int32} {n t : Nat} : roR b n (skA b n t) = roR b n t := by
  unfold roR
  rw [skA_idem]
theorem ruL_sk {b : Nat → Int32} {n k t : Nat} {σ : RSt} : ruL b n k (skA b n t) σ = ruL b n k t σ := by
  rcases k with _ | k
  · show ((roR b n (skA b n t)).1, (roR b n (skA b n t)).2.1, σ, (roR b n (skA b n t)).2.2) = ((roR b n t).1, (roR b n t).2.1, σ, (roR b n t).2.2)
    rw [roR_sk]
  · unfold ruL
    rw [skA_idem, roR_sk]
theorem let_end {b : Nat → Int32} {n t : Nat} {K : List Int32} (h : ¬ skA b n t < n) (hK : K ≠ []) : ¬ letA b n (skA b n t) = K := by
  rw [letA_end (by omega)]
  exact fun q => hK q.symm
theorem rl_end {b : Nat → Int32} {n k t : Nat} {σ : RSt} (h : ¬ skA b n t < n) : ruL b n k t σ = (0, 0, σ, 0) := by
  rw [rl_no (let_end h (by decide)), ro_0o (let_end h (by decide)) h]
theorem seRn : ¬ (sByt.getD 7 []) = (sByt.getD 13 []) := by decide
theorem rl_s0 {b : Nat → Int32} {n k t t2 : Nat} {σ : RSt} {v1 v3 : Int32} (hk : 0 < k) (h : seR b n σ.1 σ.2.1 (skA b n t) = (0, 0, t2, v1, v3)) : ruL b n k t σ = ruL b n (k - 1) t2 (σ.1 + 1, upd σ.2.1 σ.1 v1, upd σ.2.2 σ.1 v3) := by
  by_cases hs : letA b n (skA b n t) = (sByt.getD 13 [])
  · have hw : wdR b n (sByt.getD 13 []) (skA b n t) = (0, 0, skA b n t + 4) := by
      unfold wdR
      rw [skA_idem, if_pos hs]
      rfl
    rw [se_c hw] at h
    exact rl_go hk hs h
  · have hw : wdR b n (sByt.getD 13 []) (skA b n t) = (1, skA b n t, skA b n t) := by
      unfold wdR
      rw [skA_idem, if_neg hs]
    have h2 := (se_w (cnt := σ.1) (sn := σ.2.1) hw (by decide)).1
    rw [h] at h2
    exact absurd (show (0 : Nat) = 1 from h2) (by decide)
theorem rl_s1 {b : Nat → Int32} {n k t e p : Nat} {σ : RSt} (hk : 0 < k) (hlt : skA b n t < n) (hr : ¬ letA b n (skA b n t) = (sByt.getD 7 [])) (he : (seR b n σ.1 σ.2.1 (skA b n t)).1 = e) (h1 : 1 ≤ e) (hp : (seR b n σ.1 σ.2.1 (skA b n t)).2.1 = p) : (ruL b n k t σ).1 = e ∧ (ruL b n k t σ).2.1 = p := by
  by_cases hs : letA b n (skA b n t) = (sByt.getD 13 [])
  · have hw : wdR b n (sByt.getD 13 []) (skA b n t) = (0, 0, skA b n t + 4) := by
      unfold wdR
      rw [skA_idem, if_pos hs]
      rfl
    rw [se_c hw] at he hp
    exact rl_er hk hs he h1 hp
  · have hw : wdR b n (sByt.getD 13 []) (skA b n t) = (1, skA b n t, skA b n t) := by
      unfold wdR
      rw [skA_idem, if_neg hs]
    have h2 := se_w (cnt := σ.1) (sn := σ.2.1) hw (by decide)
    rw [he, hp] at h2
    rw [rl_no hs, ro_0f hr hlt]
    exact ⟨h2.1.symm, h2.2.symm⟩
/-- the reference's rule: from which door, changes, rounds -/
abbrev RUt : Type := Int32 × RSt × Int32
def ruM (bm : Nat → Nat) (fs ff fr : Nat → Int32) (q : Nat) : RUt := (ff (12 * q), (bm q - 1, clp (bm q - 1) (fun i => fs (12 * q + 1 + i)), clp (bm q - 1) (fun i => ff (12 * q + 1 + i))), fr q)
def ruX (rf : Int32) (rc rr : Nat) (rs rb : Nat → Int32) : RUt := (rf, (rc, clp rc rs, clp rc rb), nI rr)
theorem sg_new {f : Nat → Int32} {ru q : Nat} {v : Int32} (hb : 1 ≤ q) : upd (clp (q - 1) (fun i => f (12 * ru + 1 + i))) (q - 1) v = clp q (fun i => upd f (12 * ru + q) v (12 * ru + 1 + i)) := by
  funext j
  show (if j = q - 1 then v else (if j < q - 1 then f (12 * ru + 1 + j) else 0)) = (if j < q then (if 12 * ru + 1 + j = 12 * ru + q then v else f (12 * ru + 1 + j)) else 0)
  by_cases h : j = q - 1
  · rw [if_pos h, if_pos (by omega), if_pos (by omega)]
  · rw [if_neg h]
    by_cases h1 : j < q - 1
    · rw [if_pos h1, if_pos (by omega), if_neg (by omega)]
    · rw [if_neg h1, if_neg (by omega)]
/-- the rules ahead of ru stay -/
def ruK (ru : Nat) (bm bm2 : Nat → Nat) (fs fs2 ff ff2 : Nat → Int32) : Prop := (∀ q, q ≠ ru → bm2 q = bm q) ∧ (∀ j, j < 12 * ru → fs2 j = fs j) ∧ ∀ j, j < 12 * ru → ff2 j = ff j
theorem ruK_rf {ru : Nat} {bm : Nat → Nat} {fs ff : Nat → Int32} : ruK ru bm bm fs fs ff ff := ⟨fun _ _ => rfl, fun _ _ => rfl, fun _ _ => rfl⟩
theorem ruK_tr {ru : Nat} {bm bm2 bm3 : Nat → Nat} {fs fs2 fs3 ff ff2 ff3 : Nat → Int32} (h : ruK ru bm bm2 fs fs2 ff ff2) (g : ruK ru bm2 bm3 fs2 fs3 ff2 ff3) : ruK ru bm bm3 fs fs3 ff ff3 := ⟨fun q hq => (g.1 q hq).trans (h.1 q hq), fun j hj => (g.2.1 j hj).trans (h.2.1 j hj), fun j hj => (g.2.2 j hj).trans (h.2.2 j hj)⟩
theorem ruK_s {ru x : Nat} {bm : Nat → Nat} {fs ff : Nat → Int32} {v : Int32} (hx : 12 * ru ≤ x) : ruK ru bm bm fs (upd fs x v) ff ff := ⟨fun _ _ => rfl, fun j hj => pk_un (by omega), fun _ _ => rfl⟩
theorem ruK_f {ru x : Nat} {bm : Nat → Nat} {fs ff : Nat → Int32} {v : Int32} (hx : 12 * ru ≤ x) : ruK ru bm bm fs fs ff (upd ff x v) := ⟨fun _ _ => rfl, fun _ _ => rfl, fun j hj => pk_un (by omega)⟩
theorem ruK_b {ru v : Nat} {bm bm2 : Nat → Nat} {fs ff : Nat → Int32} (hx : bm2 = fun j => if j = ru then v else bm j) : ruK ru bm bm2 fs fs ff ff := ⟨fun q hq => by rw [hx]; exact if_neg hq, fun _ _ => rfl, fun _ _ => rfl⟩
theorem ruM_K {ru q : Nat} {bm bm2 : Nat → Nat} {fs fs2 ff ff2 fr fr2 : Nat → Int32} (h : ruK ru bm bm2 fs fs2 ff ff2) (hr : ∀ q, q ≠ ru → fr2 q = fr q) (hb : ∀ j, bm j ≤ 12) (hq : q < ru) : ruM bm2 fs2 ff2 fr2 q = ruM bm fs ff fr q := by
  have hbq := hb q
  have e0 := h.1 q (by omega)
  have e3 := hr q (by omega)
  have e4 := h.2.2 (12 * q) (by omega)
  have e1 : ∀ (x y : Nat → Int32), (∀ j, j < 12 * ru → y j = x j) → clp (bm q - 1) (fun i => y (12 * q + 1 + i)) = clp (bm q - 1) (fun i => x (12 * q + 1 + i)) := by
    intro x y hxy
    funext i
    unfold clp
    by_cases hi : i < bm q - 1
    · rw [if_pos hi, if_pos hi]
      exact hxy _ (by omega)
    · rw [if_neg hi, if_neg hi]
  unfold ruM
  rw [e0, e3, e4, e1 fs fs2 h.2.1, e1 ff ff2 h.2.2]
theorem wd_ro {L : List Int32} {w : Int64} (hL : ∀ x ∈ L, inB x 97 122) (hw : w = wval L) : w = 9876874 ↔ L = (sByt.getD 7 []) := by
  rw [hw]
  exact kq hL (i := 7) (by decide) (by decide +kernel)
def ruP (b : Nat → Int32) (n : Nat) (fp : Int32) (k : Nat) (ru : Nat → RUt) (r : Int32) (n' : Nat) (fp' : Int32) (k' : Nat) (ru' : Nat → RUt) : Prop := (80 < n → r = -1003 ∧ n' = n ∧ k' = k ∧ fp' = fp ∧ (∀ q, q < k → ru' q = ru q)) ∧ (n ≤ 80 → k = 4 → r = -1004 ∧ n' = n ∧ k' = k ∧ fp' = fp ∧ (∀ q, q < k → ru' q = ru q)) ∧ (n ≤ 80 → k < 4 → n' = 0 ∧ (∀ q, q < k → ru' q = ru q) ∧ ((∃ e pl : Nat, 1 ≤ e ∧ e ≤ 4 ∧ (ruF b n 0).1 = e ∧ (ruF b n 0).2.1 = pl ∧ r = -10 - nI e ∧ fp' = nI pl ∧ k' = k) ∨ (ruF b n 0 = (0, 0, ru' k) ∧ r = nI k ∧ fp' = -1 ∧ k' = k + 1)))
theorem ruP_fun {b : Nat → Int32} {n n' m' k k' l' : Nat} {fp r fp' q fq' : Int32} {ru ru' rv rv' : Nat → RUt} (hk : k ≤ 4) (h : ruP b n fp k ru r n' fp' k' ru') (g : ruP b n fp k rv q m' fq' l' rv') (e : ∀ i, i < k → ru i = rv i) : r = q ∧ n' = m' ∧ fp' = fq' ∧ k' = l' ∧ ∀ i, i < k' → ru' i = rv' i := by
  rcases Nat.lt_or_ge 80 n with hn | hn
  · obtain ⟨u1, u2, u3, u4, u5⟩ := h.1 hn
    obtain ⟨v1, v2, v3, v4, v5⟩ := g.1 hn
    refine ⟨u1.trans v1.symm, u2.trans v2.symm, u4.trans v4.symm, u3.trans v3.symm, fun i hi => ?_⟩
    rw [u3] at hi
    exact (u5 i hi).trans ((e i hi).trans (v5 i hi).symm)
  · rcases Nat.lt_or_ge k 4 with hq | hq
    · obtain ⟨u1, u2, u3⟩ := h.2.2 hn hq
      obtain ⟨v1, v2, v3⟩ := g.2.2 hn hq
      rcases u3 with ⟨e1, pl, a1, a2, a3, a4, a5, a6, a7⟩ | ⟨a3, a4, a5, a6⟩
      · rcases v3 with ⟨e2, pm, c1, c2, c3, c4, c5, c6, c7⟩ | ⟨c3, c4, c5, c6⟩
        · have x1 : e1 = e2 := a3.symm.trans c3
          have x2 : pl = pm := a4.symm.trans c4
          refine ⟨by rw [a5, c5, x1], u1.trans v1.symm, by rw [a6, c6, x2], a7.trans c7.symm, fun i hi => ?_⟩
          rw [a7] at hi
          exact (u2 i hi).trans ((e i hi).trans (v2 i hi).symm)
        · rw [c3] at a3
          exact absurd a3 (by show ¬ 0 = e1; omega)
      · rcases v3 with ⟨e2, pm, c1, c2, c3, c4, c5, c6, c7⟩ | ⟨c3, c4, c5, c6⟩
        · rw [a3] at c3
          exact absurd c3 (by show ¬ 0 = e2; omega)
        · have x2 : ru' k = rv' k := congrArg (fun z => z.2.2) (a3.symm.trans c3)
          refine ⟨a4.trans c4.symm, u1.trans v1.symm, a5.trans c5.symm, a6.trans c6.symm, fun i hi => ?_⟩
          by_cases hs : i = k
          · rw [hs]
            exact x2
          · have hi2 : i < k := by omega
            exact (u2 i hi2).trans ((e i hi2).trans (v2 i hi2).symm)
    · have hq4 : k = 4 := by omega
      obtain ⟨u1, u2, u3, u4, u5⟩ := h.2.1 hn hq4
      obtain ⟨v1, v2, v3, v4, v5⟩ := g.2.1 hn hq4
      refine ⟨u1.trans v1.symm, u2.trans v2.symm, u4.trans v4.symm, u3.trans v3.symm, fun i hi => ?_⟩
      rw [u3] at hi
      exact (u5 i hi).trans ((e i hi).trans (v5 i hi).symm)


set_option maxHeartbeats 4000000 in
set_option maxRecDepth 100000 in
theorem n_takeSeen (l : Launch) (D : va_G) (k : Nat → ClassId) (st : Nat → Nat) (lo : Nat) (a : Nat → Nat) (tx : Nat) (t0 : Nat) (we : Nat) (rd : Nat) (ru : Nat) (rw : Nat) (ca : Nat) (fp : Int32) (wd : Int64) (nu : Int32) (na : Int32) (ts : Int32) (df : Int32) (db : Int32) (sd : Int32) (ftext : Nat → Int32) (bm : Nat → Nat) (fbarSeen : Nat → Int32) (fbarFrom : Nat → Int32) (ht : t0 ≤ tx) (htx : tx ≤ 240) (hbm : ∀ j, bm j ≤ 12) (hru3 : ru ≤ 3) (hb1 : 1 ≤ bm ru ∧ bm ru ≤ 11) (hs0 : fbarSeen (12 * ru) = 0) : CWi l D k st lo yX8_takeSeen cX8_takeSeen 5 (some .int) ({ frames := 3, cells := 0, slots := 0, locals := 74 }) 0 0 [.ref (a 0), .long 131638] [((a 0), .inr (8, (fX8 a (nI tx) fp (nI t0) wd (nI we) nu na (nI rd) ts (nI ru) (nI rw) (nI ca) df db sd))), (aI k (a 5) 240 ftext), (aI k (a 25) 4 (nF bm)), (aI k (a 26) 48 fbarSeen), (aI k (a 27) 48 fbarFrom)] (fun (r : Int32) (u : Nat × Int64 × Nat × Int32 × Int32 × Int32 × (Nat → Nat) × (Nat → Int32) × (Nat → Int32)) => match u with | (t0_, wd_, we_, fp_, nu_, na_, bm_, fbarSeen_, fbarFrom_) => ((r = 0 ∧ ∃ v1 v3 : Int32, seR ftext tx (bm ru - 1) (fun i => fbarSeen (12 * ru + 1 + i)) t0 = (0, 0, t0_, v1, v3) ∧ bm_ = (fun j => if j = ru then bm ru + 1 else bm j) ∧ fbarSeen_ = upd fbarSeen (12 * ru + bm ru) v1 ∧ fbarFrom_ = upd fbarFrom (12 * ru + bm ru) v3 ∧ fp_ = fp) ∨ (∃ e pl : Nat, r = nI e ∧ 1 ≤ e ∧ e ≤ 3 ∧ (seR ftext tx (bm ru - 1) (fun i => fbarSeen (12 * ru + 1 + i)) t0).1 = e ∧ (seR ftext tx (bm ru - 1) (fun i => fbarSeen (12 * ru + 1 + i)) t0).2.1 = pl ∧ fp_ = nI pl)) ∧ ruK ru bm bm_ fbarSeen fbarSeen_ fbarFrom fbarFrom_ ∧ t0 ≤ t0_ ∧ t0_ ≤ tx ∧ (∀ j, bm_ j ≤ 12) ∧ (r = 0 → t0 + 8 ≤ t0_)) (fun (u : Nat × Int64 × Nat × Int32 × Int32 × Int32 × (Nat → Nat) × (Nat → Int32) × (Nat → Int32)) => match u with | (t0_, wd_, we_, fp_, nu_, na_, bm_, fbarSeen_, fbarFrom_) => [((a 0), .inr (8, (fX8 a (nI tx) fp_ (nI t0_) wd_ (nI we_) nu_ na_ (nI rd) ts (nI ru) (nI rw) (nI ca) df db sd))), (aI k (a 5) 240 ftext), (aI k (a 25) 4 (nF bm_)), (aI k (a 26) 48 fbarSeen_), (aI k (a 27) 48 fbarFrom_)]) := by
  intro sz
  refine Met.ofW (cc := cX8_takeSeen) (maxL := 5) (ret := (some .int)) (by decide) rfl ?_
  intro p e s m args below meth c s₁ B hml hv
  obtain ⟨rfl, hsz, hlo, hP, hK, hDL, hZ⟩ := hv
  have hx := B.exec
  have hb := B.bytes
  have hr := B.returns
  have hts := WS_ts B.pre
  have hown : s.vm.findClass RX8 = some m.cls := findClass_of_methodNamed B.named
  have hlocks := B.notSynchronized
  subst hsz
  have hD := hDL.self (sz := s.heap.size)
  have hAlo := A_lo hDL hlo
  generalize hAe : va_A [((a 0), .inr (8, (fX8 a (nI tx) fp (nI t0) wd (nI we) nu na (nI rd) ts (nI ru) (nI rw) (nI ca) df db sd))), (aI k (a 5) 240 ftext), (aI k (a 25) 4 (nF bm)), (aI k (a 26) 48 fbarSeen), (aI k (a 27) 48 fbarFrom)] s.heap.size = A at hD hAlo ⊢
  have hA : ∀ q : Nat, s.heap.size ≤ q → A q := fun q h => by rw [← hAe]; exact Or.inr h
  have hS : va_S A s.heap s.heap [] := va_S.rf
  have hl := lv_entry ([.ref (a 0), .long 131638]) (n := 5) (Nat.le_of_ble_eq_true rfl)
  rw [lg_entry_eq]
  generalize (lg_sl ([.ref (a 0), .long 131638]) ++ List.replicate (5 - (lg_sl ([.ref (a 0), .long 131638])).length) Slot.unset).toArray = ls at hl ⊢
  have hl : lv_has ls 5 [(0, .ref (a 0)), (1, .long 131638)] := hl
  refine lv_aload_n hx hb dX8_takeSeen_0 rfl (lv_at hl 0 rfl) ?_
  refine lv_bipush (v := 115) hx hb dX8_takeSeen_1 (by decide) ?_
  refine lv_bipush (v := 101) hx hb dX8_takeSeen_3 (by decide) ?_
  refine lv_bipush (v := 101) hx hb dX8_takeSeen_5 (by decide) ?_
  refine ro_l (D := D) (va_runS (As := [.int 115, .int 101, .int 101]) (rest := [.ref (a 0)]) ⟨hx, hb, hml, hown, hts⟩ ((n_code l D k st lo 115 101 101) s.heap.size) (va_cwS 3 hts (gS tw_1142 tw_1143 tw_87 tw_1144) rfl rfl rfl (by decide +kernel) ⟨Nat.le_of_ble_eq_true rfl, Nat.le_of_ble_eq_true rfl⟩) (pS hS hAlo hlo hP hK (va_Dlo hD hAlo) hZ [] (by decide) rfl) rfl rfl hl.1 rfl (lv_room (Nat.le_of_ble_eq_true rfl)) dX8_takeSeen_7 ⟨Nat.le_of_ble_eq_true rfl, Nat.le_of_ble_eq_true rfl⟩) hS hA hP (fun r_1 H locs hw_1 hP hS => ?_)
  try dsimp only at hw_1
  obtain rfl : r_1 = 13991 := hw_1.trans (by decide)
  refine lv_bipush (v := 110) hx hb dX8_takeSeen_10 (by decide) ?_
  refine ro_l (D := D) (va_runS (As := [.long 13991, .int 110]) (rest := [.ref (a 0)]) ⟨hx, hb, hml, hown, hts⟩ ((n_longer l D k st lo 13991 110) H.size) (va_cwS 2 hts (gS tw_1148 tw_1149 tw_87 tw_1150) rfl rfl rfl (by decide +kernel) ⟨Nat.le_of_ble_eq_true rfl, Nat.le_of_ble_eq_true rfl⟩) (pS hS hAlo hlo hP hK (va_Dlo hD hAlo) hZ [] (by decide) rfl) rfl rfl hl.1 rfl (lv_room (Nat.le_of_ble_eq_true rfl)) dX8_takeSeen_12 ⟨Nat.le_of_ble_eq_true rfl, Nat.le_of_ble_eq_true rfl⟩) hS hA hP (fun r_2 H locs hw_2 hP hS => ?_)
  try dsimp only at hw_2
  obtain rfl : r_2 = 377771 := hw_2.trans (by decide)
  refine rw_i (D := D) (wr := [(aI k (a 25) 4 (nF bm)), (aI k (a 26) 48 fbarSeen), (aI k (a 27) 48 fbarFrom)]) (va_runV (As := [.long 377771]) (rest := []) ⟨hx, hb, hml, hown, hts⟩ ((n_needs l D k st lo a tx t0 we rd ru rw ca fp wd nu na ts df db sd ftext 377771 13 (by first | assumption | omega) (by first | assumption | omega) (by decide) (by decide +kernel)) H.size) (cwV 1 hts (gV tw_1169 tw_1171 tw_35 tw_87 tw_1172) rfl rfl rfl (by decide +kernel) ⟨Nat.le_of_ble_eq_true rfl, Nat.le_of_ble_eq_true rfl⟩) (pV hS hAlo hlo hP hK (va_Dlo hD hAlo) hZ [0, 1] (by decide) rfl (ci := 8) (q := (RX8, TX8, 44)) (q0 := 0) rfl rfl) rfl rfl hl.1 rfl (lv_room (Nat.le_of_ble_eq_true rfl)) dX8_takeSeen_15 ⟨Nat.le_of_ble_eq_true rfl, Nat.le_of_ble_eq_true rfl⟩) hS hA hP hD [0, 1] [2, 3, 4] rfl rfl (by decide) (by decide) (fun r_3 u H locs hw_3 hP hD hS => ?_)
  obtain ⟨t0__3, wd__3, we__3, fp__3⟩ := u
  replace hP : va_P D classes [(aI k (a 25) 4 (nF bm)), (aI k (a 26) 48 fbarSeen), (aI k (a 27) 48 fbarFrom), ((a 0), .inr (8, (fX8 a (nI tx) fp__3 (nI t0__3) wd__3 (nI we__3) nu na (nI rd) ts (nI ru) (nI rw) (nI ca) df db sd))), (aI k (a 5) 240 ftext)] H := hP
  replace hD : va_D A [(aI k (a 25) 4 (nF bm)), (aI k (a 26) 48 fbarSeen), (aI k (a 27) 48 fbarFrom), ((a 0), .inr (8, (fX8 a (nI tx) fp__3 (nI t0__3) wd__3 (nI we__3) nu na (nI rd) ts (nI ru) (nI rw) (nI ca) df db sd))), (aI k (a 5) 240 ftext)] := hD
  try dsimp only at hw_3
  rcases hw_3 with ⟨⟨rfl, hq_4, hfp_4⟩ | ⟨rfl, pl_4, hq_4, rfl⟩, hw_3⟩
  · replace hfp_4 := hfp_4.symm
    subst hfp_4
    refine lv_istore_n (lv' := [(3, .int 0), (0, .ref (a 0)), (1, .long 131638)]) hx hb dX8_takeSeen_18 rfl hl (by decide) rfl (fun ls hl => ?_)
    refine lv_iload_n hx hb dX8_takeSeen_19 rfl (lv_at hl 0 rfl) ?_
    refine lv_if_le (tgt := 27) hx hb dX8_takeSeen_20 (by decide) (fun _ => ?_) (fun h => absurd (by decide) h)
    refine lv_aload_n hx hb dX8_takeSeen_27 rfl (lv_at hl 1 rfl) ?_
    refine lv_iconst (v := 1) hx hb dX8_takeSeen_28 (by decide) ?_
    refine lv_bipush (v := 24) hx hb dX8_takeSeen_29 (by decide) ?_
    refine rw_i (D := D) (wr := [(aI k (a 25) 4 (nF bm)), (aI k (a 26) 48 fbarSeen), (aI k (a 27) 48 fbarFrom)]) (va_runV (As := [.int 1, .int 24]) (rest := []) ⟨hx, hb, hml, hown, hts⟩ ((n_takeNumber l D k st lo a tx t0__3 we__3 rd ru rw ca fp wd__3 nu na ts df db sd ftext 1 24 (by first | assumption | omega) (by first | assumption | omega)) H.size) (cwV 2 hts (gV tw_1159 tw_1161 tw_33 tw_87 tw_1162) rfl rfl rfl (by decide +kernel) ⟨Nat.le_of_ble_eq_true rfl, Nat.le_of_ble_eq_true rfl⟩) (pV hS hAlo hlo hP hK (va_Dlo hD hAlo) hZ [3, 4] (by decide) rfl (ci := 8) (q := (RX8, TX8, 44)) (q0 := 0) rfl rfl) rfl rfl hl.1 rfl (lv_room (Nat.le_of_ble_eq_true rfl)) dX8_takeSeen_31 ⟨Nat.le_of_ble_eq_true rfl, Nat.le_of_ble_eq_true rfl⟩) hS hA hP hD [3, 4] [0, 1, 2] rfl rfl (by decide) (by decide) (fun r_5 u H locs hw_5 hP hD hS => ?_)
    obtain ⟨t0__5, nu__5, na__5, fp__5⟩ := u
    replace hP : va_P D classes [(aI k (a 25) 4 (nF bm)), (aI k (a 26) 48 fbarSeen), (aI k (a 27) 48 fbarFrom), ((a 0), .inr (8, (fX8 a (nI tx) fp__5 (nI t0__5) wd__3 (nI we__3) nu__5 na__5 (nI rd) ts (nI ru) (nI rw) (nI ca) df db sd))), (aI k (a 5) 240 ftext)] H := hP
    replace hD : va_D A [(aI k (a 25) 4 (nF bm)), (aI k (a 26) 48 fbarSeen), (aI k (a 27) 48 fbarFrom), ((a 0), .inr (8, (fX8 a (nI tx) fp__5 (nI t0__5) wd__3 (nI we__3) nu__5 na__5 (nI rd) ts (nI ru) (nI rw) (nI ca) df db sd))), (aI k (a 5) 240 ftext)] := hD
    try dsimp only at hw_5
    obtain ⟨nq_6, rfl, hq_6, hw_5⟩ := hw_5
    rcases hq_6 with ⟨rfl, hq_6, hfp_6⟩ | ⟨rfl, pl_6, hq_6, rfl⟩ | ⟨rfl, pl_6, hq_6, rfl⟩
    · replace hfp_6 := hfp_6.symm
      subst hfp_6
      refine lv_istore_n (lv' := [(3, .int 0), (0, .ref (a 0)), (1, .long 131638)]) hx hb dX8_takeSeen_34 rfl hl (by decide) rfl (fun ls hl => ?_)
      refine lv_bipush (v := 12) hx hb dX8_takeSeen_35 (by decide) ?_
      refine lv_aload_n hx hb dX8_takeSeen_37 rfl (lv_at hl 1 rfl) ?_
      refine va_get (D := D) (ci := 8) (v := .int (nI ru)) (C := RX8) (T := TX8) (N := 44) hx hb hts inX8 hown hK hP 3 rfl rfl 23 (by decide) (hts _ tw_996) (fun _ h9 => h9) rfl dX8_takeSeen_38 ?_
      refine lv_imul hx hb dX8_takeSeen_41 ?_
      refine lv_ti (y := (nI (12 * ru))) (pk_mul 12 ru) ?_
      refine lv_aload_n hx hb dX8_takeSeen_42 rfl (lv_at hl 1 rfl) ?_
      refine va_get (D := D) (ci := 8) (v := .ref (a 25)) (C := RX8) (T := TX8) (N := 44) hx hb hts inX8 hown hK hP 3 rfl rfl 24 (by decide) (hts _ tw_997) (fun _ h9 => h9) rfl dX8_takeSeen_43 ?_
      refine lv_aload_n hx hb dX8_takeSeen_46 rfl (lv_at hl 1 rfl) ?_
      refine va_get (D := D) (ci := 8) (v := .int (nI ru)) (C := RX8) (T := TX8) (N := 44) hx hb hts inX8 hown hK hP 3 rfl rfl 23 (by decide) (hts _ tw_996) (fun _ h9 => h9) rfl dX8_takeSeen_47 ?_
      refine va_iald hx hb hK hP 0 1 rfl rfl (vp_in_nI (by omega) (by decide)) dX8_takeSeen_50 ?_
      refine lv_ti (y := (nI (bm ru))) (by rw [nI_clamp (by omega)]; rfl) ?_
      refine lv_iadd hx hb dX8_takeSeen_51 ?_
      refine lv_ti (y := (nI (12 * ru + bm ru))) (nI_add (12 * ru) (bm ru)) ?_
      refine lv_istore (lv' := [(4, .int (nI (12 * ru + bm ru))), (3, .int 0), (0, .ref (a 0)), (1, .long 131638)]) hx hb dX8_takeSeen_52 hl (by decide) rfl (fun ls hl => ?_)
      refine lv_iload_n hx hb dX8_takeSeen_54 rfl (lv_at hl 1 rfl) ?_
      refine lv_if_ne (tgt := 84) hx hb dX8_takeSeen_55 (by decide) (fun h => absurd (by decide) h) (fun _ => ?_)
      refine lv_aload_n hx hb dX8_takeSeen_58 rfl (lv_at hl 2 rfl) ?_
      refine va_get (D := D) (ci := 8) (v := .int nu__5) (C := RX8) (T := TX8) (N := 44) hx hb hts inX8 hown hK hP 3 rfl rfl 10 (by decide) (hts _ tw_983) (fun _ h9 => h9) rfl dX8_takeSeen_59 ?_
      refine lv_aload_n hx hb dX8_takeSeen_62 rfl (lv_at hl 2 rfl) ?_
      refine va_get (D := D) (ci := 8) (v := .ref (a 26)) (C := RX8) (T := TX8) (N := 44) hx hb hts inX8 hown hK hP 3 rfl rfl 25 (by decide) (hts _ tw_998) (fun _ h9 => h9) rfl dX8_takeSeen_63 ?_
      refine lv_iload hx hb dX8_takeSeen_66 (lv_at hl 0 rfl) ?_
      refine lv_iconst (v := 1) hx hb dX8_takeSeen_68 (by decide) ?_
      refine lv_isub hx hb dX8_takeSeen_69 ?_
      refine lv_ti (y := (nI ((12 * ru + bm ru) - 1))) (pk_sub (a := (12 * ru + bm ru)) (b := 1) (by omega)) ?_
      refine va_iald hx hb hK hP 1 1 rfl rfl (vp_in_nI (by omega) (by decide)) dX8_takeSeen_70 ?_
      refine lv_ti (y := (fbarSeen ((12 * ru + bm ru) - 1))) (by rw [nI_clamp (by omega)]) ?_
      refine lv_icmp_gt (tgt := 84) hx hb dX8_takeSeen_71 (by decide) (fun c_7 => ?_) (fun c_7 => ?_)
      · refine lv_iload_n hx hb dX8_takeSeen_84 rfl (lv_at hl 1 rfl) ?_
        refine lv_if_le (tgt := 90) hx hb dX8_takeSeen_85 (by decide) (fun _ => ?_) (fun h => absurd (by decide) h)
        refine lv_aload_n hx hb dX8_takeSeen_90 rfl (lv_at hl 2 rfl) ?_
        refine va_get (D := D) (ci := 8) (v := .ref (a 26)) (C := RX8) (T := TX8) (N := 44) hx hb hts inX8 hown hK hP 3 rfl rfl 25 (by decide) (hts _ tw_998) (fun _ h9 => h9) rfl dX8_takeSeen_91 ?_
        refine lv_iload hx hb dX8_takeSeen_94 (lv_at hl 0 rfl) ?_
        refine lv_aload_n hx hb dX8_takeSeen_96 rfl (lv_at hl 2 rfl) ?_
        refine va_get (D := D) (ci := 8) (v := .int nu__5) (C := RX8) (T := TX8) (N := 44) hx hb hts inX8 hown hK hP 3 rfl rfl 10 (by decide) (hts _ tw_983) (fun _ h9 => h9) rfl dX8_takeSeen_97 ?_
        refine va_iast hx hb hK hP hD hS 1 1 rfl rfl (vp_in_nI (by omega) (by decide)) dX8_takeSeen_100 (fun H locs hP hD hS => ?_)
        replace hP : va_P D classes [(aI k (a 25) 4 (nF bm)), (aI k (a 26) 48 (upd fbarSeen (Int32.toNatClampNeg (nI (12 * ru + bm ru))) nu__5)), (aI k (a 27) 48 fbarFrom), ((a 0), .inr (8, (fX8 a (nI tx) fp (nI t0__5) wd__3 (nI we__3) nu__5 (nI nq_6) (nI rd) ts (nI ru) (nI rw) (nI ca) df db sd))), (aI k (a 5) 240 ftext)] H := hP
        replace hD : va_D A [(aI k (a 25) 4 (nF bm)), (aI k (a 26) 48 (upd fbarSeen (Int32.toNatClampNeg (nI (12 * ru + bm ru))) nu__5)), (aI k (a 27) 48 fbarFrom), ((a 0), .inr (8, (fX8 a (nI tx) fp (nI t0__5) wd__3 (nI we__3) nu__5 (nI nq_6) (nI rd) ts (nI ru) (nI rw) (nI ca) df db sd))), (aI k (a 5) 240 ftext)] := hD
        rw [nI_clamp (n := (12 * ru + bm ru)) (by omega)] at hP hD
        replace hP : va_P D classes [(aI k (a 25) 4 (nF bm)), (aI k (a 26) 48 (upd fbarSeen (12 * ru + bm ru) nu__5)), (aI k (a 27) 48 fbarFrom), ((a 0), .inr (8, (fX8 a (nI tx) fp (nI t0__5) wd__3 (nI we__3) nu__5 (nI nq_6) (nI rd) ts (nI ru) (nI rw) (nI ca) df db sd))), (aI k (a 5) 240 ftext)] H := hP
        replace hD : va_D A [(aI k (a 25) 4 (nF bm)), (aI k (a 26) 48 (upd fbarSeen (12 * ru + bm ru) nu__5)), (aI k (a 27) 48 fbarFrom), ((a 0), .inr (8, (fX8 a (nI tx) fp (nI t0__5) wd__3 (nI we__3) nu__5 (nI nq_6) (nI rd) ts (nI ru) (nI rw) (nI ca) df db sd))), (aI k (a 5) 240 ftext)] := hD
        refine lv_aload_n hx hb dX8_takeSeen_101 rfl (lv_at hl 2 rfl) ?_
        refine lv_lload_n hx hb dX8_takeSeen_102 rfl (lv_at hl 3 rfl) ?_
        refine rw_i (D := D) (wr := [(aI k (a 25) 4 (nF bm)), (aI k (a 26) 48 (upd fbarSeen (12 * ru + bm ru) nu__5)), (aI k (a 27) 48 fbarFrom)]) (va_runV (As := [.long 131638]) (rest := []) ⟨hx, hb, hml, hown, hts⟩ ((n_needs l D k st lo a tx t0__5 we__3 rd ru rw ca fp wd__3 nu__5 (nI nq_6) ts df db sd ftext 131638 12 (by first | assumption | omega) (by first | assumption | omega) (by decide) (by decide +kernel)) H.size) (cwV 1 hts (gV tw_1169 tw_1171 tw_35 tw_87 tw_1172) rfl rfl rfl (by decide +kernel) ⟨Nat.le_of_ble_eq_true rfl, Nat.le_of_ble_eq_true rfl⟩) (pV hS hAlo hlo hP hK (va_Dlo hD hAlo) hZ [3, 4] (by decide) rfl (ci := 8) (q := (RX8, TX8, 44)) (q0 := 0) rfl rfl) rfl rfl hl.1 rfl (lv_room (Nat.le_of_ble_eq_true rfl)) dX8_takeSeen_103 ⟨Nat.le_of_ble_eq_true rfl, Nat.le_of_ble_eq_true rfl⟩) hS hA hP hD [3, 4] [0, 1, 2] rfl rfl (by decide) (by decide) (fun r_9 u H locs hw_9 hP hD hS => ?_)
        obtain ⟨t0__9, wd__9, we__9, fp__9⟩ := u
        replace hP : va_P D classes [(aI k (a 25) 4 (nF bm)), (aI k (a 26) 48 (upd fbarSeen (12 * ru + bm ru) nu__5)), (aI k (a 27) 48 fbarFrom), ((a 0), .inr (8, (fX8 a (nI tx) fp__9 (nI t0__9) wd__9 (nI we__9) nu__5 (nI nq_6) (nI rd) ts (nI ru) (nI rw) (nI ca) df db sd))), (aI k (a 5) 240 ftext)] H := hP
        replace hD : va_D A [(aI k (a 25) 4 (nF bm)), (aI k (a 26) 48 (upd fbarSeen (12 * ru + bm ru) nu__5)), (aI k (a 27) 48 fbarFrom), ((a 0), .inr (8, (fX8 a (nI tx) fp__9 (nI t0__9) wd__9 (nI we__9) nu__5 (nI nq_6) (nI rd) ts (nI ru) (nI rw) (nI ca) df db sd))), (aI k (a 5) 240 ftext)] := hD
        try dsimp only at hw_9
        rcases hw_9 with ⟨⟨rfl, hq_10, hfp_10⟩ | ⟨rfl, pl_10, hq_10, rfl⟩, hw_9⟩
        · replace hfp_10 := hfp_10.symm
          subst hfp_10
          refine lv_istore_n (lv' := [(3, .int 0), (4, .int (nI (12 * ru + bm ru))), (0, .ref (a 0)), (1, .long 131638)]) hx hb dX8_takeSeen_106 rfl hl (by decide) rfl (fun ls hl => ?_)
          refine lv_iload_n hx hb dX8_takeSeen_107 rfl (lv_at hl 0 rfl) ?_
          refine lv_if_le (tgt := 115) hx hb dX8_takeSeen_108 (by decide) (fun _ => ?_) (fun h => absurd (by decide) h)
          refine lv_aload_n hx hb dX8_takeSeen_115 rfl (lv_at hl 2 rfl) ?_
          refine lv_iconst (v := 0) hx hb dX8_takeSeen_116 (by decide) ?_
          refine lv_bipush (v := 24) hx hb dX8_takeSeen_117 (by decide) ?_
          refine rw_i (D := D) (wr := [(aI k (a 25) 4 (nF bm)), (aI k (a 26) 48 (upd fbarSeen (12 * ru + bm ru) nu__5)), (aI k (a 27) 48 fbarFrom)]) (va_runV (As := [.int 0, .int 24]) (rest := []) ⟨hx, hb, hml, hown, hts⟩ ((n_takeNumber l D k st lo a tx t0__9 we__9 rd ru rw ca fp wd__9 nu__5 (nI nq_6) ts df db sd ftext 0 24 (by first | assumption | omega) (by first | assumption | omega)) H.size) (cwV 2 hts (gV tw_1159 tw_1161 tw_33 tw_87 tw_1162) rfl rfl rfl (by decide +kernel) ⟨Nat.le_of_ble_eq_true rfl, Nat.le_of_ble_eq_true rfl⟩) (pV hS hAlo hlo hP hK (va_Dlo hD hAlo) hZ [3, 4] (by decide) rfl (ci := 8) (q := (RX8, TX8, 44)) (q0 := 0) rfl rfl) rfl rfl hl.1 rfl (lv_room (Nat.le_of_ble_eq_true rfl)) dX8_takeSeen_119 ⟨Nat.le_of_ble_eq_true rfl, Nat.le_of_ble_eq_true rfl⟩) hS hA hP hD [3, 4] [0, 1, 2] rfl rfl (by decide) (by decide) (fun r_11 u H locs hw_11 hP hD hS => ?_)
          obtain ⟨t0__11, nu__11, na__11, fp__11⟩ := u
          replace hP : va_P D classes [(aI k (a 25) 4 (nF bm)), (aI k (a 26) 48 (upd fbarSeen (12 * ru + bm ru) nu__5)), (aI k (a 27) 48 fbarFrom), ((a 0), .inr (8, (fX8 a (nI tx) fp__11 (nI t0__11) wd__9 (nI we__9) nu__11 na__11 (nI rd) ts (nI ru) (nI rw) (nI ca) df db sd))), (aI k (a 5) 240 ftext)] H := hP
          replace hD : va_D A [(aI k (a 25) 4 (nF bm)), (aI k (a 26) 48 (upd fbarSeen (12 * ru + bm ru) nu__5)), (aI k (a 27) 48 fbarFrom), ((a 0), .inr (8, (fX8 a (nI tx) fp__11 (nI t0__11) wd__9 (nI we__9) nu__11 na__11 (nI rd) ts (nI ru) (nI rw) (nI ca) df db sd))), (aI k (a 5) 240 ftext)] := hD
          try dsimp only at hw_11
          obtain ⟨nq_12, rfl, hq_12, hw_11⟩ := hw_11
          rcases hq_12 with ⟨rfl, hq_12, hfp_12⟩ | ⟨rfl, pl_12, hq_12, rfl⟩ | ⟨rfl, pl_12, hq_12, rfl⟩
          · replace hfp_12 := hfp_12.symm
            subst hfp_12
            refine lv_istore_n (lv' := [(3, .int 0), (4, .int (nI (12 * ru + bm ru))), (0, .ref (a 0)), (1, .long 131638)]) hx hb dX8_takeSeen_122 rfl hl (by decide) rfl (fun ls hl => ?_)
            refine lv_aload_n hx hb dX8_takeSeen_123 rfl (lv_at hl 2 rfl) ?_
            refine va_get (D := D) (ci := 8) (v := .ref (a 27)) (C := RX8) (T := TX8) (N := 44) hx hb hts inX8 hown hK hP 3 rfl rfl 26 (by decide) (hts _ tw_999) (fun _ h9 => h9) rfl dX8_takeSeen_124 ?_
            refine lv_iload hx hb dX8_takeSeen_127 (lv_at hl 1 rfl) ?_
            refine lv_aload_n hx hb dX8_takeSeen_129 rfl (lv_at hl 2 rfl) ?_
            refine va_get (D := D) (ci := 8) (v := .int nu__11) (C := RX8) (T := TX8) (N := 44) hx hb hts inX8 hown hK hP 3 rfl rfl 10 (by decide) (hts _ tw_983) (fun _ h9 => h9) rfl dX8_takeSeen_130 ?_
            refine va_iast hx hb hK hP hD hS 2 1 rfl rfl (vp_in_nI (by omega) (by decide)) dX8_takeSeen_133 (fun H locs hP hD hS => ?_)
            replace hP : va_P D classes [(aI k (a 25) 4 (nF bm)), (aI k (a 26) 48 (upd fbarSeen (12 * ru + bm ru) nu__5)), (aI k (a 27) 48 (upd fbarFrom (Int32.toNatClampNeg (nI (12 * ru + bm ru))) nu__11)), ((a 0), .inr (8, (fX8 a (nI tx) fp (nI t0__11) wd__9 (nI we__9) nu__11 (nI nq_12) (nI rd) ts (nI ru) (nI rw) (nI ca) df db sd))), (aI k (a 5) 240 ftext)] H := hP
            replace hD : va_D A [(aI k (a 25) 4 (nF bm)), (aI k (a 26) 48 (upd fbarSeen (12 * ru + bm ru) nu__5)), (aI k (a 27) 48 (upd fbarFrom (Int32.toNatClampNeg (nI (12 * ru + bm ru))) nu__11)), ((a 0), .inr (8, (fX8 a (nI tx) fp (nI t0__11) wd__9 (nI we__9) nu__11 (nI nq_12) (nI rd) ts (nI ru) (nI rw) (nI ca) df db sd))), (aI k (a 5) 240 ftext)] := hD
            rw [nI_clamp (n := (12 * ru + bm ru)) (by omega)] at hP hD
            replace hP : va_P D classes [(aI k (a 25) 4 (nF bm)), (aI k (a 26) 48 (upd fbarSeen (12 * ru + bm ru) nu__5)), (aI k (a 27) 48 (upd fbarFrom (12 * ru + bm ru) nu__11)), ((a 0), .inr (8, (fX8 a (nI tx) fp (nI t0__11) wd__9 (nI we__9) nu__11 (nI nq_12) (nI rd) ts (nI ru) (nI rw) (nI ca) df db sd))), (aI k (a 5) 240 ftext)] H := hP
            replace hD : va_D A [(aI k (a 25) 4 (nF bm)), (aI k (a 26) 48 (upd fbarSeen (12 * ru + bm ru) nu__5)), (aI k (a 27) 48 (upd fbarFrom (12 * ru + bm ru) nu__11)), ((a 0), .inr (8, (fX8 a (nI tx) fp (nI t0__11) wd__9 (nI we__9) nu__11 (nI nq_12) (nI rd) ts (nI ru) (nI rw) (nI ca) df db sd))), (aI k (a 5) 240 ftext)] := hD
            refine lv_aload_n hx hb dX8_takeSeen_134 rfl (lv_at hl 2 rfl) ?_
            refine va_get (D := D) (ci := 8) (v := .ref (a 25)) (C := RX8) (T := TX8) (N := 44) hx hb hts inX8 hown hK hP 3 rfl rfl 24 (by decide) (hts _ tw_997) (fun _ h9 => h9) rfl dX8_takeSeen_135 ?_
            refine lv_aload_n hx hb dX8_takeSeen_138 rfl (lv_at hl 2 rfl) ?_
            refine va_get (D := D) (ci := 8) (v := .int (nI ru)) (C := RX8) (T := TX8) (N := 44) hx hb hts inX8 hown hK hP 3 rfl rfl 23 (by decide) (hts _ tw_996) (fun _ h9 => h9) rfl dX8_takeSeen_139 ?_
            refine lv_dup2_11 hx hb dX8_takeSeen_142 rfl rfl ?_
            refine va_iald hx hb hK hP 0 1 rfl rfl (vp_in_nI (by omega) (by decide)) dX8_takeSeen_143 ?_
            refine lv_ti (y := (nI (bm ru))) (by rw [nI_clamp (by omega)]; rfl) ?_
            refine lv_iconst (v := 1) hx hb dX8_takeSeen_144 (by decide) ?_
            refine lv_iadd hx hb dX8_takeSeen_145 ?_
            refine lv_ti (y := (nI (bm ru + 1))) (nI_add (bm ru) 1) ?_
            refine va_iast hx hb hK hP hD hS 0 1 rfl rfl (vp_in_nI (by omega) (by decide)) dX8_takeSeen_146 (fun H locs hP hD hS => ?_)
            replace hP : va_P D classes [(aI k (a 25) 4 (upd (nF bm) (Int32.toNatClampNeg (nI ru)) (nI (bm ru + 1)))), (aI k (a 26) 48 (upd fbarSeen (12 * ru + bm ru) nu__5)), (aI k (a 27) 48 (upd fbarFrom (12 * ru + bm ru) nu__11)), ((a 0), .inr (8, (fX8 a (nI tx) fp (nI t0__11) wd__9 (nI we__9) nu__11 (nI nq_12) (nI rd) ts (nI ru) (nI rw) (nI ca) df db sd))), (aI k (a 5) 240 ftext)] H := hP
            replace hD : va_D A [(aI k (a 25) 4 (upd (nF bm) (Int32.toNatClampNeg (nI ru)) (nI (bm ru + 1)))), (aI k (a 26) 48 (upd fbarSeen (12 * ru + bm ru) nu__5)), (aI k (a 27) 48 (upd fbarFrom (12 * ru + bm ru) nu__11)), ((a 0), .inr (8, (fX8 a (nI tx) fp (nI t0__11) wd__9 (nI we__9) nu__11 (nI nq_12) (nI rd) ts (nI ru) (nI rw) (nI ca) df db sd))), (aI k (a 5) 240 ftext)] := hD
            rw [nI_clamp (n := ru) (by omega)] at hP hD
            rw [show upd (nF bm) ru (nI (bm ru + 1)) = nF (fun j => if j = ru then bm ru + 1 else bm j) from nF_upd _ _ _] at hP hD
            obtain ⟨d_15, hd_15⟩ : ∃ z : Nat → Nat, z = (fun j => if j = ru then bm ru + 1 else bm j) := ⟨_, rfl⟩
            rw [← hd_15] at hP hD
            have hbb_15 : ∀ j, d_15 j ≤ 12 := by rw [hd_15]; exact up_le hbm (by omega)
            have hbu_15 : d_15 ru = bm ru + 1 := by rw [hd_15]; exact if_pos rfl
            refine lv_iload_n hx hb dX8_takeSeen_147 rfl (lv_at hl 0 rfl) ?_
            have hz0_9 := wdR_ge (i := 13) hq_4
            have hz1_9 := nuR_ge hq_6
            have hz2_9 := wdR_ge (i := 12) hq_10
            have hz3_9 := nuR_ge hq_12
            replace hz0_9 : _ + 4 ≤ _ := hz0_9
            replace hz2_9 : _ + 4 ≤ _ := hz2_9
            have hP9 := hP.sub (ws' := [((a 0), .inr (8, (fX8 a (nI tx) fp (nI t0__11) wd__9 (nI we__9) nu__11 (nI nq_12) (nI rd) ts (nI ru) (nI rw) (nI ca) df db sd))), (aI k (a 5) 240 ftext), (aI k (a 25) 4 (nF d_15)), (aI k (a 26) 48 (upd fbarSeen (12 * ru + bm ru) nu__5)), (aI k (a 27) 48 (upd fbarFrom (12 * ru + bm ru) nu__11))]) [3, 4, 0, 1, 2] rfl
            have hD9 := hD.sub (ws' := [((a 0), .inr (8, (fX8 a (nI tx) fp (nI t0__11) wd__9 (nI we__9) nu__11 (nI nq_12) (nI rd) ts (nI ru) (nI rw) (nI ca) df db sd))), (aI k (a 5) 240 ftext), (aI k (a 25) 4 (nF d_15)), (aI k (a 26) 48 (upd fbarSeen (12 * ru + bm ru) nu__5)), (aI k (a 27) 48 (upd fbarFrom (12 * ru + bm ru) nu__11))]) [3, 4, 0, 1, 2] (by decide) rfl
            exact W.iret (v := 0) hx hb hr (fun t ht hW => ⟨⟨0, (t0__11, wd__9, we__9, fp, nu__11, (nI nq_12), d_15, (upd fbarSeen (12 * ru + bm ru) nu__5), (upd fbarFrom (12 * ru + bm ru) nu__11)), rfl, ⟨.inl ⟨rfl, nu__5, nu__11, (se_c hq_4).trans (ch_0 (cnt := bm ru - 1) (sn := (fun i => fbarSeen (12 * ru + 1 + i))) hq_6 (se_c1 (ru := ru) (f := fbarSeen) (show 1 ≤ bm ru by omega) c_7) hq_10 hq_12), hd_15, rfl, rfl, rfl⟩, (ruK_tr (ruK_s (by omega)) (ruK_tr (ruK_f (by omega)) (ruK_b hd_15))), by omega, by omega, hbb_15, fun _ => by omega⟩, by rw [ht]; exact hP9, hD9⟩, hS.F ht⟩) hS.2.2 dX8_takeSeen_148
          · refine lv_istore_n (lv' := [(3, .int 1), (4, .int (nI (12 * ru + bm ru))), (0, .ref (a 0)), (1, .long 131638)]) hx hb dX8_takeSeen_122 rfl hl (by decide) rfl (fun ls hl => ?_)
            refine lv_aload_n hx hb dX8_takeSeen_123 rfl (lv_at hl 2 rfl) ?_
            refine va_get (D := D) (ci := 8) (v := .ref (a 27)) (C := RX8) (T := TX8) (N := 44) hx hb hts inX8 hown hK hP 3 rfl rfl 26 (by decide) (hts _ tw_999) (fun _ h9 => h9) rfl dX8_takeSeen_124 ?_
            refine lv_iload hx hb dX8_takeSeen_127 (lv_at hl 1 rfl) ?_
            refine lv_aload_n hx hb dX8_takeSeen_129 rfl (lv_at hl 2 rfl) ?_
            refine va_get (D := D) (ci := 8) (v := .int nu__11) (C := RX8) (T := TX8) (N := 44) hx hb hts inX8 hown hK hP 3 rfl rfl 10 (by decide) (hts _ tw_983) (fun _ h9 => h9) rfl dX8_takeSeen_130 ?_
            refine va_iast hx hb hK hP hD hS 2 1 rfl rfl (vp_in_nI (by omega) (by decide)) dX8_takeSeen_133 (fun H locs hP hD hS => ?_)
            replace hP : va_P D classes [(aI k (a 25) 4 (nF bm)), (aI k (a 26) 48 (upd fbarSeen (12 * ru + bm ru) nu__5)), (aI k (a 27) 48 (upd fbarFrom (Int32.toNatClampNeg (nI (12 * ru + bm ru))) nu__11)), ((a 0), .inr (8, (fX8 a (nI tx) (nI pl_12) (nI t0__11) wd__9 (nI we__9) nu__11 (nI nq_12) (nI rd) ts (nI ru) (nI rw) (nI ca) df db sd))), (aI k (a 5) 240 ftext)] H := hP
            replace hD : va_D A [(aI k (a 25) 4 (nF bm)), (aI k (a 26) 48 (upd fbarSeen (12 * ru + bm ru) nu__5)), (aI k (a 27) 48 (upd fbarFrom (Int32.toNatClampNeg (nI (12 * ru + bm ru))) nu__11)), ((a 0), .inr (8, (fX8 a (nI tx) (nI pl_12) (nI t0__11) wd__9 (nI we__9) nu__11 (nI nq_12) (nI rd) ts (nI ru) (nI rw) (nI ca) df db sd))), (aI k (a 5) 240 ftext)] := hD
            rw [nI_clamp (n := (12 * ru + bm ru)) (by omega)] at hP hD
            replace hP : va_P D classes [(aI k (a 25) 4 (nF bm)), (aI k (a 26) 48 (upd fbarSeen (12 * ru + bm ru) nu__5)), (aI k (a 27) 48 (upd fbarFrom (12 * ru + bm ru) nu__11)), ((a 0), .inr (8, (fX8 a (nI tx) (nI pl_12) (nI t0__11) wd__9 (nI we__9) nu__11 (nI nq_12) (nI rd) ts (nI ru) (nI rw) (nI ca) df db sd))), (aI k (a 5) 240 ftext)] H := hP
            replace hD : va_D A [(aI k (a 25) 4 (nF bm)), (aI k (a 26) 48 (upd fbarSeen (12 * ru + bm ru) nu__5)), (aI k (a 27) 48 (upd fbarFrom (12 * ru + bm ru) nu__11)), ((a 0), .inr (8, (fX8 a (nI tx) (nI pl_12) (nI t0__11) wd__9 (nI we__9) nu__11 (nI nq_12) (nI rd) ts (nI ru) (nI rw) (nI ca) df db sd))), (aI k (a 5) 240 ftext)] := hD
            refine lv_aload_n hx hb dX8_takeSeen_134 rfl (lv_at hl 2 rfl) ?_
            refine va_get (D := D) (ci := 8) (v := .ref (a 25)) (C := RX8) (T := TX8) (N := 44) hx hb hts inX8 hown hK hP 3 rfl rfl 24 (by decide) (hts _ tw_997) (fun _ h9 => h9) rfl dX8_takeSeen_135 ?_
            refine lv_aload_n hx hb dX8_takeSeen_138 rfl (lv_at hl 2 rfl) ?_
            refine va_get (D := D) (ci := 8) (v := .int (nI ru)) (C := RX8) (T := TX8) (N := 44) hx hb hts inX8 hown hK hP 3 rfl rfl 23 (by decide) (hts _ tw_996) (fun _ h9 => h9) rfl dX8_takeSeen_139 ?_
            refine lv_dup2_11 hx hb dX8_takeSeen_142 rfl rfl ?_
            refine va_iald hx hb hK hP 0 1 rfl rfl (vp_in_nI (by omega) (by decide)) dX8_takeSeen_143 ?_
            refine lv_ti (y := (nI (bm ru))) (by rw [nI_clamp (by omega)]; rfl) ?_
            refine lv_iconst (v := 1) hx hb dX8_takeSeen_144 (by decide) ?_
            refine lv_iadd hx hb dX8_takeSeen_145 ?_
            refine lv_ti (y := (nI (bm ru + 1))) (nI_add (bm ru) 1) ?_
            refine va_iast hx hb hK hP hD hS 0 1 rfl rfl (vp_in_nI (by omega) (by decide)) dX8_takeSeen_146 (fun H locs hP hD hS => ?_)
            replace hP : va_P D classes [(aI k (a 25) 4 (upd (nF bm) (Int32.toNatClampNeg (nI ru)) (nI (bm ru + 1)))), (aI k (a 26) 48 (upd fbarSeen (12 * ru + bm ru) nu__5)), (aI k (a 27) 48 (upd fbarFrom (12 * ru + bm ru) nu__11)), ((a 0), .inr (8, (fX8 a (nI tx) (nI pl_12) (nI t0__11) wd__9 (nI we__9) nu__11 (nI nq_12) (nI rd) ts (nI ru) (nI rw) (nI ca) df db sd))), (aI k (a 5) 240 ftext)] H := hP
            replace hD : va_D A [(aI k (a 25) 4 (upd (nF bm) (Int32.toNatClampNeg (nI ru)) (nI (bm ru + 1)))), (aI k (a 26) 48 (upd fbarSeen (12 * ru + bm ru) nu__5)), (aI k (a 27) 48 (upd fbarFrom (12 * ru + bm ru) nu__11)), ((a 0), .inr (8, (fX8 a (nI tx) (nI pl_12) (nI t0__11) wd__9 (nI we__9) nu__11 (nI nq_12) (nI rd) ts (nI ru) (nI rw) (nI ca) df db sd))), (aI k (a 5) 240 ftext)] := hD
            rw [nI_clamp (n := ru) (by omega)] at hP hD
            rw [show upd (nF bm) ru (nI (bm ru + 1)) = nF (fun j => if j = ru then bm ru + 1 else bm j) from nF_upd _ _ _] at hP hD
            obtain ⟨d_18, hd_18⟩ : ∃ z : Nat → Nat, z = (fun j => if j = ru then bm ru + 1 else bm j) := ⟨_, rfl⟩
            rw [← hd_18] at hP hD
            have hbb_18 : ∀ j, d_18 j ≤ 12 := by rw [hd_18]; exact up_le hbm (by omega)
            have hbu_18 : d_18 ru = bm ru + 1 := by rw [hd_18]; exact if_pos rfl
            refine lv_iload_n hx hb dX8_takeSeen_147 rfl (lv_at hl 0 rfl) ?_
            have hP9 := hP.sub (ws' := [((a 0), .inr (8, (fX8 a (nI tx) (nI pl_12) (nI t0__11) wd__9 (nI we__9) nu__11 (nI nq_12) (nI rd) ts (nI ru) (nI rw) (nI ca) df db sd))), (aI k (a 5) 240 ftext), (aI k (a 25) 4 (nF d_18)), (aI k (a 26) 48 (upd fbarSeen (12 * ru + bm ru) nu__5)), (aI k (a 27) 48 (upd fbarFrom (12 * ru + bm ru) nu__11))]) [3, 4, 0, 1, 2] rfl
            have hD9 := hD.sub (ws' := [((a 0), .inr (8, (fX8 a (nI tx) (nI pl_12) (nI t0__11) wd__9 (nI we__9) nu__11 (nI nq_12) (nI rd) ts (nI ru) (nI rw) (nI ca) df db sd))), (aI k (a 5) 240 ftext), (aI k (a 25) 4 (nF d_18)), (aI k (a 26) 48 (upd fbarSeen (12 * ru + bm ru) nu__5)), (aI k (a 27) 48 (upd fbarFrom (12 * ru + bm ru) nu__11))]) [3, 4, 0, 1, 2] (by decide) rfl
            exact W.iret (v := 1) hx hb hr (fun t ht hW => ⟨⟨1, (t0__11, wd__9, we__9, (nI pl_12), nu__11, (nI nq_12), d_18, (upd fbarSeen (12 * ru + bm ru) nu__5), (upd fbarFrom (12 * ru + bm ru) nu__11)), rfl, ⟨.inr ⟨1, pl_12, rfl, by decide, by decide, (by rw [se_c hq_4]; exact (ch_4 (cnt := bm ru - 1) (sn := (fun i => fbarSeen (12 * ru + 1 + i))) hq_6 (se_c1 (ru := ru) (f := fbarSeen) (show 1 ≤ bm ru by omega) c_7) hq_10 hq_12 (by decide)).1), (by rw [se_c hq_4]; exact (ch_4 (cnt := bm ru - 1) (sn := (fun i => fbarSeen (12 * ru + 1 + i))) hq_6 (se_c1 (ru := ru) (f := fbarSeen) (show 1 ≤ bm ru by omega) c_7) hq_10 hq_12 (by decide)).2), rfl⟩, (ruK_tr (ruK_s (by omega)) (ruK_tr (ruK_f (by omega)) (ruK_b hd_18))), by omega, by omega, hbb_18, fun h => absurd h (by decide)⟩, by rw [ht]; exact hP9, hD9⟩, hS.F ht⟩) hS.2.2 dX8_takeSeen_148
          · refine lv_istore_n (lv' := [(3, .int 2), (4, .int (nI (12 * ru + bm ru))), (0, .ref (a 0)), (1, .long 131638)]) hx hb dX8_takeSeen_122 rfl hl (by decide) rfl (fun ls hl => ?_)
            refine lv_aload_n hx hb dX8_takeSeen_123 rfl (lv_at hl 2 rfl) ?_
            refine va_get (D := D) (ci := 8) (v := .ref (a 27)) (C := RX8) (T := TX8) (N := 44) hx hb hts inX8 hown hK hP 3 rfl rfl 26 (by decide) (hts _ tw_999) (fun _ h9 => h9) rfl dX8_takeSeen_124 ?_
            refine lv_iload hx hb dX8_takeSeen_127 (lv_at hl 1 rfl) ?_
            refine lv_aload_n hx hb dX8_takeSeen_129 rfl (lv_at hl 2 rfl) ?_
            refine va_get (D := D) (ci := 8) (v := .int nu__11) (C := RX8) (T := TX8) (N := 44) hx hb hts inX8 hown hK hP 3 rfl rfl 10 (by decide) (hts _ tw_983) (fun _ h9 => h9) rfl dX8_takeSeen_130 ?_
            refine va_iast hx hb hK hP hD hS 2 1 rfl rfl (vp_in_nI (by omega) (by decide)) dX8_takeSeen_133 (fun H locs hP hD hS => ?_)
            replace hP : va_P D classes [(aI k (a 25) 4 (nF bm)), (aI k (a 26) 48 (upd fbarSeen (12 * ru + bm ru) nu__5)), (aI k (a 27) 48 (upd fbarFrom (Int32.toNatClampNeg (nI (12 * ru + bm ru))) nu__11)), ((a 0), .inr (8, (fX8 a (nI tx) (nI pl_12) (nI t0__11) wd__9 (nI we__9) nu__11 (nI nq_12) (nI rd) ts (nI ru) (nI rw) (nI ca) df db sd))), (aI k (a 5) 240 ftext)] H := hP
            replace hD : va_D A [(aI k (a 25) 4 (nF bm)), (aI k (a 26) 48 (upd fbarSeen (12 * ru + bm ru) nu__5)), (aI k (a 27) 48 (upd fbarFrom (Int32.toNatClampNeg (nI (12 * ru + bm ru))) nu__11)), ((a 0), .inr (8, (fX8 a (nI tx) (nI pl_12) (nI t0__11) wd__9 (nI we__9) nu__11 (nI nq_12) (nI rd) ts (nI ru) (nI rw) (nI ca) df db sd))), (aI k (a 5) 240 ftext)] := hD
            rw [nI_clamp (n := (12 * ru + bm ru)) (by omega)] at hP hD
            replace hP : va_P D classes [(aI k (a 25) 4 (nF bm)), (aI k (a 26) 48 (upd fbarSeen (12 * ru + bm ru) nu__5)), (aI k (a 27) 48 (upd fbarFrom (12 * ru + bm ru) nu__11)), ((a 0), .inr (8, (fX8 a (nI tx) (nI pl_12) (nI t0__11) wd__9 (nI we__9) nu__11 (nI nq_12) (nI rd) ts (nI ru) (nI rw) (nI ca) df db sd))), (aI k (a 5) 240 ftext)] H := hP
            replace hD : va_D A [(aI k (a 25) 4 (nF bm)), (aI k (a 26) 48 (upd fbarSeen (12 * ru + bm ru) nu__5)), (aI k (a 27) 48 (upd fbarFrom (12 * ru + bm ru) nu__11)), ((a 0), .inr (8, (fX8 a (nI tx) (nI pl_12) (nI t0__11) wd__9 (nI we__9) nu__11 (nI nq_12) (nI rd) ts (nI ru) (nI rw) (nI ca) df db sd))), (aI k (a 5) 240 ftext)] := hD
            refine lv_aload_n hx hb dX8_takeSeen_134 rfl (lv_at hl 2 rfl) ?_
            refine va_get (D := D) (ci := 8) (v := .ref (a 25)) (C := RX8) (T := TX8) (N := 44) hx hb hts inX8 hown hK hP 3 rfl rfl 24 (by decide) (hts _ tw_997) (fun _ h9 => h9) rfl dX8_takeSeen_135 ?_
            refine lv_aload_n hx hb dX8_takeSeen_138 rfl (lv_at hl 2 rfl) ?_
            refine va_get (D := D) (ci := 8) (v := .int (nI ru)) (C := RX8) (T := TX8) (N := 44) hx hb hts inX8 hown hK hP 3 rfl rfl 23 (by decide) (hts _ tw_996) (fun _ h9 => h9) rfl dX8_takeSeen_139 ?_
            refine lv_dup2_11 hx hb dX8_takeSeen_142 rfl rfl ?_
            refine va_iald hx hb hK hP 0 1 rfl rfl (vp_in_nI (by omega) (by decide)) dX8_takeSeen_143 ?_
            refine lv_ti (y := (nI (bm ru))) (by rw [nI_clamp (by omega)]; rfl) ?_
            refine lv_iconst (v := 1) hx hb dX8_takeSeen_144 (by decide) ?_
            refine lv_iadd hx hb dX8_takeSeen_145 ?_
            refine lv_ti (y := (nI (bm ru + 1))) (nI_add (bm ru) 1) ?_
            refine va_iast hx hb hK hP hD hS 0 1 rfl rfl (vp_in_nI (by omega) (by decide)) dX8_takeSeen_146 (fun H locs hP hD hS => ?_)
            replace hP : va_P D classes [(aI k (a 25) 4 (upd (nF bm) (Int32.toNatClampNeg (nI ru)) (nI (bm ru + 1)))), (aI k (a 26) 48 (upd fbarSeen (12 * ru + bm ru) nu__5)), (aI k (a 27) 48 (upd fbarFrom (12 * ru + bm ru) nu__11)), ((a 0), .inr (8, (fX8 a (nI tx) (nI pl_12) (nI t0__11) wd__9 (nI we__9) nu__11 (nI nq_12) (nI rd) ts (nI ru) (nI rw) (nI ca) df db sd))), (aI k (a 5) 240 ftext)] H := hP
            replace hD : va_D A [(aI k (a 25) 4 (upd (nF bm) (Int32.toNatClampNeg (nI ru)) (nI (bm ru + 1)))), (aI k (a 26) 48 (upd fbarSeen (12 * ru + bm ru) nu__5)), (aI k (a 27) 48 (upd fbarFrom (12 * ru + bm ru) nu__11)), ((a 0), .inr (8, (fX8 a (nI tx) (nI pl_12) (nI t0__11) wd__9 (nI we__9) nu__11 (nI nq_12) (nI rd) ts (nI ru) (nI rw) (nI ca) df db sd))), (aI k (a 5) 240 ftext)] := hD
            rw [nI_clamp (n := ru) (by omega)] at hP hD
            rw [show upd (nF bm) ru (nI (bm ru + 1)) = nF (fun j => if j = ru then bm ru + 1 else bm j) from nF_upd _ _ _] at hP hD
            obtain ⟨d_21, hd_21⟩ : ∃ z : Nat → Nat, z = (fun j => if j = ru then bm ru + 1 else bm j) := ⟨_, rfl⟩
            rw [← hd_21] at hP hD
            have hbb_21 : ∀ j, d_21 j ≤ 12 := by rw [hd_21]; exact up_le hbm (by omega)
            have hbu_21 : d_21 ru = bm ru + 1 := by rw [hd_21]; exact if_pos rfl
            refine lv_iload_n hx hb dX8_takeSeen_147 rfl (lv_at hl 0 rfl) ?_
            have hP9 := hP.sub (ws' := [((a 0), .inr (8, (fX8 a (nI tx) (nI pl_12) (nI t0__11) wd__9 (nI we__9) nu__11 (nI nq_12) (nI rd) ts (nI ru) (nI rw) (nI ca) df db sd))), (aI k (a 5) 240 ftext), (aI k (a 25) 4 (nF d_21)), (aI k (a 26) 48 (upd fbarSeen (12 * ru + bm ru) nu__5)), (aI k (a 27) 48 (upd fbarFrom (12 * ru + bm ru) nu__11))]) [3, 4, 0, 1, 2] rfl
            have hD9 := hD.sub (ws' := [((a 0), .inr (8, (fX8 a (nI tx) (nI pl_12) (nI t0__11) wd__9 (nI we__9) nu__11 (nI nq_12) (nI rd) ts (nI ru) (nI rw) (nI ca) df db sd))), (aI k (a 5) 240 ftext), (aI k (a 25) 4 (nF d_21)), (aI k (a 26) 48 (upd fbarSeen (12 * ru + bm ru) nu__5)), (aI k (a 27) 48 (upd fbarFrom (12 * ru + bm ru) nu__11))]) [3, 4, 0, 1, 2] (by decide) rfl
            exact W.iret (v := 2) hx hb hr (fun t ht hW => ⟨⟨2, (t0__11, wd__9, we__9, (nI pl_12), nu__11, (nI nq_12), d_21, (upd fbarSeen (12 * ru + bm ru) nu__5), (upd fbarFrom (12 * ru + bm ru) nu__11)), rfl, ⟨.inr ⟨2, pl_12, rfl, by decide, by decide, (by rw [se_c hq_4]; exact (ch_4 (cnt := bm ru - 1) (sn := (fun i => fbarSeen (12 * ru + 1 + i))) hq_6 (se_c1 (ru := ru) (f := fbarSeen) (show 1 ≤ bm ru by omega) c_7) hq_10 hq_12 (by decide)).1), (by rw [se_c hq_4]; exact (ch_4 (cnt := bm ru - 1) (sn := (fun i => fbarSeen (12 * ru + 1 + i))) hq_6 (se_c1 (ru := ru) (f := fbarSeen) (show 1 ≤ bm ru by omega) c_7) hq_10 hq_12 (by decide)).2), rfl⟩, (ruK_tr (ruK_s (by omega)) (ruK_tr (ruK_f (by omega)) (ruK_b hd_21))), by omega, by omega, hbb_21, fun h => absurd h (by decide)⟩, by rw [ht]; exact hP9, hD9⟩, hS.F ht⟩) hS.2.2 dX8_takeSeen_148
        · refine lv_istore_n (lv' := [(3, .int 1), (4, .int (nI (12 * ru + bm ru))), (0, .ref (a 0)), (1, .long 131638)]) hx hb dX8_takeSeen_106 rfl hl (by decide) rfl (fun ls hl => ?_)
          refine lv_iload_n hx hb dX8_takeSeen_107 rfl (lv_at hl 0 rfl) ?_
          refine lv_if_le (tgt := 115) hx hb dX8_takeSeen_108 (by decide) (fun h => absurd h (by decide)) (fun _ => ?_)
          refine lv_iload_n hx hb dX8_takeSeen_111 rfl (lv_at hl 0 rfl) ?_
          refine lv_goto (tgt := 122) hx hb dX8_takeSeen_112 (by decide) ?_
          refine lv_istore_n (lv' := [(3, .int 1), (4, .int (nI (12 * ru + bm ru))), (0, .ref (a 0)), (1, .long 131638)]) hx hb dX8_takeSeen_122 rfl hl (by decide) rfl (fun ls hl => ?_)
          refine lv_aload_n hx hb dX8_takeSeen_123 rfl (lv_at hl 2 rfl) ?_
          refine va_get (D := D) (ci := 8) (v := .ref (a 27)) (C := RX8) (T := TX8) (N := 44) hx hb hts inX8 hown hK hP 3 rfl rfl 26 (by decide) (hts _ tw_999) (fun _ h9 => h9) rfl dX8_takeSeen_124 ?_
          refine lv_iload hx hb dX8_takeSeen_127 (lv_at hl 1 rfl) ?_
          refine lv_aload_n hx hb dX8_takeSeen_129 rfl (lv_at hl 2 rfl) ?_
          refine va_get (D := D) (ci := 8) (v := .int nu__5) (C := RX8) (T := TX8) (N := 44) hx hb hts inX8 hown hK hP 3 rfl rfl 10 (by decide) (hts _ tw_983) (fun _ h9 => h9) rfl dX8_takeSeen_130 ?_
          refine va_iast hx hb hK hP hD hS 2 1 rfl rfl (vp_in_nI (by omega) (by decide)) dX8_takeSeen_133 (fun H locs hP hD hS => ?_)
          replace hP : va_P D classes [(aI k (a 25) 4 (nF bm)), (aI k (a 26) 48 (upd fbarSeen (12 * ru + bm ru) nu__5)), (aI k (a 27) 48 (upd fbarFrom (Int32.toNatClampNeg (nI (12 * ru + bm ru))) nu__5)), ((a 0), .inr (8, (fX8 a (nI tx) (nI pl_10) (nI t0__9) wd__9 (nI we__9) nu__5 (nI nq_6) (nI rd) ts (nI ru) (nI rw) (nI ca) df db sd))), (aI k (a 5) 240 ftext)] H := hP
          replace hD : va_D A [(aI k (a 25) 4 (nF bm)), (aI k (a 26) 48 (upd fbarSeen (12 * ru + bm ru) nu__5)), (aI k (a 27) 48 (upd fbarFrom (Int32.toNatClampNeg (nI (12 * ru + bm ru))) nu__5)), ((a 0), .inr (8, (fX8 a (nI tx) (nI pl_10) (nI t0__9) wd__9 (nI we__9) nu__5 (nI nq_6) (nI rd) ts (nI ru) (nI rw) (nI ca) df db sd))), (aI k (a 5) 240 ftext)] := hD
          rw [nI_clamp (n := (12 * ru + bm ru)) (by omega)] at hP hD
          replace hP : va_P D classes [(aI k (a 25) 4 (nF bm)), (aI k (a 26) 48 (upd fbarSeen (12 * ru + bm ru) nu__5)), (aI k (a 27) 48 (upd fbarFrom (12 * ru + bm ru) nu__5)), ((a 0), .inr (8, (fX8 a (nI tx) (nI pl_10) (nI t0__9) wd__9 (nI we__9) nu__5 (nI nq_6) (nI rd) ts (nI ru) (nI rw) (nI ca) df db sd))), (aI k (a 5) 240 ftext)] H := hP
          replace hD : va_D A [(aI k (a 25) 4 (nF bm)), (aI k (a 26) 48 (upd fbarSeen (12 * ru + bm ru) nu__5)), (aI k (a 27) 48 (upd fbarFrom (12 * ru + bm ru) nu__5)), ((a 0), .inr (8, (fX8 a (nI tx) (nI pl_10) (nI t0__9) wd__9 (nI we__9) nu__5 (nI nq_6) (nI rd) ts (nI ru) (nI rw) (nI ca) df db sd))), (aI k (a 5) 240 ftext)] := hD
          refine lv_aload_n hx hb dX8_takeSeen_134 rfl (lv_at hl 2 rfl) ?_
          refine va_get (D := D) (ci := 8) (v := .ref (a 25)) (C := RX8) (T := TX8) (N := 44) hx hb hts inX8 hown hK hP 3 rfl rfl 24 (by decide) (hts _ tw_997) (fun _ h9 => h9) rfl dX8_takeSeen_135 ?_
          refine lv_aload_n hx hb dX8_takeSeen_138 rfl (lv_at hl 2 rfl) ?_
          refine va_get (D := D) (ci := 8) (v := .int (nI ru)) (C := RX8) (T := TX8) (N := 44) hx hb hts inX8 hown hK hP 3 rfl rfl 23 (by decide) (hts _ tw_996) (fun _ h9 => h9) rfl dX8_takeSeen_139 ?_
          refine lv_dup2_11 hx hb dX8_takeSeen_142 rfl rfl ?_
          refine va_iald hx hb hK hP 0 1 rfl rfl (vp_in_nI (by omega) (by decide)) dX8_takeSeen_143 ?_
          refine lv_ti (y := (nI (bm ru))) (by rw [nI_clamp (by omega)]; rfl) ?_
          refine lv_iconst (v := 1) hx hb dX8_takeSeen_144 (by decide) ?_
          refine lv_iadd hx hb dX8_takeSeen_145 ?_
          refine lv_ti (y := (nI (bm ru + 1))) (nI_add (bm ru) 1) ?_
          refine va_iast hx hb hK hP hD hS 0 1 rfl rfl (vp_in_nI (by omega) (by decide)) dX8_takeSeen_146 (fun H locs hP hD hS => ?_)
          replace hP : va_P D classes [(aI k (a 25) 4 (upd (nF bm) (Int32.toNatClampNeg (nI ru)) (nI (bm ru + 1)))), (aI k (a 26) 48 (upd fbarSeen (12 * ru + bm ru) nu__5)), (aI k (a 27) 48 (upd fbarFrom (12 * ru + bm ru) nu__5)), ((a 0), .inr (8, (fX8 a (nI tx) (nI pl_10) (nI t0__9) wd__9 (nI we__9) nu__5 (nI nq_6) (nI rd) ts (nI ru) (nI rw) (nI ca) df db sd))), (aI k (a 5) 240 ftext)] H := hP
          replace hD : va_D A [(aI k (a 25) 4 (upd (nF bm) (Int32.toNatClampNeg (nI ru)) (nI (bm ru + 1)))), (aI k (a 26) 48 (upd fbarSeen (12 * ru + bm ru) nu__5)), (aI k (a 27) 48 (upd fbarFrom (12 * ru + bm ru) nu__5)), ((a 0), .inr (8, (fX8 a (nI tx) (nI pl_10) (nI t0__9) wd__9 (nI we__9) nu__5 (nI nq_6) (nI rd) ts (nI ru) (nI rw) (nI ca) df db sd))), (aI k (a 5) 240 ftext)] := hD
          rw [nI_clamp (n := ru) (by omega)] at hP hD
          rw [show upd (nF bm) ru (nI (bm ru + 1)) = nF (fun j => if j = ru then bm ru + 1 else bm j) from nF_upd _ _ _] at hP hD
          obtain ⟨d_24, hd_24⟩ : ∃ z : Nat → Nat, z = (fun j => if j = ru then bm ru + 1 else bm j) := ⟨_, rfl⟩
          rw [← hd_24] at hP hD
          have hbb_24 : ∀ j, d_24 j ≤ 12 := by rw [hd_24]; exact up_le hbm (by omega)
          have hbu_24 : d_24 ru = bm ru + 1 := by rw [hd_24]; exact if_pos rfl
          refine lv_iload_n hx hb dX8_takeSeen_147 rfl (lv_at hl 0 rfl) ?_
          have hP9 := hP.sub (ws' := [((a 0), .inr (8, (fX8 a (nI tx) (nI pl_10) (nI t0__9) wd__9 (nI we__9) nu__5 (nI nq_6) (nI rd) ts (nI ru) (nI rw) (nI ca) df db sd))), (aI k (a 5) 240 ftext), (aI k (a 25) 4 (nF d_24)), (aI k (a 26) 48 (upd fbarSeen (12 * ru + bm ru) nu__5)), (aI k (a 27) 48 (upd fbarFrom (12 * ru + bm ru) nu__5))]) [3, 4, 0, 1, 2] rfl
          have hD9 := hD.sub (ws' := [((a 0), .inr (8, (fX8 a (nI tx) (nI pl_10) (nI t0__9) wd__9 (nI we__9) nu__5 (nI nq_6) (nI rd) ts (nI ru) (nI rw) (nI ca) df db sd))), (aI k (a 5) 240 ftext), (aI k (a 25) 4 (nF d_24)), (aI k (a 26) 48 (upd fbarSeen (12 * ru + bm ru) nu__5)), (aI k (a 27) 48 (upd fbarFrom (12 * ru + bm ru) nu__5))]) [3, 4, 0, 1, 2] (by decide) rfl
          exact W.iret (v := 1) hx hb hr (fun t ht hW => ⟨⟨1, (t0__9, wd__9, we__9, (nI pl_10), nu__5, (nI nq_6), d_24, (upd fbarSeen (12 * ru + bm ru) nu__5), (upd fbarFrom (12 * ru + bm ru) nu__5)), rfl, ⟨.inr ⟨1, pl_10, rfl, by decide, by decide, (by rw [se_c hq_4]; exact (ch_2 (cnt := bm ru - 1) (sn := (fun i => fbarSeen (12 * ru + 1 + i))) hq_6 (se_c1 (ru := ru) (f := fbarSeen) (show 1 ≤ bm ru by omega) c_7) hq_10 (by decide)).1), (by rw [se_c hq_4]; exact (ch_2 (cnt := bm ru - 1) (sn := (fun i => fbarSeen (12 * ru + 1 + i))) hq_6 (se_c1 (ru := ru) (f := fbarSeen) (show 1 ≤ bm ru by omega) c_7) hq_10 (by decide)).2), rfl⟩, (ruK_tr (ruK_s (by omega)) (ruK_tr (ruK_f (by omega)) (ruK_b hd_24))), by omega, by omega, hbb_24, fun h => absurd h (by decide)⟩, by rw [ht]; exact hP9, hD9⟩, hS.F ht⟩) hS.2.2 dX8_takeSeen_148
      · refine lv_aload_n hx hb dX8_takeSeen_74 rfl (lv_at hl 2 rfl) ?_
        refine lv_iconst (v := 3) hx hb dX8_takeSeen_75 (by decide) ?_
        refine lv_aload_n hx hb dX8_takeSeen_76 rfl (lv_at hl 2 rfl) ?_
        refine va_get (D := D) (ci := 8) (v := .int (nI nq_6)) (C := RX8) (T := TX8) (N := 44) hx hb hts inX8 hown hK hP 3 rfl rfl 11 (by decide) (hts _ tw_984) (fun _ h9 => h9) rfl dX8_takeSeen_77 ?_
        refine rw_i (D := D) (wr := [(aI k (a 25) 4 (nF bm)), (aI k (a 26) 48 fbarSeen), (aI k (a 27) 48 fbarFrom), (aI k (a 5) 240 ftext)]) (va_runV (As := [.int 3, .int (nI nq_6)]) (rest := []) ⟨hx, hb, hml, hown, hts⟩ ((n_fails l D k st lo a tx t0__5 we__3 rd ru rw ca fp wd__3 nu__5 (nI nq_6) ts df db sd 3 (nI nq_6)) H.size) (cwV 2 hts (gV tw_1151 tw_1153 tw_31 tw_87 tw_1154) rfl rfl rfl (by decide +kernel) ⟨Nat.le_of_ble_eq_true rfl, Nat.le_of_ble_eq_true rfl⟩) (pV hS hAlo hlo hP hK (va_Dlo hD hAlo) hZ [3] (by decide) rfl (ci := 8) (q := (RX8, TX8, 44)) (q0 := 0) rfl rfl) rfl rfl hl.1 rfl (lv_room (Nat.le_of_ble_eq_true rfl)) dX8_takeSeen_80 ⟨Nat.le_of_ble_eq_true rfl, Nat.le_of_ble_eq_true rfl⟩) hS hA hP hD [3] [0, 1, 2, 4] rfl rfl (by decide) (by decide) (fun r_25 u H locs hw_25 hP hD hS => ?_)
        obtain ⟨fp__25, rfl⟩ : ∃ z, z = u := ⟨_, rfl⟩
        replace hP : va_P D classes [(aI k (a 25) 4 (nF bm)), (aI k (a 26) 48 fbarSeen), (aI k (a 27) 48 fbarFrom), (aI k (a 5) 240 ftext), ((a 0), .inr (8, (fX8 a (nI tx) fp__25 (nI t0__5) wd__3 (nI we__3) nu__5 (nI nq_6) (nI rd) ts (nI ru) (nI rw) (nI ca) df db sd)))] H := hP
        replace hD : va_D A [(aI k (a 25) 4 (nF bm)), (aI k (a 26) 48 fbarSeen), (aI k (a 27) 48 fbarFrom), (aI k (a 5) 240 ftext), ((a 0), .inr (8, (fX8 a (nI tx) fp__25 (nI t0__5) wd__3 (nI we__3) nu__5 (nI nq_6) (nI rd) ts (nI ru) (nI rw) (nI ca) df db sd)))] := hD
        try dsimp only at hw_25
        obtain ⟨hs0_26, hs1_26⟩ := hw_25
        replace hs0_26 := hs0_26.symm
        subst hs0_26
        replace hs1_26 := hs1_26.symm
        subst hs1_26
        refine lv_istore_n (lv' := [(3, .int 3), (4, .int (nI (12 * ru + bm ru))), (0, .ref (a 0)), (1, .long 131638)]) hx hb dX8_takeSeen_83 rfl hl (by decide) rfl (fun ls hl => ?_)
        refine lv_iload_n hx hb dX8_takeSeen_84 rfl (lv_at hl 0 rfl) ?_
        refine lv_if_le (tgt := 90) hx hb dX8_takeSeen_85 (by decide) (fun h => absurd h (by decide)) (fun _ => ?_)
        refine lv_iload_n hx hb dX8_takeSeen_88 rfl (lv_at hl 0 rfl) ?_
        have hP9 := hP.sub (ws' := [((a 0), .inr (8, (fX8 a (nI tx) (nI nq_6) (nI t0__5) wd__3 (nI we__3) nu__5 (nI nq_6) (nI rd) ts (nI ru) (nI rw) (nI ca) df db sd))), (aI k (a 5) 240 ftext), (aI k (a 25) 4 (nF bm)), (aI k (a 26) 48 fbarSeen), (aI k (a 27) 48 fbarFrom)]) [4, 3, 0, 1, 2] rfl
        have hD9 := hD.sub (ws' := [((a 0), .inr (8, (fX8 a (nI tx) (nI nq_6) (nI t0__5) wd__3 (nI we__3) nu__5 (nI nq_6) (nI rd) ts (nI ru) (nI rw) (nI ca) df db sd))), (aI k (a 5) 240 ftext), (aI k (a 25) 4 (nF bm)), (aI k (a 26) 48 fbarSeen), (aI k (a 27) 48 fbarFrom)]) [4, 3, 0, 1, 2] (by decide) rfl
        exact W.iret (v := 3) hx hb hr (fun t ht hW => ⟨⟨3, (t0__5, wd__3, we__3, (nI nq_6), nu__5, (nI nq_6), bm, fbarSeen, fbarFrom), rfl, ⟨.inr ⟨3, nq_6, rfl, by decide, by decide, (by rw [se_c hq_4]; exact (ch_3 (cnt := bm ru - 1) (sn := (fun i => fbarSeen (12 * ru + 1 + i))) hq_6 (se_c0 (ru := ru) (f := fbarSeen) (show 1 ≤ bm ru by omega) hs0 (nuR_in hq_6).1 c_7)).1), (by rw [se_c hq_4]; exact (ch_3 (cnt := bm ru - 1) (sn := (fun i => fbarSeen (12 * ru + 1 + i))) hq_6 (se_c0 (ru := ru) (f := fbarSeen) (show 1 ≤ bm ru by omega) hs0 (nuR_in hq_6).1 c_7)).2), rfl⟩, ruK_rf, by omega, by omega, hbm, fun h => absurd h (by decide)⟩, by rw [ht]; exact hP9, hD9⟩, hS.F ht⟩) hS.2.2 dX8_takeSeen_89
    · refine lv_istore_n (lv' := [(3, .int 1), (0, .ref (a 0)), (1, .long 131638)]) hx hb dX8_takeSeen_34 rfl hl (by decide) rfl (fun ls hl => ?_)
      refine lv_bipush (v := 12) hx hb dX8_takeSeen_35 (by decide) ?_
      refine lv_aload_n hx hb dX8_takeSeen_37 rfl (lv_at hl 1 rfl) ?_
      refine va_get (D := D) (ci := 8) (v := .int (nI ru)) (C := RX8) (T := TX8) (N := 44) hx hb hts inX8 hown hK hP 3 rfl rfl 23 (by decide) (hts _ tw_996) (fun _ h9 => h9) rfl dX8_takeSeen_38 ?_
      refine lv_imul hx hb dX8_takeSeen_41 ?_
      refine lv_ti (y := (nI (12 * ru))) (pk_mul 12 ru) ?_
      refine lv_aload_n hx hb dX8_takeSeen_42 rfl (lv_at hl 1 rfl) ?_
      refine va_get (D := D) (ci := 8) (v := .ref (a 25)) (C := RX8) (T := TX8) (N := 44) hx hb hts inX8 hown hK hP 3 rfl rfl 24 (by decide) (hts _ tw_997) (fun _ h9 => h9) rfl dX8_takeSeen_43 ?_
      refine lv_aload_n hx hb dX8_takeSeen_46 rfl (lv_at hl 1 rfl) ?_
      refine va_get (D := D) (ci := 8) (v := .int (nI ru)) (C := RX8) (T := TX8) (N := 44) hx hb hts inX8 hown hK hP 3 rfl rfl 23 (by decide) (hts _ tw_996) (fun _ h9 => h9) rfl dX8_takeSeen_47 ?_
      refine va_iald hx hb hK hP 0 1 rfl rfl (vp_in_nI (by omega) (by decide)) dX8_takeSeen_50 ?_
      refine lv_ti (y := (nI (bm ru))) (by rw [nI_clamp (by omega)]; rfl) ?_
      refine lv_iadd hx hb dX8_takeSeen_51 ?_
      refine lv_ti (y := (nI (12 * ru + bm ru))) (nI_add (12 * ru) (bm ru)) ?_
      refine lv_istore (lv' := [(4, .int (nI (12 * ru + bm ru))), (3, .int 1), (0, .ref (a 0)), (1, .long 131638)]) hx hb dX8_takeSeen_52 hl (by decide) rfl (fun ls hl => ?_)
      refine lv_iload_n hx hb dX8_takeSeen_54 rfl (lv_at hl 1 rfl) ?_
      refine lv_if_ne (tgt := 84) hx hb dX8_takeSeen_55 (by decide) (fun _ => ?_) (fun h => absurd h (by decide))
      refine lv_iload_n hx hb dX8_takeSeen_84 rfl (lv_at hl 1 rfl) ?_
      refine lv_if_le (tgt := 90) hx hb dX8_takeSeen_85 (by decide) (fun h => absurd h (by decide)) (fun _ => ?_)
      refine lv_iload_n hx hb dX8_takeSeen_88 rfl (lv_at hl 1 rfl) ?_
      have hP9 := hP.sub (ws' := [((a 0), .inr (8, (fX8 a (nI tx) (nI pl_6) (nI t0__5) wd__3 (nI we__3) nu__5 (nI nq_6) (nI rd) ts (nI ru) (nI rw) (nI ca) df db sd))), (aI k (a 5) 240 ftext), (aI k (a 25) 4 (nF bm)), (aI k (a 26) 48 fbarSeen), (aI k (a 27) 48 fbarFrom)]) [3, 4, 0, 1, 2] rfl
      have hD9 := hD.sub (ws' := [((a 0), .inr (8, (fX8 a (nI tx) (nI pl_6) (nI t0__5) wd__3 (nI we__3) nu__5 (nI nq_6) (nI rd) ts (nI ru) (nI rw) (nI ca) df db sd))), (aI k (a 5) 240 ftext), (aI k (a 25) 4 (nF bm)), (aI k (a 26) 48 fbarSeen), (aI k (a 27) 48 fbarFrom)]) [3, 4, 0, 1, 2] (by decide) rfl
      exact W.iret (v := 1) hx hb hr (fun t ht hW => ⟨⟨1, (t0__5, wd__3, we__3, (nI pl_6), nu__5, (nI nq_6), bm, fbarSeen, fbarFrom), rfl, ⟨.inr ⟨1, pl_6, rfl, by decide, by decide, (by rw [se_c hq_4]; exact (ch_1 (cnt := bm ru - 1) (sn := (fun i => fbarSeen (12 * ru + 1 + i))) hq_6 (by decide)).1), (by rw [se_c hq_4]; exact (ch_1 (cnt := bm ru - 1) (sn := (fun i => fbarSeen (12 * ru + 1 + i))) hq_6 (by decide)).2), rfl⟩, ruK_rf, by omega, by omega, hbm, fun h => absurd h (by decide)⟩, by rw [ht]; exact hP9, hD9⟩, hS.F ht⟩) hS.2.2 dX8_takeSeen_89
    · refine lv_istore_n (lv' := [(3, .int 2), (0, .ref (a 0)), (1, .long 131638)]) hx hb dX8_takeSeen_34 rfl hl (by decide) rfl (fun ls hl => ?_)
      refine lv_bipush (v := 12) hx hb dX8_takeSeen_35 (by decide) ?_
      refine lv_aload_n hx hb dX8_takeSeen_37 rfl (lv_at hl 1 rfl) ?_
      refine va_get (D := D) (ci := 8) (v := .int (nI ru)) (C := RX8) (T := TX8) (N := 44) hx hb hts inX8 hown hK hP 3 rfl rfl 23 (by decide) (hts _ tw_996) (fun _ h9 => h9) rfl dX8_takeSeen_38 ?_
      refine lv_imul hx hb dX8_takeSeen_41 ?_
      refine lv_ti (y := (nI (12 * ru))) (pk_mul 12 ru) ?_
      refine lv_aload_n hx hb dX8_takeSeen_42 rfl (lv_at hl 1 rfl) ?_
      refine va_get (D := D) (ci := 8) (v := .ref (a 25)) (C := RX8) (T := TX8) (N := 44) hx hb hts inX8 hown hK hP 3 rfl rfl 24 (by decide) (hts _ tw_997) (fun _ h9 => h9) rfl dX8_takeSeen_43 ?_
      refine lv_aload_n hx hb dX8_takeSeen_46 rfl (lv_at hl 1 rfl) ?_
      refine va_get (D := D) (ci := 8) (v := .int (nI ru)) (C := RX8) (T := TX8) (N := 44) hx hb hts inX8 hown hK hP 3 rfl rfl 23 (by decide) (hts _ tw_996) (fun _ h9 => h9) rfl dX8_takeSeen_47 ?_
      refine va_iald hx hb hK hP 0 1 rfl rfl (vp_in_nI (by omega) (by decide)) dX8_takeSeen_50 ?_
      refine lv_ti (y := (nI (bm ru))) (by rw [nI_clamp (by omega)]; rfl) ?_
      refine lv_iadd hx hb dX8_takeSeen_51 ?_
      refine lv_ti (y := (nI (12 * ru + bm ru))) (nI_add (12 * ru) (bm ru)) ?_
      refine lv_istore (lv' := [(4, .int (nI (12 * ru + bm ru))), (3, .int 2), (0, .ref (a 0)), (1, .long 131638)]) hx hb dX8_takeSeen_52 hl (by decide) rfl (fun ls hl => ?_)
      refine lv_iload_n hx hb dX8_takeSeen_54 rfl (lv_at hl 1 rfl) ?_
      refine lv_if_ne (tgt := 84) hx hb dX8_takeSeen_55 (by decide) (fun _ => ?_) (fun h => absurd h (by decide))
      refine lv_iload_n hx hb dX8_takeSeen_84 rfl (lv_at hl 1 rfl) ?_
      refine lv_if_le (tgt := 90) hx hb dX8_takeSeen_85 (by decide) (fun h => absurd h (by decide)) (fun _ => ?_)
      refine lv_iload_n hx hb dX8_takeSeen_88 rfl (lv_at hl 1 rfl) ?_
      have hP9 := hP.sub (ws' := [((a 0), .inr (8, (fX8 a (nI tx) (nI pl_6) (nI t0__5) wd__3 (nI we__3) nu__5 (nI nq_6) (nI rd) ts (nI ru) (nI rw) (nI ca) df db sd))), (aI k (a 5) 240 ftext), (aI k (a 25) 4 (nF bm)), (aI k (a 26) 48 fbarSeen), (aI k (a 27) 48 fbarFrom)]) [3, 4, 0, 1, 2] rfl
      have hD9 := hD.sub (ws' := [((a 0), .inr (8, (fX8 a (nI tx) (nI pl_6) (nI t0__5) wd__3 (nI we__3) nu__5 (nI nq_6) (nI rd) ts (nI ru) (nI rw) (nI ca) df db sd))), (aI k (a 5) 240 ftext), (aI k (a 25) 4 (nF bm)), (aI k (a 26) 48 fbarSeen), (aI k (a 27) 48 fbarFrom)]) [3, 4, 0, 1, 2] (by decide) rfl
      exact W.iret (v := 2) hx hb hr (fun t ht hW => ⟨⟨2, (t0__5, wd__3, we__3, (nI pl_6), nu__5, (nI nq_6), bm, fbarSeen, fbarFrom), rfl, ⟨.inr ⟨2, pl_6, rfl, by decide, by decide, (by rw [se_c hq_4]; exact (ch_1 (cnt := bm ru - 1) (sn := (fun i => fbarSeen (12 * ru + 1 + i))) hq_6 (by decide)).1), (by rw [se_c hq_4]; exact (ch_1 (cnt := bm ru - 1) (sn := (fun i => fbarSeen (12 * ru + 1 + i))) hq_6 (by decide)).2), rfl⟩, ruK_rf, by omega, by omega, hbm, fun h => absurd h (by decide)⟩, by rw [ht]; exact hP9, hD9⟩, hS.F ht⟩) hS.2.2 dX8_takeSeen_89
  · refine lv_istore_n (lv' := [(3, .int 1), (0, .ref (a 0)), (1, .long 131638)]) hx hb dX8_takeSeen_18 rfl hl (by decide) rfl (fun ls hl => ?_)
    refine lv_iload_n hx hb dX8_takeSeen_19 rfl (lv_at hl 0 rfl) ?_
    refine lv_if_le (tgt := 27) hx hb dX8_takeSeen_20 (by decide) (fun h => absurd h (by decide)) (fun _ => ?_)
    refine lv_iload_n hx hb dX8_takeSeen_23 rfl (lv_at hl 0 rfl) ?_
    refine lv_goto (tgt := 34) hx hb dX8_takeSeen_24 (by decide) ?_
    refine lv_istore_n (lv' := [(3, .int 1), (0, .ref (a 0)), (1, .long 131638)]) hx hb dX8_takeSeen_34 rfl hl (by decide) rfl (fun ls hl => ?_)
    refine lv_bipush (v := 12) hx hb dX8_takeSeen_35 (by decide) ?_
    refine lv_aload_n hx hb dX8_takeSeen_37 rfl (lv_at hl 1 rfl) ?_
    refine va_get (D := D) (ci := 8) (v := .int (nI ru)) (C := RX8) (T := TX8) (N := 44) hx hb hts inX8 hown hK hP 3 rfl rfl 23 (by decide) (hts _ tw_996) (fun _ h9 => h9) rfl dX8_takeSeen_38 ?_
    refine lv_imul hx hb dX8_takeSeen_41 ?_
    refine lv_ti (y := (nI (12 * ru))) (pk_mul 12 ru) ?_
    refine lv_aload_n hx hb dX8_takeSeen_42 rfl (lv_at hl 1 rfl) ?_
    refine va_get (D := D) (ci := 8) (v := .ref (a 25)) (C := RX8) (T := TX8) (N := 44) hx hb hts inX8 hown hK hP 3 rfl rfl 24 (by decide) (hts _ tw_997) (fun _ h9 => h9) rfl dX8_takeSeen_43 ?_
    refine lv_aload_n hx hb dX8_takeSeen_46 rfl (lv_at hl 1 rfl) ?_
    refine va_get (D := D) (ci := 8) (v := .int (nI ru)) (C := RX8) (T := TX8) (N := 44) hx hb hts inX8 hown hK hP 3 rfl rfl 23 (by decide) (hts _ tw_996) (fun _ h9 => h9) rfl dX8_takeSeen_47 ?_
    refine va_iald hx hb hK hP 0 1 rfl rfl (vp_in_nI (by omega) (by decide)) dX8_takeSeen_50 ?_
    refine lv_ti (y := (nI (bm ru))) (by rw [nI_clamp (by omega)]; rfl) ?_
    refine lv_iadd hx hb dX8_takeSeen_51 ?_
    refine lv_ti (y := (nI (12 * ru + bm ru))) (nI_add (12 * ru) (bm ru)) ?_
    refine lv_istore (lv' := [(4, .int (nI (12 * ru + bm ru))), (3, .int 1), (0, .ref (a 0)), (1, .long 131638)]) hx hb dX8_takeSeen_52 hl (by decide) rfl (fun ls hl => ?_)
    refine lv_iload_n hx hb dX8_takeSeen_54 rfl (lv_at hl 1 rfl) ?_
    refine lv_if_ne (tgt := 84) hx hb dX8_takeSeen_55 (by decide) (fun _ => ?_) (fun h => absurd h (by decide))
    refine lv_iload_n hx hb dX8_takeSeen_84 rfl (lv_at hl 1 rfl) ?_
    refine lv_if_le (tgt := 90) hx hb dX8_takeSeen_85 (by decide) (fun h => absurd h (by decide)) (fun _ => ?_)
    refine lv_iload_n hx hb dX8_takeSeen_88 rfl (lv_at hl 1 rfl) ?_
    have hP9 := hP.sub (ws' := [((a 0), .inr (8, (fX8 a (nI tx) (nI pl_4) (nI t0__3) wd__3 (nI we__3) nu na (nI rd) ts (nI ru) (nI rw) (nI ca) df db sd))), (aI k (a 5) 240 ftext), (aI k (a 25) 4 (nF bm)), (aI k (a 26) 48 fbarSeen), (aI k (a 27) 48 fbarFrom)]) [3, 4, 0, 1, 2] rfl
    have hD9 := hD.sub (ws' := [((a 0), .inr (8, (fX8 a (nI tx) (nI pl_4) (nI t0__3) wd__3 (nI we__3) nu na (nI rd) ts (nI ru) (nI rw) (nI ca) df db sd))), (aI k (a 5) 240 ftext), (aI k (a 25) 4 (nF bm)), (aI k (a 26) 48 fbarSeen), (aI k (a 27) 48 fbarFrom)]) [3, 4, 0, 1, 2] (by decide) rfl
    exact W.iret (v := 1) hx hb hr (fun t ht hW => ⟨⟨1, (t0__3, wd__3, we__3, (nI pl_4), nu, na, bm, fbarSeen, fbarFrom), rfl, ⟨.inr ⟨1, pl_4, rfl, by decide, by decide, (se_w (cnt := bm ru - 1) (sn := (fun i => fbarSeen (12 * ru + 1 + i))) hq_4 (by decide)).1, (se_w (cnt := bm ru - 1) (sn := (fun i => fbarSeen (12 * ru + 1 + i))) hq_4 (by decide)).2, rfl⟩, ruK_rf, by omega, by omega, hbm, fun h => absurd h (by decide)⟩, by rw [ht]; exact hP9, hD9⟩, hS.F ht⟩) hS.2.2 dX8_takeSeen_89


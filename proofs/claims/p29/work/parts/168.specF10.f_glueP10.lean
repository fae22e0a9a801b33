theorem f_glueP10 : True := trivial
/-! a rule's text -/
abbrev RSt : Type := Nat × (Nat → Int32) × (Nat → Int32)
/-- a change, behind its word: fault, place, where one stands, how many passed, from which door -/
def chR (b : Nat → Int32) (n cnt : Nat) (sn : Nat → Int32) (t : Nat) : Nat × Nat × Nat × Int32 × Int32 :=
  match nuR b n false 1 24 t with
  | (e1, p1, t1, v1, q1) =>
    if e1 = 0 then
      if cnt = 0 ∨ sn (cnt - 1) < v1 then
        match wdR b n (sByt.getD 12 []) t1 with
        | (e2, p2, t2) =>
          if e2 = 0 then
            match nuR b n false 0 24 t2 with
            | (e3, p3, t3, v3, _) => if e3 = 0 then (0, 0, t3, v1, v3) else (e3, p3, t3, 0, 0)
          else (e2, p2, t2, 0, 0)
      else (3, q1, t1, 0, 0)
    else (e1, p1, t1, 0, 0)
/-- what follows where no change begins: fault, place, rounds -/
def roR (b : Nat → Int32) (n t : Nat) : Nat × Nat × Int32 :=
  if letA b n (skA b n t) = (sByt.getD 7 []) then
    match nuR b n false 0 3 (skA b n t + 5) with
    | (e, p, t1, v, _) => if e = 0 then (if skA b n t1 < n then (1, skA b n t1, v) else (0, 0, v)) else (e, p, 0)
  else if skA b n t < n then (1, skA b n t, 0) else (0, 0, 0)
def ruL (b : Nat → Int32) (n : Nat) : Nat → Nat → RSt → Nat × Nat × RSt × Int32
  | 0, t, σ => ((roR b n t).1, (roR b n t).2.1, σ, (roR b n t).2.2)
  | k + 1, t, σ =>
    if letA b n (skA b n t) = (sByt.getD 13 []) then
      if (chR b n σ.1 σ.2.1 (skA b n t + 4)).1 = 0 then ruL b n k (chR b n σ.1 σ.2.1 (skA b n t + 4)).2.2.1 (σ.1 + 1, upd σ.2.1 σ.1 (chR b n σ.1 σ.2.1 (skA b n t + 4)).2.2.2.1, upd σ.2.2 σ.1 (chR b n σ.1 σ.2.1 (skA b n t + 4)).2.2.2.2)
      else ((chR b n σ.1 σ.2.1 (skA b n t + 4)).1, (chR b n σ.1 σ.2.1 (skA b n t + 4)).2.1, σ, 0)
    else ((roR b n t).1, (roR b n t).2.1, σ, (roR b n t).2.2)
/-- the head of a rule: fault, place, where one stands, from which door -/
def ruH (b : Nat → Int32) (n t : Nat) : Nat × Nat × Nat × Int32 :=
  match wdR b n (sByt.getD 12 []) t with
  | (e1, p1, t1) =>
    if e1 = 0 then
      match nuR b n false 0 24 t1 with
      | (e2, p2, t2, v, _) => if e2 = 0 then (0, 0, t2, v) else (e2, p2, t2, 0)
    else (e1, p1, t1, 0)
def ru0 : RSt := (0, fun _ => 0, fun _ => 0)
theorem rl_go {b : Nat → Int32} {n k t t2 : Nat} {σ : RSt} {v1 v3 : Int32} (hk : 0 < k) (h : letA b n (skA b n t) = (sByt.getD 13 [])) (hc : chR b n σ.1 σ.2.1 (skA b n t + 4) = (0, 0, t2, v1, v3)) : ruL b n k t σ = ruL b n (k - 1) t2 (σ.1 + 1, upd σ.2.1 σ.1 v1, upd σ.2.2 σ.1 v3) := by
  rcases k with _ | k
  · omega
  · show (if _ then (if _ then _ else _) else _) = _
    rw [if_pos h, hc, if_pos rfl]
    rfl
theorem rl_er {b : Nat → Int32} {n k t e p : Nat} {σ : RSt} (hk : 0 < k) (h : letA b n (skA b n t) = (sByt.getD 13 [])) (he : (chR b n σ.1 σ.2.1 (skA b n t + 4)).1 = e) (h1 : 1 ≤ e) (hp : (chR b n σ.1 σ.2.1 (skA b n t + 4)).2.1 = p) : (ruL b n k t σ).1 = e ∧ (ruL b n k t σ).2.1 = p := by
  rcases k with _ | k
  · omega
  · have q : ruL b n (k + 1) t σ = ((chR b n σ.1 σ.2.1 (skA b n t + 4)).1, (chR b n σ.1 σ.2.1 (skA b n t + 4)).2.1, σ, 0) := by
      show (if _ then (if _ then _ else _) else _) = _
      rw [if_pos h, if_neg (by omega)]
    rw [q]
    exact ⟨he, hp⟩
theorem rl_no {b : Nat → Int32} {n k t : Nat} {σ : RSt} (h : ¬ letA b n (skA b n t) = (sByt.getD 13 [])) : ruL b n k t σ = ((roR b n t).1, (roR b n t).2.1, σ, (roR b n t).2.2) := by
  rcases k with _ | k
  · rfl
  · show (if _ then (if _ then _ else _) else _) = _
    rw [if_neg h]
theorem nuR_ge {b : Nat → Int32} {n p t t1 q : Nat} {sg : Bool} {lo hi v : Int32} (h : nuR b n sg lo hi t = (0, p, t1, v, q)) : t + 1 ≤ t1 := (nuR_in h).2
theorem wdR_ge {b : Nat → Int32} {n t t1 i : Nat} (h : wdR b n (sByt.getD i []) t = (0, 0, t1)) : t + (sByt.getD i []).length ≤ t1 := by
  unfold wdR at h
  by_cases c : letA b n (skA b n t) = sByt.getD i []
  · rw [if_pos c] at h
    have e : skA b n t + (sByt.getD i []).length = t1 := congrArg (fun z => z.2.2) h
    have g := skA_ge b n t
    omega
  · rw [if_neg c] at h
    exact absurd (show (1 : Nat) = 0 from congrArg Prod.fst h) (by decide)
theorem chR_clp {b : Nat → Int32} {n cnt t : Nat} {sn : Nat → Int32} : chR b n cnt (clp cnt sn) t = chR b n cnt sn t := by
  unfold chR clp
  rcases Nat.eq_zero_or_pos cnt with h | h
  · simp [h]
  · rw [if_pos (show cnt - 1 < cnt by omega)]
theorem clp_upd {f : Nat → Int32} {n : Nat} {v : Int32} : upd (clp n f) n v = clp (n + 1) (upd f n v) := by
  funext j
  show (if j = n then v else (if j < n then f j else 0)) = (if j < n + 1 then (if j = n then v else f j) else 0)
  by_cases h : j = n
  · rw [if_pos h, if_pos (by omega), if_pos h]
  · rw [if_neg h, if_neg h]
    by_cases h1 : j < n
    · rw [if_pos h1, if_pos (by omega)]
    · rw [if_neg h1, if_neg (by omega)]
theorem clp_0 {f : Nat → Int32} : clp 0 f = fun _ => 0 := by
  funext j
  unfold clp
  rw [if_neg (by omega)]
def ruF (b : Nat → Int32) (n t : Nat) : Nat × Nat × Int32 × RSt × Int32 :=
  if (ruH b n t).1 = 0 then ((ruL b n 24 (ruH b n t).2.2.1 ru0).1, (ruL b n 24 (ruH b n t).2.2.1 ru0).2.1, (ruH b n t).2.2.2, (ruL b n 24 (ruH b n t).2.2.1 ru0).2.2.1, (ruL b n 24 (ruH b n t).2.2.1 ru0).2.2.2)
  else ((ruH b n t).1, (ruH b n t).2.1, 0, ru0, 0)
theorem rf_h {b : Nat → Int32} {n t e p : Nat} (h : (ruH b n t).1 = e) (h1 : 1 ≤ e) (hp : (ruH b n t).2.1 = p) : (ruF b n t).1 = e ∧ (ruF b n t).2.1 = p := by
  unfold ruF
  rw [if_neg (by omega)]
  exact ⟨h, hp⟩
theorem rf_l {b : Nat → Int32} {n t t1 e p : Nat} {v : Int32} (h : ruH b n t = (0, 0, t1, v)) (he : (ruL b n 24 t1 ru0).1 = e) (hp : (ruL b n 24 t1 ru0).2.1 = p) : (ruF b n t).1 = e ∧ (ruF b n t).2.1 = p := by
  unfold ruF
  rw [h, if_pos rfl]
  exact ⟨he, hp⟩
theorem rf_o {b : Nat → Int32} {n t t1 : Nat} {v w : Int32} {σ : RSt} (h : ruH b n t = (0, 0, t1, v)) (hl : ruL b n 24 t1 ru0 = (0, 0, σ, w)) : ruF b n t = (0, 0, v, σ, w) := by
  unfold ruF
  rw [h, if_pos rfl, hl]
theorem ro_1e {b : Nat → Int32} {n t e p t1 q : Nat} {v : Int32} (h : letA b n (skA b n t) = (sByt.getD 7 [])) (hq : nuR b n false 0 3 (skA b n t + 5) = (e, p, t1, v, q)) (h1 : 1 ≤ e) : (roR b n t).1 = e ∧ (roR b n t).2.1 = p := by
  unfold roR
  have h0 : ¬ e = 0 := by omega
  rw [if_pos h, hq]
  simp only [h0, if_false]
  exact ⟨trivial, trivial⟩
theorem ro_1f {b : Nat → Int32} {n t p t1 q : Nat} {v : Int32} (h : letA b n (skA b n t) = (sByt.getD 7 [])) (hq : nuR b n false 0 3 (skA b n t + 5) = (0, p, t1, v, q)) (hz : skA b n t1 < n) : roR b n t = (1, skA b n t1, v) := by
  unfold roR
  rw [if_pos h, hq]
  simp only [hz, if_true]
theorem ro_1o {b : Nat → Int32} {n t p t1 q : Nat} {v : Int32} (h : letA b n (skA b n t) = (sByt.getD 7 [])) (hq : nuR b n false 0 3 (skA b n t + 5) = (0, p, t1, v, q)) (hz : ¬ skA b n t1 < n) : roR b n t = (0, 0, v) := by
  unfold roR
  rw [if_pos h, hq]
  simp only [hz, if_true, if_false]
theorem ro_0f {b : Nat → Int32} {n t : Nat} (h : ¬ letA b n (skA b n t) = (sByt.getD 7 [])) (hz : skA b n t < n) : roR b n t = (1, skA b n t, 0) := by
  unfold roR
  rw [if_neg h, if_pos hz]
theorem ro_0o {b : Nat → Int32} {n t : Nat} (h : ¬ letA b n (skA b n t) = (sByt.getD 7 [])) (hz : ¬ skA b n t < n) : roR b n t = (0, 0, 0) := by
  unfold roR
  rw [if_neg h, if_neg hz]
theorem ch_1 {b : Nat → Int32} {n cnt t e p1 t1 q1 : Nat} {sn : Nat → Int32} {v1 : Int32} (h1 : nuR b n false 1 24 t = (e, p1, t1, v1, q1)) (he : 1 ≤ e) : (chR b n cnt sn t).1 = e ∧ (chR b n cnt sn t).2.1 = p1 := by
  have q : chR b n cnt sn t = (e, p1, t1, 0, 0) := by
    unfold chR
    rw [h1]
    show (if e = 0 then _ else _) = _
    rw [if_neg (by omega)]
  rw [q]
  exact ⟨rfl, rfl⟩
theorem ch_3 {b : Nat → Int32} {n cnt t p1 t1 q1 : Nat} {sn : Nat → Int32} {v1 : Int32} (h1 : nuR b n false 1 24 t = (0, p1, t1, v1, q1)) (hc : ¬ (cnt = 0 ∨ sn (cnt - 1) < v1)) : (chR b n cnt sn t).1 = 3 ∧ (chR b n cnt sn t).2.1 = q1 := by
  have q : chR b n cnt sn t = (3, q1, t1, 0, 0) := by
    unfold chR
    rw [h1]
    show (if (0 : Nat) = 0 then _ else _) = _
    rw [if_pos rfl, if_neg hc]
  rw [q]
  exact ⟨rfl, rfl⟩
theorem ch_2 {b : Nat → Int32} {n cnt t p1 t1 q1 e p2 t2 : Nat} {sn : Nat → Int32} {v1 : Int32} (h1 : nuR b n false 1 24 t = (0, p1, t1, v1, q1)) (hc : cnt = 0 ∨ sn (cnt - 1) < v1) (h2 : wdR b n (sByt.getD 12 []) t1 = (e, p2, t2)) (he : 1 ≤ e) : (chR b n cnt sn t).1 = e ∧ (chR b n cnt sn t).2.1 = p2 := by
  have q : chR b n cnt sn t = (e, p2, t2, 0, 0) := by
    unfold chR
    rw [h1]
    show (if (0 : Nat) = 0 then _ else _) = _
    rw [if_pos rfl, if_pos hc, h2]
    show (if e = 0 then _ else _) = _
    rw [if_neg (by omega)]
  rw [q]
  exact ⟨rfl, rfl⟩
theorem ch_4 {b : Nat → Int32} {n cnt t p1 t1 q1 p2 t2 e p3 t3 q3 : Nat} {sn : Nat → Int32} {v1 v3 : Int32} (h1 : nuR b n false 1 24 t = (0, p1, t1, v1, q1)) (hc : cnt = 0 ∨ sn (cnt - 1) < v1) (h2 : wdR b n (sByt.getD 12 []) t1 = (0, p2, t2)) (h3 : nuR b n false 0 24 t2 = (e, p3, t3, v3, q3)) (he : 1 ≤ e) : (chR b n cnt sn t).1 = e ∧ (chR b n cnt sn t).2.1 = p3 := by
  have q : chR b n cnt sn t = (e, p3, t3, 0, 0) := by
    unfold chR
    rw [h1]
    show (if (0 : Nat) = 0 then _ else _) = _
    rw [if_pos rfl, if_pos hc, h2]
    show (if (0 : Nat) = 0 then _ else _) = _
    rw [if_pos rfl, h3]
    show (if e = 0 then _ else _) = _
    rw [if_neg (by omega)]
  rw [q]
  exact ⟨rfl, rfl⟩
theorem ch_0 {b : Nat → Int32} {n cnt t p1 t1 q1 p2 t2 p3 t3 q3 : Nat} {sn : Nat → Int32} {v1 v3 : Int32} (h1 : nuR b n false 1 24 t = (0, p1, t1, v1, q1)) (hc : cnt = 0 ∨ sn (cnt - 1) < v1) (h2 : wdR b n (sByt.getD 12 []) t1 = (0, p2, t2)) (h3 : nuR b n false 0 24 t2 = (0, p3, t3, v3, q3)) : chR b n cnt sn t = (0, 0, t3, v1, v3) := by
  unfold chR
  rw [h1]
  show (if (0 : Nat) = 0 then _ else _) = _
  rw [if_pos rfl, if_pos hc, h2]
  show (if (0 : Nat) = 0 then _ else _) = _
  rw [if_pos rfl, h3]
  show (if (0 : Nat) = 0 then _ else _) = _
  rw [if_pos rfl]


set_option maxHeartbeats 4000000 in
set_option maxRecDepth 100000 in
theorem y_readChange (l : Launch) (D : va_G) (k : Nat → ClassId) (st : Nat → Nat) (lo : Nat) (u0 : Nat) (u1 : Nat) (u2 : Nat) (rf : Int32) (rc : Nat) (rr : Nat) (rs : Nat → Int32) (rb : Nat → Int32) (x0 : Nat) (x1 : Nat) (tz : Nat) (ta : Nat) (na : Int32) (fn : Int32) (fb : Int32) (fx : Nat → Int32) (ht : ta ≤ tz) (hz : tz ≤ 240) (hrc : rc < 24) (hf0 : fn = 0) : CWv l D k st lo yX3_readChange cX3_readChange 4 none ({ frames := 6, cells := 0, slots := 0, locals := 129 }) 0 0 [.ref u0, .ref x0] [(u0, .inr (3, (fX3 u1 u2 rf (nI rc) (nI rr)))), (aI k u1 24 rs), (aI k u2 24 rb), (x0, .inr (6, (fX6 x1 (nI tz) (nI ta) na fn fb))), (aB k x1 240 fx)] (fun (u : Nat × (Nat → Int32) × (Nat → Int32) × Nat × Int32 × Int32 × Int32) => match u with | (rc_, rs_, rb_, ta_, na_, fn_, fb_) => ((fn_ = 0 ∧ ∃ v1 v3 : Int32, chR (bF fx) tz rc rs ta = (0, 0, ta_, v1, v3) ∧ rc_ = rc + 1 ∧ rs_ = upd rs rc v1 ∧ rb_ = upd rb rc v3 ∧ ta + 6 ≤ ta_) ∨ (∃ e pl : Nat, fn_ = nI e ∧ 1 ≤ e ∧ e ≤ 3 ∧ (chR (bF fx) tz rc rs ta).1 = e ∧ (chR (bF fx) tz rc rs ta).2.1 = pl ∧ fb_ = nI pl)) ∧ rc_ ≤ 24 ∧ ta ≤ ta_ ∧ ta_ ≤ tz) (fun (u : Nat × (Nat → Int32) × (Nat → Int32) × Nat × Int32 × Int32 × Int32) => match u with | (rc_, rs_, rb_, ta_, na_, fn_, fb_) => [(u0, .inr (3, (fX3 u1 u2 rf (nI rc_) (nI rr)))), (aI k u1 24 rs_), (aI k u2 24 rb_), (x0, .inr (6, (fX6 x1 (nI tz) (nI ta_) na_ fn_ fb_))), (aB k x1 240 fx)]) := by
  intro sz
  refine Met.ofW (cc := cX3_readChange) (maxL := 4) (ret := none) (by decide) rfl ?_
  intro p e s m args below meth c s₁ B hml hv
  obtain ⟨rfl, hsz, hlo, hP, hK, hDL, hZ⟩ := hv
  have hx := B.exec
  have hb := B.bytes
  have hr := B.returns
  have hts := WS_ts B.pre
  have hown : s.vm.findClass RX3 = some m.cls := findClass_of_methodNamed B.named
  have hlocks := B.notSynchronized
  subst hsz
  have hD := hDL.self (sz := s.heap.size)
  have hAlo := A_lo hDL hlo
  generalize hAe : va_A [(u0, .inr (3, (fX3 u1 u2 rf (nI rc) (nI rr)))), (aI k u1 24 rs), (aI k u2 24 rb), (x0, .inr (6, (fX6 x1 (nI tz) (nI ta) na fn fb))), (aB k x1 240 fx)] s.heap.size = A at hD hAlo ⊢
  have hA : ∀ q : Nat, s.heap.size ≤ q → A q := fun q h => by rw [← hAe]; exact Or.inr h
  have hS : va_S A s.heap s.heap [] := va_S.rf
  have hl := lv_entry ([.ref u0, .ref x0]) (n := 4) (Nat.le_of_ble_eq_true rfl)
  rw [lg_entry_eq]
  generalize (lg_sl ([.ref u0, .ref x0]) ++ List.replicate (4 - (lg_sl ([.ref u0, .ref x0])).length) Slot.unset).toArray = ls at hl ⊢
  have hl : lv_has ls 4 [(0, .ref u0), (1, .ref x0)] := hl
  subst hf0
  refine lv_aload_n hx hb dX3_readChange_0 rfl (lv_at hl 1 rfl) ?_
  refine lv_iconst (v := 1) hx hb dX3_readChange_1 (by decide) ?_
  refine lv_bipush (v := 24) hx hb dX3_readChange_2 (by decide) ?_
  refine rw_i (D := D) (wr := [(u0, .inr (3, (fX3 u1 u2 rf (nI rc) (nI rr)))), (aI k u1 24 rs), (aI k u2 24 rb)]) (va_runV (As := [.int 1, .int 24]) (rest := []) ⟨hx, hb, hml, hown, hts⟩ ((y_needNumber l D k st lo x0 x1 tz ta na 0 fb fx 1 24 (by first | assumption | omega) (by first | assumption | omega) (by decide)) s.heap.size) (cwV 2 hts (gV tw_681 tw_468 tw_469 tw_80 tw_470) rfl rfl rfl (by decide +kernel) ⟨Nat.le_of_ble_eq_true rfl, Nat.le_of_ble_eq_true rfl⟩) (pV hS hAlo hlo hP hK (va_Dlo hD hAlo) hZ [3, 4] (by decide) rfl (ci := 6) (q := (RX6, TX6, 6)) (q0 := 0) rfl rfl) rfl rfl hl.1 rfl (lv_room (Nat.le_of_ble_eq_true rfl)) dX3_readChange_4 ⟨Nat.le_of_ble_eq_true rfl, Nat.le_of_ble_eq_true rfl⟩) hS hA hP hD [3, 4] [0, 1, 2] rfl rfl (by decide) (by decide) (fun r_1 u H locs hw_1 hP hD hS => ?_)
  obtain ⟨ta__1, na__1, fn__1, fb__1⟩ := u
  replace hP : va_P D classes [(u0, .inr (3, (fX3 u1 u2 rf (nI rc) (nI rr)))), (aI k u1 24 rs), (aI k u2 24 rb), (x0, .inr (6, (fX6 x1 (nI tz) (nI ta__1) na__1 fn__1 fb__1))), (aB k x1 240 fx)] H := hP
  replace hD : va_D A [(u0, .inr (3, (fX3 u1 u2 rf (nI rc) (nI rr)))), (aI k u1 24 rs), (aI k u2 24 rb), (x0, .inr (6, (fX6 x1 (nI tz) (nI ta__1) na__1 fn__1 fb__1))), (aB k x1 240 fx)] := hD
  try dsimp only at hw_1
  obtain ⟨pl_2, nq_2, rfl, hq_2⟩ := hw_1.2.1 rfl
  rw [show decide ((1 : Int32) < 0) = false from by decide] at hq_2
  rcases hq_2 with ⟨rfl, hq_2⟩ | ⟨rfl, hr_2, rfl, hq_2⟩ | ⟨rfl, hr_2, rfl, hq_2⟩
  · refine lv_istore_n (lv' := [(2, .int r_1), (0, .ref u0), (1, .ref x0)]) hx hb dX3_readChange_7 rfl hl (by decide) rfl (fun ls hl => ?_)
    refine lv_aload_n hx hb dX3_readChange_8 rfl (lv_at hl 2 rfl) ?_
    refine ro_i (D := D) (va_runV (As := []) (rest := []) ⟨hx, hb, hml, hown, hts⟩ ((x_failed l D k st lo x0 x1 tz ta__1 (nI nq_2) 0 fb__1) H.size) (cwV 0 hts (gV tw_682 tw_368 tw_369 tw_80 tw_370) rfl rfl rfl (by decide +kernel) ⟨Nat.le_of_ble_eq_true rfl, Nat.le_of_ble_eq_true rfl⟩) (pV hS hAlo hlo hP hK (va_Dlo hD hAlo) hZ [3] (by decide) rfl (ci := 6) (q := (RX6, TX6, 6)) (q0 := 0) rfl rfl) rfl rfl hl.1 rfl (lv_room (Nat.le_of_ble_eq_true rfl)) dX3_readChange_9 ⟨Nat.le_of_ble_eq_true rfl, Nat.le_of_ble_eq_true rfl⟩) hS hA hP (fun r_3 H locs hw_3 hP hS => ?_)
    try dsimp only at hw_3
    obtain rfl : r_3 = 0 := by rcases hw_3 with ⟨h, h2⟩ | ⟨h, h2⟩ <;> first | exact h | exact absurd rfl h2 | exact absurd h2 (by decide)
    refine lv_if_ne (tgt := 46) hx hb dX3_readChange_12 (by decide) (fun h => absurd (by decide) h) (fun _ => ?_)
    refine lv_aload_n hx hb dX3_readChange_15 rfl (lv_at hl 1 rfl) ?_
    refine va_get (D := D) (ci := 3) (v := .int (nI rc)) (C := RX3) (T := TX3) (N := 5) hx hb hts inX3 hown hK hP 0 rfl rfl 3 (by decide) (hts _ tw_292) (fun _ h9 => h9) rfl dX3_readChange_16 ?_
    refine lv_if_le (tgt := 46) hx hb dX3_readChange_19 (by decide) (fun c_4 => ?_) (fun c_4 => ?_)
    · have c_4 := (nI_leI (a := rc) (b := 0) (by omega) (by omega)).mp c_4
      refine lv_aload_n hx hb dX3_readChange_46 rfl (lv_at hl 2 rfl) ?_
      refine va_ldcS hx hb hown (hZ.2.2.2.2.2.2.2.2.2.2 (RX3, 28, "from", 12) (List.mem_of_getElem? (i := 12) rfl)) dX3_readChange_47 ?_
      refine rw_v (D := D) (wr := [(u0, .inr (3, (fX3 u1 u2 rf (nI rc) (nI rr)))), (aI k u1 24 rs), (aI k u2 24 rb)]) (va_runV (As := [.ref (st (100 + 12))]) (rest := []) ⟨hx, hb, hml, hown, hts⟩ ((y_needWord l D k st lo x0 x1 tz ta__1 (nI nq_2) 0 fb__1 fx 12 (by first | assumption | omega) (by first | assumption | omega) (by first | assumption | omega)) H.size) (cwV 1 hts (gV tw_680 tw_483 tw_484 tw_80 tw_485) rfl rfl rfl (by decide +kernel) ⟨Nat.le_of_ble_eq_true rfl, Nat.le_of_ble_eq_true rfl⟩) (pV hS hAlo hlo hP hK (va_Dlo hD hAlo) hZ [3, 4] (by decide) rfl (ci := 6) (q := (RX6, TX6, 6)) (q0 := 0) rfl rfl) rfl rfl hl.1 rfl (lv_room (Nat.le_of_ble_eq_true rfl)) dX3_readChange_49 ⟨Nat.le_of_ble_eq_true rfl, Nat.le_of_ble_eq_true rfl⟩) hS hA hP hD [3, 4] [0, 1, 2] rfl rfl (by decide) (by decide) (fun u H locs hw_5 hP hD hS => ?_)
      obtain ⟨ta__5, fn__5, fb__5⟩ := u
      replace hP : va_P D classes [(u0, .inr (3, (fX3 u1 u2 rf (nI rc) (nI rr)))), (aI k u1 24 rs), (aI k u2 24 rb), (x0, .inr (6, (fX6 x1 (nI tz) (nI ta__5) (nI nq_2) fn__5 fb__5))), (aB k x1 240 fx)] H := hP
      replace hD : va_D A [(u0, .inr (3, (fX3 u1 u2 rf (nI rc) (nI rr)))), (aI k u1 24 rs), (aI k u2 24 rb), (x0, .inr (6, (fX6 x1 (nI tz) (nI ta__5) (nI nq_2) fn__5 fb__5))), (aB k x1 240 fx)] := hD
      try dsimp only at hw_5
      rcases hw_5.2.1 rfl with ⟨rfl, hq_6⟩ | ⟨rfl, pl_6, hq_6, rfl⟩
      · refine lv_aload_n hx hb dX3_readChange_52 rfl (lv_at hl 2 rfl) ?_
        refine lv_iconst (v := 0) hx hb dX3_readChange_53 (by decide) ?_
        refine lv_bipush (v := 24) hx hb dX3_readChange_54 (by decide) ?_
        refine rw_i (D := D) (wr := [(u0, .inr (3, (fX3 u1 u2 rf (nI rc) (nI rr)))), (aI k u1 24 rs), (aI k u2 24 rb)]) (va_runV (As := [.int 0, .int 24]) (rest := []) ⟨hx, hb, hml, hown, hts⟩ ((y_needNumber l D k st lo x0 x1 tz ta__5 (nI nq_2) 0 fb__5 fx 0 24 (by first | assumption | omega) (by first | assumption | omega) (by decide)) H.size) (cwV 2 hts (gV tw_681 tw_468 tw_469 tw_80 tw_470) rfl rfl rfl (by decide +kernel) ⟨Nat.le_of_ble_eq_true rfl, Nat.le_of_ble_eq_true rfl⟩) (pV hS hAlo hlo hP hK (va_Dlo hD hAlo) hZ [3, 4] (by decide) rfl (ci := 6) (q := (RX6, TX6, 6)) (q0 := 0) rfl rfl) rfl rfl hl.1 rfl (lv_room (Nat.le_of_ble_eq_true rfl)) dX3_readChange_56 ⟨Nat.le_of_ble_eq_true rfl, Nat.le_of_ble_eq_true rfl⟩) hS hA hP hD [3, 4] [0, 1, 2] rfl rfl (by decide) (by decide) (fun r_7 u H locs hw_7 hP hD hS => ?_)
        obtain ⟨ta__7, na__7, fn__7, fb__7⟩ := u
        replace hP : va_P D classes [(u0, .inr (3, (fX3 u1 u2 rf (nI rc) (nI rr)))), (aI k u1 24 rs), (aI k u2 24 rb), (x0, .inr (6, (fX6 x1 (nI tz) (nI ta__7) na__7 fn__7 fb__7))), (aB k x1 240 fx)] H := hP
        replace hD : va_D A [(u0, .inr (3, (fX3 u1 u2 rf (nI rc) (nI rr)))), (aI k u1 24 rs), (aI k u2 24 rb), (x0, .inr (6, (fX6 x1 (nI tz) (nI ta__7) na__7 fn__7 fb__7))), (aB k x1 240 fx)] := hD
        try dsimp only at hw_7
        obtain ⟨pl_8, nq_8, rfl, hq_8⟩ := hw_7.2.1 rfl
        rw [show decide ((0 : Int32) < 0) = false from by decide] at hq_8
        rcases hq_8 with ⟨rfl, hq_8⟩ | ⟨rfl, hr_8, rfl, hq_8⟩ | ⟨rfl, hr_8, rfl, hq_8⟩
        · refine lv_istore_n (lv' := [(3, .int r_7), (2, .int r_1), (0, .ref u0), (1, .ref x0)]) hx hb dX3_readChange_59 rfl hl (by decide) rfl (fun ls hl => ?_)
          refine lv_aload_n hx hb dX3_readChange_60 rfl (lv_at hl 3 rfl) ?_
          refine ro_i (D := D) (va_runV (As := []) (rest := []) ⟨hx, hb, hml, hown, hts⟩ ((x_failed l D k st lo x0 x1 tz ta__7 (nI nq_8) 0 fb__7) H.size) (cwV 0 hts (gV tw_682 tw_368 tw_369 tw_80 tw_370) rfl rfl rfl (by decide +kernel) ⟨Nat.le_of_ble_eq_true rfl, Nat.le_of_ble_eq_true rfl⟩) (pV hS hAlo hlo hP hK (va_Dlo hD hAlo) hZ [3] (by decide) rfl (ci := 6) (q := (RX6, TX6, 6)) (q0 := 0) rfl rfl) rfl rfl hl.1 rfl (lv_room (Nat.le_of_ble_eq_true rfl)) dX3_readChange_61 ⟨Nat.le_of_ble_eq_true rfl, Nat.le_of_ble_eq_true rfl⟩) hS hA hP (fun r_9 H locs hw_9 hP hS => ?_)
          try dsimp only at hw_9
          obtain rfl : r_9 = 0 := by rcases hw_9 with ⟨h, h2⟩ | ⟨h, h2⟩ <;> first | exact h | exact absurd rfl h2 | exact absurd h2 (by decide)
          refine lv_if_ne (tgt := 106) hx hb dX3_readChange_64 (by decide) (fun h => absurd (by decide) h) (fun _ => ?_)
          refine lv_aload_n hx hb dX3_readChange_67 rfl (lv_at hl 2 rfl) ?_
          refine va_get (D := D) (ci := 3) (v := .int (nI rc)) (C := RX3) (T := TX3) (N := 5) hx hb hts inX3 hown hK hP 0 rfl rfl 3 (by decide) (hts _ tw_292) (fun _ h9 => h9) rfl dX3_readChange_68 ?_
          refine lv_bipush (v := 24) hx hb dX3_readChange_71 (by decide) ?_
          refine lv_icmp_ge (tgt := 106) hx hb dX3_readChange_73 (by decide) (fun h => absurd ((nI_leI (a := 24) (b := rc) (by omega) (by omega)).mp h) (by omega)) (fun _ => ?_)
          refine lv_aload_n hx hb dX3_readChange_76 rfl (lv_at hl 2 rfl) ?_
          refine va_get (D := D) (ci := 3) (v := .ref u1) (C := RX3) (T := TX3) (N := 5) hx hb hts inX3 hown hK hP 0 rfl rfl 0 (by decide) (hts _ tw_289) (fun _ h9 => h9) rfl dX3_readChange_77 ?_
          refine lv_aload_n hx hb dX3_readChange_80 rfl (lv_at hl 2 rfl) ?_
          refine va_get (D := D) (ci := 3) (v := .int (nI rc)) (C := RX3) (T := TX3) (N := 5) hx hb hts inX3 hown hK hP 0 rfl rfl 3 (by decide) (hts _ tw_292) (fun _ h9 => h9) rfl dX3_readChange_81 ?_
          refine lv_iload_n hx hb dX3_readChange_84 rfl (lv_at hl 1 rfl) ?_
          refine va_iast hx hb hK hP hD hS 1 1 rfl rfl (vp_in_nI (by omega) (by decide)) dX3_readChange_85 (fun H locs hP hD hS => ?_)
          replace hP : va_P D classes [(u0, .inr (3, (fX3 u1 u2 rf (nI rc) (nI rr)))), (aI k u1 24 (upd rs (Int32.toNatClampNeg (nI rc)) r_1)), (aI k u2 24 rb), (x0, .inr (6, (fX6 x1 (nI tz) (nI ta__7) (nI nq_8) 0 fb__7))), (aB k x1 240 fx)] H := hP
          replace hD : va_D A [(u0, .inr (3, (fX3 u1 u2 rf (nI rc) (nI rr)))), (aI k u1 24 (upd rs (Int32.toNatClampNeg (nI rc)) r_1)), (aI k u2 24 rb), (x0, .inr (6, (fX6 x1 (nI tz) (nI ta__7) (nI nq_8) 0 fb__7))), (aB k x1 240 fx)] := hD
          rw [nI_clamp (n := rc) (by omega)] at hP hD
          replace hP : va_P D classes [(u0, .inr (3, (fX3 u1 u2 rf (nI rc) (nI rr)))), (aI k u1 24 (upd rs rc r_1)), (aI k u2 24 rb), (x0, .inr (6, (fX6 x1 (nI tz) (nI ta__7) (nI nq_8) 0 fb__7))), (aB k x1 240 fx)] H := hP
          replace hD : va_D A [(u0, .inr (3, (fX3 u1 u2 rf (nI rc) (nI rr)))), (aI k u1 24 (upd rs rc r_1)), (aI k u2 24 rb), (x0, .inr (6, (fX6 x1 (nI tz) (nI ta__7) (nI nq_8) 0 fb__7))), (aB k x1 240 fx)] := hD
          refine lv_aload_n hx hb dX3_readChange_86 rfl (lv_at hl 2 rfl) ?_
          refine va_get (D := D) (ci := 3) (v := .ref u2) (C := RX3) (T := TX3) (N := 5) hx hb hts inX3 hown hK hP 0 rfl rfl 1 (by decide) (hts _ tw_290) (fun _ h9 => h9) rfl dX3_readChange_87 ?_
          refine lv_aload_n hx hb dX3_readChange_90 rfl (lv_at hl 2 rfl) ?_
          refine va_get (D := D) (ci := 3) (v := .int (nI rc)) (C := RX3) (T := TX3) (N := 5) hx hb hts inX3 hown hK hP 0 rfl rfl 3 (by decide) (hts _ tw_292) (fun _ h9 => h9) rfl dX3_readChange_91 ?_
          refine lv_iload_n hx hb dX3_readChange_94 rfl (lv_at hl 0 rfl) ?_
          refine va_iast hx hb hK hP hD hS 2 1 rfl rfl (vp_in_nI (by omega) (by decide)) dX3_readChange_95 (fun H locs hP hD hS => ?_)
          replace hP : va_P D classes [(u0, .inr (3, (fX3 u1 u2 rf (nI rc) (nI rr)))), (aI k u1 24 (upd rs rc r_1)), (aI k u2 24 (upd rb (Int32.toNatClampNeg (nI rc)) r_7)), (x0, .inr (6, (fX6 x1 (nI tz) (nI ta__7) (nI nq_8) 0 fb__7))), (aB k x1 240 fx)] H := hP
          replace hD : va_D A [(u0, .inr (3, (fX3 u1 u2 rf (nI rc) (nI rr)))), (aI k u1 24 (upd rs rc r_1)), (aI k u2 24 (upd rb (Int32.toNatClampNeg (nI rc)) r_7)), (x0, .inr (6, (fX6 x1 (nI tz) (nI ta__7) (nI nq_8) 0 fb__7))), (aB k x1 240 fx)] := hD
          rw [nI_clamp (n := rc) (by omega)] at hP hD
          replace hP : va_P D classes [(u0, .inr (3, (fX3 u1 u2 rf (nI rc) (nI rr)))), (aI k u1 24 (upd rs rc r_1)), (aI k u2 24 (upd rb rc r_7)), (x0, .inr (6, (fX6 x1 (nI tz) (nI ta__7) (nI nq_8) 0 fb__7))), (aB k x1 240 fx)] H := hP
          replace hD : va_D A [(u0, .inr (3, (fX3 u1 u2 rf (nI rc) (nI rr)))), (aI k u1 24 (upd rs rc r_1)), (aI k u2 24 (upd rb rc r_7)), (x0, .inr (6, (fX6 x1 (nI tz) (nI ta__7) (nI nq_8) 0 fb__7))), (aB k x1 240 fx)] := hD
          refine lv_aload_n hx hb dX3_readChange_96 rfl (lv_at hl 2 rfl) ?_
          refine lv_dup hx hb dX3_readChange_97 rfl ?_
          refine va_get (D := D) (ci := 3) (v := .int (nI rc)) (C := RX3) (T := TX3) (N := 5) hx hb hts inX3 hown hK hP 0 rfl rfl 3 (by decide) (hts _ tw_292) (fun _ h9 => h9) rfl dX3_readChange_98 ?_
          refine lv_iconst (v := 1) hx hb dX3_readChange_101 (by decide) ?_
          refine lv_iadd hx hb dX3_readChange_102 ?_
          refine lv_ti (y := (nI (rc + 1))) (nI_add rc 1) ?_
          refine va_put (D := D) (ci := 3) (v := .int (nI (rc + 1))) (ty := .int) (C := RX3) (T := TX3) (N := 5) hx hb hts inX3 tyX3 tyX3_ok nmX3 hown hK hP hD hS 0 rfl rfl 3 (by decide) (hts _ tw_292) (fun _ h9 => h9) rfl (by decide +kernel) rfl rfl (Nat.le_of_ble_eq_true rfl) dX3_readChange_103 (fun H locs hP hD hS => ?_)
          replace hP : va_P D classes [(u0, .inr (3, (fX3 u1 u2 rf (nI (rc + 1)) (nI rr)))), (aI k u1 24 (upd rs rc r_1)), (aI k u2 24 (upd rb rc r_7)), (x0, .inr (6, (fX6 x1 (nI tz) (nI ta__7) (nI nq_8) 0 fb__7))), (aB k x1 240 fx)] H := hP
          replace hD : va_D A [(u0, .inr (3, (fX3 u1 u2 rf (nI (rc + 1)) (nI rr)))), (aI k u1 24 (upd rs rc r_1)), (aI k u2 24 (upd rb rc r_7)), (x0, .inr (6, (fX6 x1 (nI tz) (nI ta__7) (nI nq_8) 0 fb__7))), (aB k x1 240 fx)] := hD
          have hz1_9 := nuR_ge hq_2
          have hz2_9 := wdR_ge (i := 12) hq_6
          have hz3_9 := nuR_ge hq_8
          replace hz2_9 : _ + 4 ≤ _ := hz2_9
          have hP9 := hP.sub (ws' := [(u0, .inr (3, (fX3 u1 u2 rf (nI (rc + 1)) (nI rr)))), (aI k u1 24 (upd rs rc r_1)), (aI k u2 24 (upd rb rc r_7)), (x0, .inr (6, (fX6 x1 (nI tz) (nI ta__7) (nI nq_8) 0 fb__7))), (aB k x1 240 fx)]) [0, 1, 2, 3, 4] rfl
          have hD9 := hD.sub (ws' := [(u0, .inr (3, (fX3 u1 u2 rf (nI (rc + 1)) (nI rr)))), (aI k u1 24 (upd rs rc r_1)), (aI k u2 24 (upd rb rc r_7)), (x0, .inr (6, (fX6 x1 (nI tz) (nI ta__7) (nI nq_8) 0 fb__7))), (aB k x1 240 fx)]) [0, 1, 2, 3, 4] (by decide) rfl
          exact W.vret hx hb hr (fun t ht hW => ⟨⟨((rc + 1), (upd rs rc r_1), (upd rb rc r_7), ta__7, (nI nq_8), 0, fb__7), rfl, ⟨.inl ⟨rfl, r_1, r_7, ch_0  hq_2 (.inl (by omega)) hq_6 hq_8, rfl, rfl, rfl, by omega⟩, by omega, by omega, by omega⟩, by rw [ht]; exact hP9, hD9⟩, hS.F ht⟩) hS.2.2 dX3_readChange_106
        · refine lv_istore_n (lv' := [(3, .int r_7), (2, .int r_1), (0, .ref u0), (1, .ref x0)]) hx hb dX3_readChange_59 rfl hl (by decide) rfl (fun ls hl => ?_)
          refine lv_aload_n hx hb dX3_readChange_60 rfl (lv_at hl 3 rfl) ?_
          refine ro_i (D := D) (va_runV (As := []) (rest := []) ⟨hx, hb, hml, hown, hts⟩ ((x_failed l D k st lo x0 x1 tz ta__7 (nI nq_8) 1 (nI pl_8)) H.size) (cwV 0 hts (gV tw_682 tw_368 tw_369 tw_80 tw_370) rfl rfl rfl (by decide +kernel) ⟨Nat.le_of_ble_eq_true rfl, Nat.le_of_ble_eq_true rfl⟩) (pV hS hAlo hlo hP hK (va_Dlo hD hAlo) hZ [3] (by decide) rfl (ci := 6) (q := (RX6, TX6, 6)) (q0 := 0) rfl rfl) rfl rfl hl.1 rfl (lv_room (Nat.le_of_ble_eq_true rfl)) dX3_readChange_61 ⟨Nat.le_of_ble_eq_true rfl, Nat.le_of_ble_eq_true rfl⟩) hS hA hP (fun r_13 H locs hw_13 hP hS => ?_)
          try dsimp only at hw_13
          obtain rfl : r_13 = 1 := by rcases hw_13 with ⟨h, h2⟩ | ⟨h, h2⟩ <;> first | exact h | exact absurd rfl h2 | exact absurd h2 (by decide)
          refine lv_if_ne (tgt := 106) hx hb dX3_readChange_64 (by decide) (fun _ => ?_) (fun h => absurd h (by decide))
          have hP9 := hP.sub (ws' := [(u0, .inr (3, (fX3 u1 u2 rf (nI rc) (nI rr)))), (aI k u1 24 rs), (aI k u2 24 rb), (x0, .inr (6, (fX6 x1 (nI tz) (nI ta__7) (nI nq_8) 1 (nI pl_8)))), (aB k x1 240 fx)]) [0, 1, 2, 3, 4] rfl
          have hD9 := hD.sub (ws' := [(u0, .inr (3, (fX3 u1 u2 rf (nI rc) (nI rr)))), (aI k u1 24 rs), (aI k u2 24 rb), (x0, .inr (6, (fX6 x1 (nI tz) (nI ta__7) (nI nq_8) 1 (nI pl_8)))), (aB k x1 240 fx)]) [0, 1, 2, 3, 4] (by decide) rfl
          exact W.vret hx hb hr (fun t ht hW => ⟨⟨(rc, rs, rb, ta__7, (nI nq_8), 1, (nI pl_8)), rfl, ⟨.inr ⟨1, pl_8, rfl, by decide, by decide, (ch_4  hq_2 (.inl (by omega)) hq_6 hq_8 (by decide)).1, (ch_4  hq_2 (.inl (by omega)) hq_6 hq_8 (by decide)).2, rfl⟩, by omega, by omega, by omega⟩, by rw [ht]; exact hP9, hD9⟩, hS.F ht⟩) hS.2.2 dX3_readChange_106
        · refine lv_istore_n (lv' := [(3, .int r_7), (2, .int r_1), (0, .ref u0), (1, .ref x0)]) hx hb dX3_readChange_59 rfl hl (by decide) rfl (fun ls hl => ?_)
          refine lv_aload_n hx hb dX3_readChange_60 rfl (lv_at hl 3 rfl) ?_
          refine ro_i (D := D) (va_runV (As := []) (rest := []) ⟨hx, hb, hml, hown, hts⟩ ((x_failed l D k st lo x0 x1 tz ta__7 (nI nq_8) 2 (nI pl_8)) H.size) (cwV 0 hts (gV tw_682 tw_368 tw_369 tw_80 tw_370) rfl rfl rfl (by decide +kernel) ⟨Nat.le_of_ble_eq_true rfl, Nat.le_of_ble_eq_true rfl⟩) (pV hS hAlo hlo hP hK (va_Dlo hD hAlo) hZ [3] (by decide) rfl (ci := 6) (q := (RX6, TX6, 6)) (q0 := 0) rfl rfl) rfl rfl hl.1 rfl (lv_room (Nat.le_of_ble_eq_true rfl)) dX3_readChange_61 ⟨Nat.le_of_ble_eq_true rfl, Nat.le_of_ble_eq_true rfl⟩) hS hA hP (fun r_14 H locs hw_14 hP hS => ?_)
          try dsimp only at hw_14
          obtain rfl : r_14 = 1 := by rcases hw_14 with ⟨h, h2⟩ | ⟨h, h2⟩ <;> first | exact h | exact absurd rfl h2 | exact absurd h2 (by decide)
          refine lv_if_ne (tgt := 106) hx hb dX3_readChange_64 (by decide) (fun _ => ?_) (fun h => absurd h (by decide))
          have hP9 := hP.sub (ws' := [(u0, .inr (3, (fX3 u1 u2 rf (nI rc) (nI rr)))), (aI k u1 24 rs), (aI k u2 24 rb), (x0, .inr (6, (fX6 x1 (nI tz) (nI ta__7) (nI nq_8) 2 (nI pl_8)))), (aB k x1 240 fx)]) [0, 1, 2, 3, 4] rfl
          have hD9 := hD.sub (ws' := [(u0, .inr (3, (fX3 u1 u2 rf (nI rc) (nI rr)))), (aI k u1 24 rs), (aI k u2 24 rb), (x0, .inr (6, (fX6 x1 (nI tz) (nI ta__7) (nI nq_8) 2 (nI pl_8)))), (aB k x1 240 fx)]) [0, 1, 2, 3, 4] (by decide) rfl
          exact W.vret hx hb hr (fun t ht hW => ⟨⟨(rc, rs, rb, ta__7, (nI nq_8), 2, (nI pl_8)), rfl, ⟨.inr ⟨2, pl_8, rfl, by decide, by decide, (ch_4  hq_2 (.inl (by omega)) hq_6 hq_8 (by decide)).1, (ch_4  hq_2 (.inl (by omega)) hq_6 hq_8 (by decide)).2, rfl⟩, by omega, by omega, by omega⟩, by rw [ht]; exact hP9, hD9⟩, hS.F ht⟩) hS.2.2 dX3_readChange_106
      · refine lv_aload_n hx hb dX3_readChange_52 rfl (lv_at hl 2 rfl) ?_
        refine lv_iconst (v := 0) hx hb dX3_readChange_53 (by decide) ?_
        refine lv_bipush (v := 24) hx hb dX3_readChange_54 (by decide) ?_
        refine rw_i (D := D) (wr := [(u0, .inr (3, (fX3 u1 u2 rf (nI rc) (nI rr)))), (aI k u1 24 rs), (aI k u2 24 rb)]) (va_runV (As := [.int 0, .int 24]) (rest := []) ⟨hx, hb, hml, hown, hts⟩ ((y_needNumber l D k st lo x0 x1 tz ta__5 (nI nq_2) 1 (nI pl_6) fx 0 24 (by first | assumption | omega) (by first | assumption | omega) (by decide)) H.size) (cwV 2 hts (gV tw_681 tw_468 tw_469 tw_80 tw_470) rfl rfl rfl (by decide +kernel) ⟨Nat.le_of_ble_eq_true rfl, Nat.le_of_ble_eq_true rfl⟩) (pV hS hAlo hlo hP hK (va_Dlo hD hAlo) hZ [3, 4] (by decide) rfl (ci := 6) (q := (RX6, TX6, 6)) (q0 := 0) rfl rfl) rfl rfl hl.1 rfl (lv_room (Nat.le_of_ble_eq_true rfl)) dX3_readChange_56 ⟨Nat.le_of_ble_eq_true rfl, Nat.le_of_ble_eq_true rfl⟩) hS hA hP hD [3, 4] [0, 1, 2] rfl rfl (by decide) (by decide) (fun r_15 u H locs hw_15 hP hD hS => ?_)
        obtain ⟨ta__15, na__15, fn__15, fb__15⟩ := u
        replace hP : va_P D classes [(u0, .inr (3, (fX3 u1 u2 rf (nI rc) (nI rr)))), (aI k u1 24 rs), (aI k u2 24 rb), (x0, .inr (6, (fX6 x1 (nI tz) (nI ta__15) na__15 fn__15 fb__15))), (aB k x1 240 fx)] H := hP
        replace hD : va_D A [(u0, .inr (3, (fX3 u1 u2 rf (nI rc) (nI rr)))), (aI k u1 24 rs), (aI k u2 24 rb), (x0, .inr (6, (fX6 x1 (nI tz) (nI ta__15) na__15 fn__15 fb__15))), (aB k x1 240 fx)] := hD
        try dsimp only at hw_15
        have hr_16 := (hw_15.1 (by decide)).1
        obtain ⟨hs0_17, hs1_17, hs2_17, hs3_17⟩ := (hw_15.1 (by decide)).2
        replace hs0_17 := hs0_17.symm
        subst hs0_17
        replace hs1_17 := hs1_17.symm
        subst hs1_17
        replace hs2_17 := hs2_17.symm
        subst hs2_17
        replace hs3_17 := hs3_17.symm
        subst hs3_17
        refine lv_istore_n (lv' := [(3, .int r_15), (2, .int r_1), (0, .ref u0), (1, .ref x0)]) hx hb dX3_readChange_59 rfl hl (by decide) rfl (fun ls hl => ?_)
        refine lv_aload_n hx hb dX3_readChange_60 rfl (lv_at hl 3 rfl) ?_
        refine ro_i (D := D) (va_runV (As := []) (rest := []) ⟨hx, hb, hml, hown, hts⟩ ((x_failed l D k st lo x0 x1 tz ta__5 (nI nq_2) 1 (nI pl_6)) H.size) (cwV 0 hts (gV tw_682 tw_368 tw_369 tw_80 tw_370) rfl rfl rfl (by decide +kernel) ⟨Nat.le_of_ble_eq_true rfl, Nat.le_of_ble_eq_true rfl⟩) (pV hS hAlo hlo hP hK (va_Dlo hD hAlo) hZ [3] (by decide) rfl (ci := 6) (q := (RX6, TX6, 6)) (q0 := 0) rfl rfl) rfl rfl hl.1 rfl (lv_room (Nat.le_of_ble_eq_true rfl)) dX3_readChange_61 ⟨Nat.le_of_ble_eq_true rfl, Nat.le_of_ble_eq_true rfl⟩) hS hA hP (fun r_18 H locs hw_18 hP hS => ?_)
        try dsimp only at hw_18
        obtain rfl : r_18 = 1 := by rcases hw_18 with ⟨h, h2⟩ | ⟨h, h2⟩ <;> first | exact h | exact absurd rfl h2 | exact absurd h2 (by decide)
        refine lv_if_ne (tgt := 106) hx hb dX3_readChange_64 (by decide) (fun _ => ?_) (fun h => absurd h (by decide))
        have hP9 := hP.sub (ws' := [(u0, .inr (3, (fX3 u1 u2 rf (nI rc) (nI rr)))), (aI k u1 24 rs), (aI k u2 24 rb), (x0, .inr (6, (fX6 x1 (nI tz) (nI ta__5) (nI nq_2) 1 (nI pl_6)))), (aB k x1 240 fx)]) [0, 1, 2, 3, 4] rfl
        have hD9 := hD.sub (ws' := [(u0, .inr (3, (fX3 u1 u2 rf (nI rc) (nI rr)))), (aI k u1 24 rs), (aI k u2 24 rb), (x0, .inr (6, (fX6 x1 (nI tz) (nI ta__5) (nI nq_2) 1 (nI pl_6)))), (aB k x1 240 fx)]) [0, 1, 2, 3, 4] (by decide) rfl
        exact W.vret hx hb hr (fun t ht hW => ⟨⟨(rc, rs, rb, ta__5, (nI nq_2), 1, (nI pl_6)), rfl, ⟨.inr ⟨1, pl_6, rfl, by decide, by decide, (ch_2  hq_2 (.inl (by omega)) hq_6 (by decide)).1, (ch_2  hq_2 (.inl (by omega)) hq_6 (by decide)).2, rfl⟩, by omega, by omega, by omega⟩, by rw [ht]; exact hP9, hD9⟩, hS.F ht⟩) hS.2.2 dX3_readChange_106
    · have c_4 : ¬ (rc ≤ 0) := fun h => c_4 ((nI_leI (a := rc) (b := 0) (by omega) (by omega)).mpr h)
      refine lv_iload_n hx hb dX3_readChange_22 rfl (lv_at hl 0 rfl) ?_
      refine lv_aload_n hx hb dX3_readChange_23 rfl (lv_at hl 1 rfl) ?_
      refine va_get (D := D) (ci := 3) (v := .ref u1) (C := RX3) (T := TX3) (N := 5) hx hb hts inX3 hown hK hP 0 rfl rfl 0 (by decide) (hts _ tw_289) (fun _ h9 => h9) rfl dX3_readChange_24 ?_
      refine lv_aload_n hx hb dX3_readChange_27 rfl (lv_at hl 1 rfl) ?_
      refine va_get (D := D) (ci := 3) (v := .int (nI rc)) (C := RX3) (T := TX3) (N := 5) hx hb hts inX3 hown hK hP 0 rfl rfl 3 (by decide) (hts _ tw_292) (fun _ h9 => h9) rfl dX3_readChange_28 ?_
      refine lv_iconst (v := 1) hx hb dX3_readChange_31 (by decide) ?_
      refine lv_isub hx hb dX3_readChange_32 ?_
      refine lv_ti (y := (nI (rc - 1))) (pk_sub (a := rc) (b := 1) (by omega)) ?_
      refine va_iald hx hb hK hP 1 1 rfl rfl (vp_in_nI (by omega) (by decide)) dX3_readChange_33 ?_
      refine lv_ti (y := (rs (rc - 1))) (by rw [nI_clamp (by omega)]) ?_
      refine lv_icmp_gt (tgt := 46) hx hb dX3_readChange_34 (by decide) (fun c_19 => ?_) (fun c_19 => ?_)
      · refine lv_aload_n hx hb dX3_readChange_46 rfl (lv_at hl 2 rfl) ?_
        refine va_ldcS hx hb hown (hZ.2.2.2.2.2.2.2.2.2.2 (RX3, 28, "from", 12) (List.mem_of_getElem? (i := 12) rfl)) dX3_readChange_47 ?_
        refine rw_v (D := D) (wr := [(u0, .inr (3, (fX3 u1 u2 rf (nI rc) (nI rr)))), (aI k u1 24 rs), (aI k u2 24 rb)]) (va_runV (As := [.ref (st (100 + 12))]) (rest := []) ⟨hx, hb, hml, hown, hts⟩ ((y_needWord l D k st lo x0 x1 tz ta__1 (nI nq_2) 0 fb__1 fx 12 (by first | assumption | omega) (by first | assumption | omega) (by first | assumption | omega)) H.size) (cwV 1 hts (gV tw_680 tw_483 tw_484 tw_80 tw_485) rfl rfl rfl (by decide +kernel) ⟨Nat.le_of_ble_eq_true rfl, Nat.le_of_ble_eq_true rfl⟩) (pV hS hAlo hlo hP hK (va_Dlo hD hAlo) hZ [3, 4] (by decide) rfl (ci := 6) (q := (RX6, TX6, 6)) (q0 := 0) rfl rfl) rfl rfl hl.1 rfl (lv_room (Nat.le_of_ble_eq_true rfl)) dX3_readChange_49 ⟨Nat.le_of_ble_eq_true rfl, Nat.le_of_ble_eq_true rfl⟩) hS hA hP hD [3, 4] [0, 1, 2] rfl rfl (by decide) (by decide) (fun u H locs hw_20 hP hD hS => ?_)
        obtain ⟨ta__20, fn__20, fb__20⟩ := u
        replace hP : va_P D classes [(u0, .inr (3, (fX3 u1 u2 rf (nI rc) (nI rr)))), (aI k u1 24 rs), (aI k u2 24 rb), (x0, .inr (6, (fX6 x1 (nI tz) (nI ta__20) (nI nq_2) fn__20 fb__20))), (aB k x1 240 fx)] H := hP
        replace hD : va_D A [(u0, .inr (3, (fX3 u1 u2 rf (nI rc) (nI rr)))), (aI k u1 24 rs), (aI k u2 24 rb), (x0, .inr (6, (fX6 x1 (nI tz) (nI ta__20) (nI nq_2) fn__20 fb__20))), (aB k x1 240 fx)] := hD
        try dsimp only at hw_20
        rcases hw_20.2.1 rfl with ⟨rfl, hq_21⟩ | ⟨rfl, pl_21, hq_21, rfl⟩
        · refine lv_aload_n hx hb dX3_readChange_52 rfl (lv_at hl 2 rfl) ?_
          refine lv_iconst (v := 0) hx hb dX3_readChange_53 (by decide) ?_
          refine lv_bipush (v := 24) hx hb dX3_readChange_54 (by decide) ?_
          refine rw_i (D := D) (wr := [(u0, .inr (3, (fX3 u1 u2 rf (nI rc) (nI rr)))), (aI k u1 24 rs), (aI k u2 24 rb)]) (va_runV (As := [.int 0, .int 24]) (rest := []) ⟨hx, hb, hml, hown, hts⟩ ((y_needNumber l D k st lo x0 x1 tz ta__20 (nI nq_2) 0 fb__20 fx 0 24 (by first | assumption | omega) (by first | assumption | omega) (by decide)) H.size) (cwV 2 hts (gV tw_681 tw_468 tw_469 tw_80 tw_470) rfl rfl rfl (by decide +kernel) ⟨Nat.le_of_ble_eq_true rfl, Nat.le_of_ble_eq_true rfl⟩) (pV hS hAlo hlo hP hK (va_Dlo hD hAlo) hZ [3, 4] (by decide) rfl (ci := 6) (q := (RX6, TX6, 6)) (q0 := 0) rfl rfl) rfl rfl hl.1 rfl (lv_room (Nat.le_of_ble_eq_true rfl)) dX3_readChange_56 ⟨Nat.le_of_ble_eq_true rfl, Nat.le_of_ble_eq_true rfl⟩) hS hA hP hD [3, 4] [0, 1, 2] rfl rfl (by decide) (by decide) (fun r_22 u H locs hw_22 hP hD hS => ?_)
          obtain ⟨ta__22, na__22, fn__22, fb__22⟩ := u
          replace hP : va_P D classes [(u0, .inr (3, (fX3 u1 u2 rf (nI rc) (nI rr)))), (aI k u1 24 rs), (aI k u2 24 rb), (x0, .inr (6, (fX6 x1 (nI tz) (nI ta__22) na__22 fn__22 fb__22))), (aB k x1 240 fx)] H := hP
          replace hD : va_D A [(u0, .inr (3, (fX3 u1 u2 rf (nI rc) (nI rr)))), (aI k u1 24 rs), (aI k u2 24 rb), (x0, .inr (6, (fX6 x1 (nI tz) (nI ta__22) na__22 fn__22 fb__22))), (aB k x1 240 fx)] := hD
          try dsimp only at hw_22
          obtain ⟨pl_23, nq_23, rfl, hq_23⟩ := hw_22.2.1 rfl
          rw [show decide ((0 : Int32) < 0) = false from by decide] at hq_23
          rcases hq_23 with ⟨rfl, hq_23⟩ | ⟨rfl, hr_23, rfl, hq_23⟩ | ⟨rfl, hr_23, rfl, hq_23⟩
          · refine lv_istore_n (lv' := [(3, .int r_22), (2, .int r_1), (0, .ref u0), (1, .ref x0)]) hx hb dX3_readChange_59 rfl hl (by decide) rfl (fun ls hl => ?_)
            refine lv_aload_n hx hb dX3_readChange_60 rfl (lv_at hl 3 rfl) ?_
            refine ro_i (D := D) (va_runV (As := []) (rest := []) ⟨hx, hb, hml, hown, hts⟩ ((x_failed l D k st lo x0 x1 tz ta__22 (nI nq_23) 0 fb__22) H.size) (cwV 0 hts (gV tw_682 tw_368 tw_369 tw_80 tw_370) rfl rfl rfl (by decide +kernel) ⟨Nat.le_of_ble_eq_true rfl, Nat.le_of_ble_eq_true rfl⟩) (pV hS hAlo hlo hP hK (va_Dlo hD hAlo) hZ [3] (by decide) rfl (ci := 6) (q := (RX6, TX6, 6)) (q0 := 0) rfl rfl) rfl rfl hl.1 rfl (lv_room (Nat.le_of_ble_eq_true rfl)) dX3_readChange_61 ⟨Nat.le_of_ble_eq_true rfl, Nat.le_of_ble_eq_true rfl⟩) hS hA hP (fun r_24 H locs hw_24 hP hS => ?_)
            try dsimp only at hw_24
            obtain rfl : r_24 = 0 := by rcases hw_24 with ⟨h, h2⟩ | ⟨h, h2⟩ <;> first | exact h | exact absurd rfl h2 | exact absurd h2 (by decide)
            refine lv_if_ne (tgt := 106) hx hb dX3_readChange_64 (by decide) (fun h => absurd (by decide) h) (fun _ => ?_)
            refine lv_aload_n hx hb dX3_readChange_67 rfl (lv_at hl 2 rfl) ?_
            refine va_get (D := D) (ci := 3) (v := .int (nI rc)) (C := RX3) (T := TX3) (N := 5) hx hb hts inX3 hown hK hP 0 rfl rfl 3 (by decide) (hts _ tw_292) (fun _ h9 => h9) rfl dX3_readChange_68 ?_
            refine lv_bipush (v := 24) hx hb dX3_readChange_71 (by decide) ?_
            refine lv_icmp_ge (tgt := 106) hx hb dX3_readChange_73 (by decide) (fun h => absurd ((nI_leI (a := 24) (b := rc) (by omega) (by omega)).mp h) (by omega)) (fun _ => ?_)
            refine lv_aload_n hx hb dX3_readChange_76 rfl (lv_at hl 2 rfl) ?_
            refine va_get (D := D) (ci := 3) (v := .ref u1) (C := RX3) (T := TX3) (N := 5) hx hb hts inX3 hown hK hP 0 rfl rfl 0 (by decide) (hts _ tw_289) (fun _ h9 => h9) rfl dX3_readChange_77 ?_
            refine lv_aload_n hx hb dX3_readChange_80 rfl (lv_at hl 2 rfl) ?_
            refine va_get (D := D) (ci := 3) (v := .int (nI rc)) (C := RX3) (T := TX3) (N := 5) hx hb hts inX3 hown hK hP 0 rfl rfl 3 (by decide) (hts _ tw_292) (fun _ h9 => h9) rfl dX3_readChange_81 ?_
            refine lv_iload_n hx hb dX3_readChange_84 rfl (lv_at hl 1 rfl) ?_
            refine va_iast hx hb hK hP hD hS 1 1 rfl rfl (vp_in_nI (by omega) (by decide)) dX3_readChange_85 (fun H locs hP hD hS => ?_)
            replace hP : va_P D classes [(u0, .inr (3, (fX3 u1 u2 rf (nI rc) (nI rr)))), (aI k u1 24 (upd rs (Int32.toNatClampNeg (nI rc)) r_1)), (aI k u2 24 rb), (x0, .inr (6, (fX6 x1 (nI tz) (nI ta__22) (nI nq_23) 0 fb__22))), (aB k x1 240 fx)] H := hP
            replace hD : va_D A [(u0, .inr (3, (fX3 u1 u2 rf (nI rc) (nI rr)))), (aI k u1 24 (upd rs (Int32.toNatClampNeg (nI rc)) r_1)), (aI k u2 24 rb), (x0, .inr (6, (fX6 x1 (nI tz) (nI ta__22) (nI nq_23) 0 fb__22))), (aB k x1 240 fx)] := hD
            rw [nI_clamp (n := rc) (by omega)] at hP hD
            replace hP : va_P D classes [(u0, .inr (3, (fX3 u1 u2 rf (nI rc) (nI rr)))), (aI k u1 24 (upd rs rc r_1)), (aI k u2 24 rb), (x0, .inr (6, (fX6 x1 (nI tz) (nI ta__22) (nI nq_23) 0 fb__22))), (aB k x1 240 fx)] H := hP
            replace hD : va_D A [(u0, .inr (3, (fX3 u1 u2 rf (nI rc) (nI rr)))), (aI k u1 24 (upd rs rc r_1)), (aI k u2 24 rb), (x0, .inr (6, (fX6 x1 (nI tz) (nI ta__22) (nI nq_23) 0 fb__22))), (aB k x1 240 fx)] := hD
            refine lv_aload_n hx hb dX3_readChange_86 rfl (lv_at hl 2 rfl) ?_
            refine va_get (D := D) (ci := 3) (v := .ref u2) (C := RX3) (T := TX3) (N := 5) hx hb hts inX3 hown hK hP 0 rfl rfl 1 (by decide) (hts _ tw_290) (fun _ h9 => h9) rfl dX3_readChange_87 ?_
            refine lv_aload_n hx hb dX3_readChange_90 rfl (lv_at hl 2 rfl) ?_
            refine va_get (D := D) (ci := 3) (v := .int (nI rc)) (C := RX3) (T := TX3) (N := 5) hx hb hts inX3 hown hK hP 0 rfl rfl 3 (by decide) (hts _ tw_292) (fun _ h9 => h9) rfl dX3_readChange_91 ?_
            refine lv_iload_n hx hb dX3_readChange_94 rfl (lv_at hl 0 rfl) ?_
            refine va_iast hx hb hK hP hD hS 2 1 rfl rfl (vp_in_nI (by omega) (by decide)) dX3_readChange_95 (fun H locs hP hD hS => ?_)
            replace hP : va_P D classes [(u0, .inr (3, (fX3 u1 u2 rf (nI rc) (nI rr)))), (aI k u1 24 (upd rs rc r_1)), (aI k u2 24 (upd rb (Int32.toNatClampNeg (nI rc)) r_22)), (x0, .inr (6, (fX6 x1 (nI tz) (nI ta__22) (nI nq_23) 0 fb__22))), (aB k x1 240 fx)] H := hP
            replace hD : va_D A [(u0, .inr (3, (fX3 u1 u2 rf (nI rc) (nI rr)))), (aI k u1 24 (upd rs rc r_1)), (aI k u2 24 (upd rb (Int32.toNatClampNeg (nI rc)) r_22)), (x0, .inr (6, (fX6 x1 (nI tz) (nI ta__22) (nI nq_23) 0 fb__22))), (aB k x1 240 fx)] := hD
            rw [nI_clamp (n := rc) (by omega)] at hP hD
            replace hP : va_P D classes [(u0, .inr (3, (fX3 u1 u2 rf (nI rc) (nI rr)))), (aI k u1 24 (upd rs rc r_1)), (aI k u2 24 (upd rb rc r_22)), (x0, .inr (6, (fX6 x1 (nI tz) (nI ta__22) (nI nq_23) 0 fb__22))), (aB k x1 240 fx)] H := hP
            replace hD : va_D A [(u0, .inr (3, (fX3 u1 u2 rf (nI rc) (nI rr)))), (aI k u1 24 (upd rs rc r_1)), (aI k u2 24 (upd rb rc r_22)), (x0, .inr (6, (fX6 x1 (nI tz) (nI ta__22) (nI nq_23) 0 fb__22))), (aB k x1 240 fx)] := hD
            refine lv_aload_n hx hb dX3_readChange_96 rfl (lv_at hl 2 rfl) ?_
            refine lv_dup hx hb dX3_readChange_97 rfl ?_
            refine va_get (D := D) (ci := 3) (v := .int (nI rc)) (C := RX3) (T := TX3) (N := 5) hx hb hts inX3 hown hK hP 0 rfl rfl 3 (by decide) (hts _ tw_292) (fun _ h9 => h9) rfl dX3_readChange_98 ?_
            refine lv_iconst (v := 1) hx hb dX3_readChange_101 (by decide) ?_
            refine lv_iadd hx hb dX3_readChange_102 ?_
            refine lv_ti (y := (nI (rc + 1))) (nI_add rc 1) ?_
            refine va_put (D := D) (ci := 3) (v := .int (nI (rc + 1))) (ty := .int) (C := RX3) (T := TX3) (N := 5) hx hb hts inX3 tyX3 tyX3_ok nmX3 hown hK hP hD hS 0 rfl rfl 3 (by decide) (hts _ tw_292) (fun _ h9 => h9) rfl (by decide +kernel) rfl rfl (Nat.le_of_ble_eq_true rfl) dX3_readChange_103 (fun H locs hP hD hS => ?_)
            replace hP : va_P D classes [(u0, .inr (3, (fX3 u1 u2 rf (nI (rc + 1)) (nI rr)))), (aI k u1 24 (upd rs rc r_1)), (aI k u2 24 (upd rb rc r_22)), (x0, .inr (6, (fX6 x1 (nI tz) (nI ta__22) (nI nq_23) 0 fb__22))), (aB k x1 240 fx)] H := hP
            replace hD : va_D A [(u0, .inr (3, (fX3 u1 u2 rf (nI (rc + 1)) (nI rr)))), (aI k u1 24 (upd rs rc r_1)), (aI k u2 24 (upd rb rc r_22)), (x0, .inr (6, (fX6 x1 (nI tz) (nI ta__22) (nI nq_23) 0 fb__22))), (aB k x1 240 fx)] := hD
            have hz1_9 := nuR_ge hq_2
            have hz2_9 := wdR_ge (i := 12) hq_21
            have hz3_9 := nuR_ge hq_23
            replace hz2_9 : _ + 4 ≤ _ := hz2_9
            have hP9 := hP.sub (ws' := [(u0, .inr (3, (fX3 u1 u2 rf (nI (rc + 1)) (nI rr)))), (aI k u1 24 (upd rs rc r_1)), (aI k u2 24 (upd rb rc r_22)), (x0, .inr (6, (fX6 x1 (nI tz) (nI ta__22) (nI nq_23) 0 fb__22))), (aB k x1 240 fx)]) [0, 1, 2, 3, 4] rfl
            have hD9 := hD.sub (ws' := [(u0, .inr (3, (fX3 u1 u2 rf (nI (rc + 1)) (nI rr)))), (aI k u1 24 (upd rs rc r_1)), (aI k u2 24 (upd rb rc r_22)), (x0, .inr (6, (fX6 x1 (nI tz) (nI ta__22) (nI nq_23) 0 fb__22))), (aB k x1 240 fx)]) [0, 1, 2, 3, 4] (by decide) rfl
            exact W.vret hx hb hr (fun t ht hW => ⟨⟨((rc + 1), (upd rs rc r_1), (upd rb rc r_22), ta__22, (nI nq_23), 0, fb__22), rfl, ⟨.inl ⟨rfl, r_1, r_22, ch_0  hq_2 (.inr c_19) hq_21 hq_23, rfl, rfl, rfl, by omega⟩, by omega, by omega, by omega⟩, by rw [ht]; exact hP9, hD9⟩, hS.F ht⟩) hS.2.2 dX3_readChange_106
          · refine lv_istore_n (lv' := [(3, .int r_22), (2, .int r_1), (0, .ref u0), (1, .ref x0)]) hx hb dX3_readChange_59 rfl hl (by decide) rfl (fun ls hl => ?_)
            refine lv_aload_n hx hb dX3_readChange_60 rfl (lv_at hl 3 rfl) ?_
            refine ro_i (D := D) (va_runV (As := []) (rest := []) ⟨hx, hb, hml, hown, hts⟩ ((x_failed l D k st lo x0 x1 tz ta__22 (nI nq_23) 1 (nI pl_23)) H.size) (cwV 0 hts (gV tw_682 tw_368 tw_369 tw_80 tw_370) rfl rfl rfl (by decide +kernel) ⟨Nat.le_of_ble_eq_true rfl, Nat.le_of_ble_eq_true rfl⟩) (pV hS hAlo hlo hP hK (va_Dlo hD hAlo) hZ [3] (by decide) rfl (ci := 6) (q := (RX6, TX6, 6)) (q0 := 0) rfl rfl) rfl rfl hl.1 rfl (lv_room (Nat.le_of_ble_eq_true rfl)) dX3_readChange_61 ⟨Nat.le_of_ble_eq_true rfl, Nat.le_of_ble_eq_true rfl⟩) hS hA hP (fun r_28 H locs hw_28 hP hS => ?_)
            try dsimp only at hw_28
            obtain rfl : r_28 = 1 := by rcases hw_28 with ⟨h, h2⟩ | ⟨h, h2⟩ <;> first | exact h | exact absurd rfl h2 | exact absurd h2 (by decide)
            refine lv_if_ne (tgt := 106) hx hb dX3_readChange_64 (by decide) (fun _ => ?_) (fun h => absurd h (by decide))
            have hP9 := hP.sub (ws' := [(u0, .inr (3, (fX3 u1 u2 rf (nI rc) (nI rr)))), (aI k u1 24 rs), (aI k u2 24 rb), (x0, .inr (6, (fX6 x1 (nI tz) (nI ta__22) (nI nq_23) 1 (nI pl_23)))), (aB k x1 240 fx)]) [0, 1, 2, 3, 4] rfl
            have hD9 := hD.sub (ws' := [(u0, .inr (3, (fX3 u1 u2 rf (nI rc) (nI rr)))), (aI k u1 24 rs), (aI k u2 24 rb), (x0, .inr (6, (fX6 x1 (nI tz) (nI ta__22) (nI nq_23) 1 (nI pl_23)))), (aB k x1 240 fx)]) [0, 1, 2, 3, 4] (by decide) rfl
            exact W.vret hx hb hr (fun t ht hW => ⟨⟨(rc, rs, rb, ta__22, (nI nq_23), 1, (nI pl_23)), rfl, ⟨.inr ⟨1, pl_23, rfl, by decide, by decide, (ch_4  hq_2 (.inr c_19) hq_21 hq_23 (by decide)).1, (ch_4  hq_2 (.inr c_19) hq_21 hq_23 (by decide)).2, rfl⟩, by omega, by omega, by omega⟩, by rw [ht]; exact hP9, hD9⟩, hS.F ht⟩) hS.2.2 dX3_readChange_106
          · refine lv_istore_n (lv' := [(3, .int r_22), (2, .int r_1), (0, .ref u0), (1, .ref x0)]) hx hb dX3_readChange_59 rfl hl (by decide) rfl (fun ls hl => ?_)
            refine lv_aload_n hx hb dX3_readChange_60 rfl (lv_at hl 3 rfl) ?_
            refine ro_i (D := D) (va_runV (As := []) (rest := []) ⟨hx, hb, hml, hown, hts⟩ ((x_failed l D k st lo x0 x1 tz ta__22 (nI nq_23) 2 (nI pl_23)) H.size) (cwV 0 hts (gV tw_682 tw_368 tw_369 tw_80 tw_370) rfl rfl rfl (by decide +kernel) ⟨Nat.le_of_ble_eq_true rfl, Nat.le_of_ble_eq_true rfl⟩) (pV hS hAlo hlo hP hK (va_Dlo hD hAlo) hZ [3] (by decide) rfl (ci := 6) (q := (RX6, TX6, 6)) (q0 := 0) rfl rfl) rfl rfl hl.1 rfl (lv_room (Nat.le_of_ble_eq_true rfl)) dX3_readChange_61 ⟨Nat.le_of_ble_eq_true rfl, Nat.le_of_ble_eq_true rfl⟩) hS hA hP (fun r_29 H locs hw_29 hP hS => ?_)
            try dsimp only at hw_29
            obtain rfl : r_29 = 1 := by rcases hw_29 with ⟨h, h2⟩ | ⟨h, h2⟩ <;> first | exact h | exact absurd rfl h2 | exact absurd h2 (by decide)
            refine lv_if_ne (tgt := 106) hx hb dX3_readChange_64 (by decide) (fun _ => ?_) (fun h => absurd h (by decide))
            have hP9 := hP.sub (ws' := [(u0, .inr (3, (fX3 u1 u2 rf (nI rc) (nI rr)))), (aI k u1 24 rs), (aI k u2 24 rb), (x0, .inr (6, (fX6 x1 (nI tz) (nI ta__22) (nI nq_23) 2 (nI pl_23)))), (aB k x1 240 fx)]) [0, 1, 2, 3, 4] rfl
            have hD9 := hD.sub (ws' := [(u0, .inr (3, (fX3 u1 u2 rf (nI rc) (nI rr)))), (aI k u1 24 rs), (aI k u2 24 rb), (x0, .inr (6, (fX6 x1 (nI tz) (nI ta__22) (nI nq_23) 2 (nI pl_23)))), (aB k x1 240 fx)]) [0, 1, 2, 3, 4] (by decide) rfl
            exact W.vret hx hb hr (fun t ht hW => ⟨⟨(rc, rs, rb, ta__22, (nI nq_23), 2, (nI pl_23)), rfl, ⟨.inr ⟨2, pl_23, rfl, by decide, by decide, (ch_4  hq_2 (.inr c_19) hq_21 hq_23 (by decide)).1, (ch_4  hq_2 (.inr c_19) hq_21 hq_23 (by decide)).2, rfl⟩, by omega, by omega, by omega⟩, by rw [ht]; exact hP9, hD9⟩, hS.F ht⟩) hS.2.2 dX3_readChange_106
        · refine lv_aload_n hx hb dX3_readChange_52 rfl (lv_at hl 2 rfl) ?_
          refine lv_iconst (v := 0) hx hb dX3_readChange_53 (by decide) ?_
          refine lv_bipush (v := 24) hx hb dX3_readChange_54 (by decide) ?_
          refine rw_i (D := D) (wr := [(u0, .inr (3, (fX3 u1 u2 rf (nI rc) (nI rr)))), (aI k u1 24 rs), (aI k u2 24 rb)]) (va_runV (As := [.int 0, .int 24]) (rest := []) ⟨hx, hb, hml, hown, hts⟩ ((y_needNumber l D k st lo x0 x1 tz ta__20 (nI nq_2) 1 (nI pl_21) fx 0 24 (by first | assumption | omega) (by first | assumption | omega) (by decide)) H.size) (cwV 2 hts (gV tw_681 tw_468 tw_469 tw_80 tw_470) rfl rfl rfl (by decide +kernel) ⟨Nat.le_of_ble_eq_true rfl, Nat.le_of_ble_eq_true rfl⟩) (pV hS hAlo hlo hP hK (va_Dlo hD hAlo) hZ [3, 4] (by decide) rfl (ci := 6) (q := (RX6, TX6, 6)) (q0 := 0) rfl rfl) rfl rfl hl.1 rfl (lv_room (Nat.le_of_ble_eq_true rfl)) dX3_readChange_56 ⟨Nat.le_of_ble_eq_true rfl, Nat.le_of_ble_eq_true rfl⟩) hS hA hP hD [3, 4] [0, 1, 2] rfl rfl (by decide) (by decide) (fun r_30 u H locs hw_30 hP hD hS => ?_)
          obtain ⟨ta__30, na__30, fn__30, fb__30⟩ := u
          replace hP : va_P D classes [(u0, .inr (3, (fX3 u1 u2 rf (nI rc) (nI rr)))), (aI k u1 24 rs), (aI k u2 24 rb), (x0, .inr (6, (fX6 x1 (nI tz) (nI ta__30) na__30 fn__30 fb__30))), (aB k x1 240 fx)] H := hP
          replace hD : va_D A [(u0, .inr (3, (fX3 u1 u2 rf (nI rc) (nI rr)))), (aI k u1 24 rs), (aI k u2 24 rb), (x0, .inr (6, (fX6 x1 (nI tz) (nI ta__30) na__30 fn__30 fb__30))), (aB k x1 240 fx)] := hD
          try dsimp only at hw_30
          have hr_31 := (hw_30.1 (by decide)).1
          obtain ⟨hs0_32, hs1_32, hs2_32, hs3_32⟩ := (hw_30.1 (by decide)).2
          replace hs0_32 := hs0_32.symm
          subst hs0_32
          replace hs1_32 := hs1_32.symm
          subst hs1_32
          replace hs2_32 := hs2_32.symm
          subst hs2_32
          replace hs3_32 := hs3_32.symm
          subst hs3_32
          refine lv_istore_n (lv' := [(3, .int r_30), (2, .int r_1), (0, .ref u0), (1, .ref x0)]) hx hb dX3_readChange_59 rfl hl (by decide) rfl (fun ls hl => ?_)
          refine lv_aload_n hx hb dX3_readChange_60 rfl (lv_at hl 3 rfl) ?_
          refine ro_i (D := D) (va_runV (As := []) (rest := []) ⟨hx, hb, hml, hown, hts⟩ ((x_failed l D k st lo x0 x1 tz ta__20 (nI nq_2) 1 (nI pl_21)) H.size) (cwV 0 hts (gV tw_682 tw_368 tw_369 tw_80 tw_370) rfl rfl rfl (by decide +kernel) ⟨Nat.le_of_ble_eq_true rfl, Nat.le_of_ble_eq_true rfl⟩) (pV hS hAlo hlo hP hK (va_Dlo hD hAlo) hZ [3] (by decide) rfl (ci := 6) (q := (RX6, TX6, 6)) (q0 := 0) rfl rfl) rfl rfl hl.1 rfl (lv_room (Nat.le_of_ble_eq_true rfl)) dX3_readChange_61 ⟨Nat.le_of_ble_eq_true rfl, Nat.le_of_ble_eq_true rfl⟩) hS hA hP (fun r_33 H locs hw_33 hP hS => ?_)
          try dsimp only at hw_33
          obtain rfl : r_33 = 1 := by rcases hw_33 with ⟨h, h2⟩ | ⟨h, h2⟩ <;> first | exact h | exact absurd rfl h2 | exact absurd h2 (by decide)
          refine lv_if_ne (tgt := 106) hx hb dX3_readChange_64 (by decide) (fun _ => ?_) (fun h => absurd h (by decide))
          have hP9 := hP.sub (ws' := [(u0, .inr (3, (fX3 u1 u2 rf (nI rc) (nI rr)))), (aI k u1 24 rs), (aI k u2 24 rb), (x0, .inr (6, (fX6 x1 (nI tz) (nI ta__20) (nI nq_2) 1 (nI pl_21)))), (aB k x1 240 fx)]) [0, 1, 2, 3, 4] rfl
          have hD9 := hD.sub (ws' := [(u0, .inr (3, (fX3 u1 u2 rf (nI rc) (nI rr)))), (aI k u1 24 rs), (aI k u2 24 rb), (x0, .inr (6, (fX6 x1 (nI tz) (nI ta__20) (nI nq_2) 1 (nI pl_21)))), (aB k x1 240 fx)]) [0, 1, 2, 3, 4] (by decide) rfl
          exact W.vret hx hb hr (fun t ht hW => ⟨⟨(rc, rs, rb, ta__20, (nI nq_2), 1, (nI pl_21)), rfl, ⟨.inr ⟨1, pl_21, rfl, by decide, by decide, (ch_2  hq_2 (.inr c_19) hq_21 (by decide)).1, (ch_2  hq_2 (.inr c_19) hq_21 (by decide)).2, rfl⟩, by omega, by omega, by omega⟩, by rw [ht]; exact hP9, hD9⟩, hS.F ht⟩) hS.2.2 dX3_readChange_106
      · refine lv_aload_n hx hb dX3_readChange_37 rfl (lv_at hl 2 rfl) ?_
        refine lv_iconst (v := 3) hx hb dX3_readChange_38 (by decide) ?_
        refine lv_aload_n hx hb dX3_readChange_39 rfl (lv_at hl 2 rfl) ?_
        refine va_get (D := D) (ci := 6) (v := .int (nI nq_2)) (C := RX6) (T := TX6) (N := 6) hx hb hts inX6 hown hK hP 3 rfl rfl 3 (by decide) (hts _ tw_117) (fun _ h9 => h9) rfl dX3_readChange_40 ?_
        refine rw_v (D := D) (wr := [(u0, .inr (3, (fX3 u1 u2 rf (nI rc) (nI rr)))), (aI k u1 24 rs), (aI k u2 24 rb), (aB k x1 240 fx)]) (va_runV (As := [.int 3, .int (nI nq_2)]) (rest := []) ⟨hx, hb, hml, hown, hts⟩ ((y_fail l D k st lo x0 x1 tz ta__1 (nI nq_2) 0 fb__1 3 (nI nq_2) (by decide)) H.size) (cwV 2 hts (gV tw_689 tw_456 tw_457 tw_80 tw_458) rfl rfl rfl (by decide +kernel) ⟨Nat.le_of_ble_eq_true rfl, Nat.le_of_ble_eq_true rfl⟩) (pV hS hAlo hlo hP hK (va_Dlo hD hAlo) hZ [3] (by decide) rfl (ci := 6) (q := (RX6, TX6, 6)) (q0 := 0) rfl rfl) rfl rfl hl.1 rfl (lv_room (Nat.le_of_ble_eq_true rfl)) dX3_readChange_43 ⟨Nat.le_of_ble_eq_true rfl, Nat.le_of_ble_eq_true rfl⟩) hS hA hP hD [3] [0, 1, 2, 4] rfl rfl (by decide) (by decide) (fun u H locs hw_34 hP hD hS => ?_)
        obtain ⟨fn__34, fb__34⟩ := u
        replace hP : va_P D classes [(u0, .inr (3, (fX3 u1 u2 rf (nI rc) (nI rr)))), (aI k u1 24 rs), (aI k u2 24 rb), (aB k x1 240 fx), (x0, .inr (6, (fX6 x1 (nI tz) (nI ta__1) (nI nq_2) fn__34 fb__34)))] H := hP
        replace hD : va_D A [(u0, .inr (3, (fX3 u1 u2 rf (nI rc) (nI rr)))), (aI k u1 24 rs), (aI k u2 24 rb), (aB k x1 240 fx), (x0, .inr (6, (fX6 x1 (nI tz) (nI ta__1) (nI nq_2) fn__34 fb__34)))] := hD
        try dsimp only at hw_34
        obtain ⟨hs0_35, hs1_35⟩ := hw_34.2.1 rfl
        replace hs0_35 := hs0_35.symm
        subst hs0_35
        replace hs1_35 := hs1_35.symm
        subst hs1_35
        refine lv_aload_n hx hb dX3_readChange_46 rfl (lv_at hl 2 rfl) ?_
        refine va_ldcS hx hb hown (hZ.2.2.2.2.2.2.2.2.2.2 (RX3, 28, "from", 12) (List.mem_of_getElem? (i := 12) rfl)) dX3_readChange_47 ?_
        refine rw_v (D := D) (wr := [(u0, .inr (3, (fX3 u1 u2 rf (nI rc) (nI rr)))), (aI k u1 24 rs), (aI k u2 24 rb)]) (va_runV (As := [.ref (st (100 + 12))]) (rest := []) ⟨hx, hb, hml, hown, hts⟩ ((y_needWord l D k st lo x0 x1 tz ta__1 (nI nq_2) 3 (nI nq_2) fx 12 (by first | assumption | omega) (by first | assumption | omega) (by first | assumption | omega)) H.size) (cwV 1 hts (gV tw_680 tw_483 tw_484 tw_80 tw_485) rfl rfl rfl (by decide +kernel) ⟨Nat.le_of_ble_eq_true rfl, Nat.le_of_ble_eq_true rfl⟩) (pV hS hAlo hlo hP hK (va_Dlo hD hAlo) hZ [4, 3] (by decide) rfl (ci := 6) (q := (RX6, TX6, 6)) (q0 := 0) rfl rfl) rfl rfl hl.1 rfl (lv_room (Nat.le_of_ble_eq_true rfl)) dX3_readChange_49 ⟨Nat.le_of_ble_eq_true rfl, Nat.le_of_ble_eq_true rfl⟩) hS hA hP hD [4, 3] [0, 1, 2] rfl rfl (by decide) (by decide) (fun u H locs hw_36 hP hD hS => ?_)
        obtain ⟨ta__36, fn__36, fb__36⟩ := u
        replace hP : va_P D classes [(u0, .inr (3, (fX3 u1 u2 rf (nI rc) (nI rr)))), (aI k u1 24 rs), (aI k u2 24 rb), (x0, .inr (6, (fX6 x1 (nI tz) (nI ta__36) (nI nq_2) fn__36 fb__36))), (aB k x1 240 fx)] H := hP
        replace hD : va_D A [(u0, .inr (3, (fX3 u1 u2 rf (nI rc) (nI rr)))), (aI k u1 24 rs), (aI k u2 24 rb), (x0, .inr (6, (fX6 x1 (nI tz) (nI ta__36) (nI nq_2) fn__36 fb__36))), (aB k x1 240 fx)] := hD
        try dsimp only at hw_36
        obtain ⟨hs0_37, hs1_37, hs2_37⟩ := hw_36.1 (by decide)
        replace hs0_37 := hs0_37.symm
        subst hs0_37
        replace hs1_37 := hs1_37.symm
        subst hs1_37
        replace hs2_37 := hs2_37.symm
        subst hs2_37
        refine lv_aload_n hx hb dX3_readChange_52 rfl (lv_at hl 2 rfl) ?_
        refine lv_iconst (v := 0) hx hb dX3_readChange_53 (by decide) ?_
        refine lv_bipush (v := 24) hx hb dX3_readChange_54 (by decide) ?_
        refine rw_i (D := D) (wr := [(u0, .inr (3, (fX3 u1 u2 rf (nI rc) (nI rr)))), (aI k u1 24 rs), (aI k u2 24 rb)]) (va_runV (As := [.int 0, .int 24]) (rest := []) ⟨hx, hb, hml, hown, hts⟩ ((y_needNumber l D k st lo x0 x1 tz ta__1 (nI nq_2) 3 (nI nq_2) fx 0 24 (by first | assumption | omega) (by first | assumption | omega) (by decide)) H.size) (cwV 2 hts (gV tw_681 tw_468 tw_469 tw_80 tw_470) rfl rfl rfl (by decide +kernel) ⟨Nat.le_of_ble_eq_true rfl, Nat.le_of_ble_eq_true rfl⟩) (pV hS hAlo hlo hP hK (va_Dlo hD hAlo) hZ [3, 4] (by decide) rfl (ci := 6) (q := (RX6, TX6, 6)) (q0 := 0) rfl rfl) rfl rfl hl.1 rfl (lv_room (Nat.le_of_ble_eq_true rfl)) dX3_readChange_56 ⟨Nat.le_of_ble_eq_true rfl, Nat.le_of_ble_eq_true rfl⟩) hS hA hP hD [3, 4] [0, 1, 2] rfl rfl (by decide) (by decide) (fun r_38 u H locs hw_38 hP hD hS => ?_)
        obtain ⟨ta__38, na__38, fn__38, fb__38⟩ := u
        replace hP : va_P D classes [(u0, .inr (3, (fX3 u1 u2 rf (nI rc) (nI rr)))), (aI k u1 24 rs), (aI k u2 24 rb), (x0, .inr (6, (fX6 x1 (nI tz) (nI ta__38) na__38 fn__38 fb__38))), (aB k x1 240 fx)] H := hP
        replace hD : va_D A [(u0, .inr (3, (fX3 u1 u2 rf (nI rc) (nI rr)))), (aI k u1 24 rs), (aI k u2 24 rb), (x0, .inr (6, (fX6 x1 (nI tz) (nI ta__38) na__38 fn__38 fb__38))), (aB k x1 240 fx)] := hD
        try dsimp only at hw_38
        have hr_39 := (hw_38.1 (by decide)).1
        obtain ⟨hs0_40, hs1_40, hs2_40, hs3_40⟩ := (hw_38.1 (by decide)).2
        replace hs0_40 := hs0_40.symm
        subst hs0_40
        replace hs1_40 := hs1_40.symm
        subst hs1_40
        replace hs2_40 := hs2_40.symm
        subst hs2_40
        replace hs3_40 := hs3_40.symm
        subst hs3_40
        refine lv_istore_n (lv' := [(3, .int r_38), (2, .int r_1), (0, .ref u0), (1, .ref x0)]) hx hb dX3_readChange_59 rfl hl (by decide) rfl (fun ls hl => ?_)
        refine lv_aload_n hx hb dX3_readChange_60 rfl (lv_at hl 3 rfl) ?_
        refine ro_i (D := D) (va_runV (As := []) (rest := []) ⟨hx, hb, hml, hown, hts⟩ ((x_failed l D k st lo x0 x1 tz ta__1 (nI nq_2) 3 (nI nq_2)) H.size) (cwV 0 hts (gV tw_682 tw_368 tw_369 tw_80 tw_370) rfl rfl rfl (by decide +kernel) ⟨Nat.le_of_ble_eq_true rfl, Nat.le_of_ble_eq_true rfl⟩) (pV hS hAlo hlo hP hK (va_Dlo hD hAlo) hZ [3] (by decide) rfl (ci := 6) (q := (RX6, TX6, 6)) (q0 := 0) rfl rfl) rfl rfl hl.1 rfl (lv_room (Nat.le_of_ble_eq_true rfl)) dX3_readChange_61 ⟨Nat.le_of_ble_eq_true rfl, Nat.le_of_ble_eq_true rfl⟩) hS hA hP (fun r_41 H locs hw_41 hP hS => ?_)
        try dsimp only at hw_41
        obtain rfl : r_41 = 1 := by rcases hw_41 with ⟨h, h2⟩ | ⟨h, h2⟩ <;> first | exact h | exact absurd rfl h2 | exact absurd h2 (by decide)
        refine lv_if_ne (tgt := 106) hx hb dX3_readChange_64 (by decide) (fun _ => ?_) (fun h => absurd h (by decide))
        have hP9 := hP.sub (ws' := [(u0, .inr (3, (fX3 u1 u2 rf (nI rc) (nI rr)))), (aI k u1 24 rs), (aI k u2 24 rb), (x0, .inr (6, (fX6 x1 (nI tz) (nI ta__1) (nI nq_2) 3 (nI nq_2)))), (aB k x1 240 fx)]) [0, 1, 2, 3, 4] rfl
        have hD9 := hD.sub (ws' := [(u0, .inr (3, (fX3 u1 u2 rf (nI rc) (nI rr)))), (aI k u1 24 rs), (aI k u2 24 rb), (x0, .inr (6, (fX6 x1 (nI tz) (nI ta__1) (nI nq_2) 3 (nI nq_2)))), (aB k x1 240 fx)]) [0, 1, 2, 3, 4] (by decide) rfl
        exact W.vret hx hb hr (fun t ht hW => ⟨⟨(rc, rs, rb, ta__1, (nI nq_2), 3, (nI nq_2)), rfl, ⟨.inr ⟨3, nq_2, rfl, by decide, by decide, (ch_3  hq_2 (fun h => h.elim (fun z => by omega) c_19)).1, (ch_3  hq_2 (fun h => h.elim (fun z => by omega) c_19)).2, rfl⟩, by omega, by omega, by omega⟩, by rw [ht]; exact hP9, hD9⟩, hS.F ht⟩) hS.2.2 dX3_readChange_106
  · refine lv_istore_n (lv' := [(2, .int r_1), (0, .ref u0), (1, .ref x0)]) hx hb dX3_readChange_7 rfl hl (by decide) rfl (fun ls hl => ?_)
    refine lv_aload_n hx hb dX3_readChange_8 rfl (lv_at hl 2 rfl) ?_
    refine ro_i (D := D) (va_runV (As := []) (rest := []) ⟨hx, hb, hml, hown, hts⟩ ((x_failed l D k st lo x0 x1 tz ta__1 (nI nq_2) 1 (nI pl_2)) H.size) (cwV 0 hts (gV tw_682 tw_368 tw_369 tw_80 tw_370) rfl rfl rfl (by decide +kernel) ⟨Nat.le_of_ble_eq_true rfl, Nat.le_of_ble_eq_true rfl⟩) (pV hS hAlo hlo hP hK (va_Dlo hD hAlo) hZ [3] (by decide) rfl (ci := 6) (q := (RX6, TX6, 6)) (q0 := 0) rfl rfl) rfl rfl hl.1 rfl (lv_room (Nat.le_of_ble_eq_true rfl)) dX3_readChange_9 ⟨Nat.le_of_ble_eq_true rfl, Nat.le_of_ble_eq_true rfl⟩) hS hA hP (fun r_42 H locs hw_42 hP hS => ?_)
    try dsimp only at hw_42
    obtain rfl : r_42 = 1 := by rcases hw_42 with ⟨h, h2⟩ | ⟨h, h2⟩ <;> first | exact h | exact absurd rfl h2 | exact absurd h2 (by decide)
    refine lv_if_ne (tgt := 46) hx hb dX3_readChange_12 (by decide) (fun _ => ?_) (fun h => absurd h (by decide))
    refine lv_aload_n hx hb dX3_readChange_46 rfl (lv_at hl 2 rfl) ?_
    refine va_ldcS hx hb hown (hZ.2.2.2.2.2.2.2.2.2.2 (RX3, 28, "from", 12) (List.mem_of_getElem? (i := 12) rfl)) dX3_readChange_47 ?_
    refine rw_v (D := D) (wr := [(u0, .inr (3, (fX3 u1 u2 rf (nI rc) (nI rr)))), (aI k u1 24 rs), (aI k u2 24 rb)]) (va_runV (As := [.ref (st (100 + 12))]) (rest := []) ⟨hx, hb, hml, hown, hts⟩ ((y_needWord l D k st lo x0 x1 tz ta__1 (nI nq_2) 1 (nI pl_2) fx 12 (by first | assumption | omega) (by first | assumption | omega) (by first | assumption | omega)) H.size) (cwV 1 hts (gV tw_680 tw_483 tw_484 tw_80 tw_485) rfl rfl rfl (by decide +kernel) ⟨Nat.le_of_ble_eq_true rfl, Nat.le_of_ble_eq_true rfl⟩) (pV hS hAlo hlo hP hK (va_Dlo hD hAlo) hZ [3, 4] (by decide) rfl (ci := 6) (q := (RX6, TX6, 6)) (q0 := 0) rfl rfl) rfl rfl hl.1 rfl (lv_room (Nat.le_of_ble_eq_true rfl)) dX3_readChange_49 ⟨Nat.le_of_ble_eq_true rfl, Nat.le_of_ble_eq_true rfl⟩) hS hA hP hD [3, 4] [0, 1, 2] rfl rfl (by decide) (by decide) (fun u H locs hw_43 hP hD hS => ?_)
    obtain ⟨ta__43, fn__43, fb__43⟩ := u
    replace hP : va_P D classes [(u0, .inr (3, (fX3 u1 u2 rf (nI rc) (nI rr)))), (aI k u1 24 rs), (aI k u2 24 rb), (x0, .inr (6, (fX6 x1 (nI tz) (nI ta__43) (nI nq_2) fn__43 fb__43))), (aB k x1 240 fx)] H := hP
    replace hD : va_D A [(u0, .inr (3, (fX3 u1 u2 rf (nI rc) (nI rr)))), (aI k u1 24 rs), (aI k u2 24 rb), (x0, .inr (6, (fX6 x1 (nI tz) (nI ta__43) (nI nq_2) fn__43 fb__43))), (aB k x1 240 fx)] := hD
    try dsimp only at hw_43
    obtain ⟨hs0_44, hs1_44, hs2_44⟩ := hw_43.1 (by decide)
    replace hs0_44 := hs0_44.symm
    subst hs0_44
    replace hs1_44 := hs1_44.symm
    subst hs1_44
    replace hs2_44 := hs2_44.symm
    subst hs2_44
    refine lv_aload_n hx hb dX3_readChange_52 rfl (lv_at hl 2 rfl) ?_
    refine lv_iconst (v := 0) hx hb dX3_readChange_53 (by decide) ?_
    refine lv_bipush (v := 24) hx hb dX3_readChange_54 (by decide) ?_
    refine rw_i (D := D) (wr := [(u0, .inr (3, (fX3 u1 u2 rf (nI rc) (nI rr)))), (aI k u1 24 rs), (aI k u2 24 rb)]) (va_runV (As := [.int 0, .int 24]) (rest := []) ⟨hx, hb, hml, hown, hts⟩ ((y_needNumber l D k st lo x0 x1 tz ta__1 (nI nq_2) 1 (nI pl_2) fx 0 24 (by first | assumption | omega) (by first | assumption | omega) (by decide)) H.size) (cwV 2 hts (gV tw_681 tw_468 tw_469 tw_80 tw_470) rfl rfl rfl (by decide +kernel) ⟨Nat.le_of_ble_eq_true rfl, Nat.le_of_ble_eq_true rfl⟩) (pV hS hAlo hlo hP hK (va_Dlo hD hAlo) hZ [3, 4] (by decide) rfl (ci := 6) (q := (RX6, TX6, 6)) (q0 := 0) rfl rfl) rfl rfl hl.1 rfl (lv_room (Nat.le_of_ble_eq_true rfl)) dX3_readChange_56 ⟨Nat.le_of_ble_eq_true rfl, Nat.le_of_ble_eq_true rfl⟩) hS hA hP hD [3, 4] [0, 1, 2] rfl rfl (by decide) (by decide) (fun r_45 u H locs hw_45 hP hD hS => ?_)
    obtain ⟨ta__45, na__45, fn__45, fb__45⟩ := u
    replace hP : va_P D classes [(u0, .inr (3, (fX3 u1 u2 rf (nI rc) (nI rr)))), (aI k u1 24 rs), (aI k u2 24 rb), (x0, .inr (6, (fX6 x1 (nI tz) (nI ta__45) na__45 fn__45 fb__45))), (aB k x1 240 fx)] H := hP
    replace hD : va_D A [(u0, .inr (3, (fX3 u1 u2 rf (nI rc) (nI rr)))), (aI k u1 24 rs), (aI k u2 24 rb), (x0, .inr (6, (fX6 x1 (nI tz) (nI ta__45) na__45 fn__45 fb__45))), (aB k x1 240 fx)] := hD
    try dsimp only at hw_45
    have hr_46 := (hw_45.1 (by decide)).1
    obtain ⟨hs0_47, hs1_47, hs2_47, hs3_47⟩ := (hw_45.1 (by decide)).2
    replace hs0_47 := hs0_47.symm
    subst hs0_47
    replace hs1_47 := hs1_47.symm
    subst hs1_47
    replace hs2_47 := hs2_47.symm
    subst hs2_47
    replace hs3_47 := hs3_47.symm
    subst hs3_47
    refine lv_istore_n (lv' := [(3, .int r_45), (2, .int r_1), (0, .ref u0), (1, .ref x0)]) hx hb dX3_readChange_59 rfl hl (by decide) rfl (fun ls hl => ?_)
    refine lv_aload_n hx hb dX3_readChange_60 rfl (lv_at hl 3 rfl) ?_
    refine ro_i (D := D) (va_runV (As := []) (rest := []) ⟨hx, hb, hml, hown, hts⟩ ((x_failed l D k st lo x0 x1 tz ta__1 (nI nq_2) 1 (nI pl_2)) H.size) (cwV 0 hts (gV tw_682 tw_368 tw_369 tw_80 tw_370) rfl rfl rfl (by decide +kernel) ⟨Nat.le_of_ble_eq_true rfl, Nat.le_of_ble_eq_true rfl⟩) (pV hS hAlo hlo hP hK (va_Dlo hD hAlo) hZ [3] (by decide) rfl (ci := 6) (q := (RX6, TX6, 6)) (q0 := 0) rfl rfl) rfl rfl hl.1 rfl (lv_room (Nat.le_of_ble_eq_true rfl)) dX3_readChange_61 ⟨Nat.le_of_ble_eq_true rfl, Nat.le_of_ble_eq_true rfl⟩) hS hA hP (fun r_48 H locs hw_48 hP hS => ?_)
    try dsimp only at hw_48
    obtain rfl : r_48 = 1 := by rcases hw_48 with ⟨h, h2⟩ | ⟨h, h2⟩ <;> first | exact h | exact absurd rfl h2 | exact absurd h2 (by decide)
    refine lv_if_ne (tgt := 106) hx hb dX3_readChange_64 (by decide) (fun _ => ?_) (fun h => absurd h (by decide))
    have hP9 := hP.sub (ws' := [(u0, .inr (3, (fX3 u1 u2 rf (nI rc) (nI rr)))), (aI k u1 24 rs), (aI k u2 24 rb), (x0, .inr (6, (fX6 x1 (nI tz) (nI ta__1) (nI nq_2) 1 (nI pl_2)))), (aB k x1 240 fx)]) [0, 1, 2, 3, 4] rfl
    have hD9 := hD.sub (ws' := [(u0, .inr (3, (fX3 u1 u2 rf (nI rc) (nI rr)))), (aI k u1 24 rs), (aI k u2 24 rb), (x0, .inr (6, (fX6 x1 (nI tz) (nI ta__1) (nI nq_2) 1 (nI pl_2)))), (aB k x1 240 fx)]) [0, 1, 2, 3, 4] (by decide) rfl
    exact W.vret hx hb hr (fun t ht hW => ⟨⟨(rc, rs, rb, ta__1, (nI nq_2), 1, (nI pl_2)), rfl, ⟨.inr ⟨1, pl_2, rfl, by decide, by decide, (ch_1  hq_2 (by decide)).1, (ch_1  hq_2 (by decide)).2, rfl⟩, by omega, by omega, by omega⟩, by rw [ht]; exact hP9, hD9⟩, hS.F ht⟩) hS.2.2 dX3_readChange_106
  · refine lv_istore_n (lv' := [(2, .int r_1), (0, .ref u0), (1, .ref x0)]) hx hb dX3_readChange_7 rfl hl (by decide) rfl (fun ls hl => ?_)
    refine lv_aload_n hx hb dX3_readChange_8 rfl (lv_at hl 2 rfl) ?_
    refine ro_i (D := D) (va_runV (As := []) (rest := []) ⟨hx, hb, hml, hown, hts⟩ ((x_failed l D k st lo x0 x1 tz ta__1 (nI nq_2) 2 (nI pl_2)) H.size) (cwV 0 hts (gV tw_682 tw_368 tw_369 tw_80 tw_370) rfl rfl rfl (by decide +kernel) ⟨Nat.le_of_ble_eq_true rfl, Nat.le_of_ble_eq_true rfl⟩) (pV hS hAlo hlo hP hK (va_Dlo hD hAlo) hZ [3] (by decide) rfl (ci := 6) (q := (RX6, TX6, 6)) (q0 := 0) rfl rfl) rfl rfl hl.1 rfl (lv_room (Nat.le_of_ble_eq_true rfl)) dX3_readChange_9 ⟨Nat.le_of_ble_eq_true rfl, Nat.le_of_ble_eq_true rfl⟩) hS hA hP (fun r_49 H locs hw_49 hP hS => ?_)
    try dsimp only at hw_49
    obtain rfl : r_49 = 1 := by rcases hw_49 with ⟨h, h2⟩ | ⟨h, h2⟩ <;> first | exact h | exact absurd rfl h2 | exact absurd h2 (by decide)
    refine lv_if_ne (tgt := 46) hx hb dX3_readChange_12 (by decide) (fun _ => ?_) (fun h => absurd h (by decide))
    refine lv_aload_n hx hb dX3_readChange_46 rfl (lv_at hl 2 rfl) ?_
    refine va_ldcS hx hb hown (hZ.2.2.2.2.2.2.2.2.2.2 (RX3, 28, "from", 12) (List.mem_of_getElem? (i := 12) rfl)) dX3_readChange_47 ?_
    refine rw_v (D := D) (wr := [(u0, .inr (3, (fX3 u1 u2 rf (nI rc) (nI rr)))), (aI k u1 24 rs), (aI k u2 24 rb)]) (va_runV (As := [.ref (st (100 + 12))]) (rest := []) ⟨hx, hb, hml, hown, hts⟩ ((y_needWord l D k st lo x0 x1 tz ta__1 (nI nq_2) 2 (nI pl_2) fx 12 (by first | assumption | omega) (by first | assumption | omega) (by first | assumption | omega)) H.size) (cwV 1 hts (gV tw_680 tw_483 tw_484 tw_80 tw_485) rfl rfl rfl (by decide +kernel) ⟨Nat.le_of_ble_eq_true rfl, Nat.le_of_ble_eq_true rfl⟩) (pV hS hAlo hlo hP hK (va_Dlo hD hAlo) hZ [3, 4] (by decide) rfl (ci := 6) (q := (RX6, TX6, 6)) (q0 := 0) rfl rfl) rfl rfl hl.1 rfl (lv_room (Nat.le_of_ble_eq_true rfl)) dX3_readChange_49 ⟨Nat.le_of_ble_eq_true rfl, Nat.le_of_ble_eq_true rfl⟩) hS hA hP hD [3, 4] [0, 1, 2] rfl rfl (by decide) (by decide) (fun u H locs hw_50 hP hD hS => ?_)
    obtain ⟨ta__50, fn__50, fb__50⟩ := u
    replace hP : va_P D classes [(u0, .inr (3, (fX3 u1 u2 rf (nI rc) (nI rr)))), (aI k u1 24 rs), (aI k u2 24 rb), (x0, .inr (6, (fX6 x1 (nI tz) (nI ta__50) (nI nq_2) fn__50 fb__50))), (aB k x1 240 fx)] H := hP
    replace hD : va_D A [(u0, .inr (3, (fX3 u1 u2 rf (nI rc) (nI rr)))), (aI k u1 24 rs), (aI k u2 24 rb), (x0, .inr (6, (fX6 x1 (nI tz) (nI ta__50) (nI nq_2) fn__50 fb__50))), (aB k x1 240 fx)] := hD
    try dsimp only at hw_50
    obtain ⟨hs0_51, hs1_51, hs2_51⟩ := hw_50.1 (by decide)
    replace hs0_51 := hs0_51.symm
    subst hs0_51
    replace hs1_51 := hs1_51.symm
    subst hs1_51
    replace hs2_51 := hs2_51.symm
    subst hs2_51
    refine lv_aload_n hx hb dX3_readChange_52 rfl (lv_at hl 2 rfl) ?_
    refine lv_iconst (v := 0) hx hb dX3_readChange_53 (by decide) ?_
    refine lv_bipush (v := 24) hx hb dX3_readChange_54 (by decide) ?_
    refine rw_i (D := D) (wr := [(u0, .inr (3, (fX3 u1 u2 rf (nI rc) (nI rr)))), (aI k u1 24 rs), (aI k u2 24 rb)]) (va_runV (As := [.int 0, .int 24]) (rest := []) ⟨hx, hb, hml, hown, hts⟩ ((y_needNumber l D k st lo x0 x1 tz ta__1 (nI nq_2) 2 (nI pl_2) fx 0 24 (by first | assumption | omega) (by first | assumption | omega) (by decide)) H.size) (cwV 2 hts (gV tw_681 tw_468 tw_469 tw_80 tw_470) rfl rfl rfl (by decide +kernel) ⟨Nat.le_of_ble_eq_true rfl, Nat.le_of_ble_eq_true rfl⟩) (pV hS hAlo hlo hP hK (va_Dlo hD hAlo) hZ [3, 4] (by decide) rfl (ci := 6) (q := (RX6, TX6, 6)) (q0 := 0) rfl rfl) rfl rfl hl.1 rfl (lv_room (Nat.le_of_ble_eq_true rfl)) dX3_readChange_56 ⟨Nat.le_of_ble_eq_true rfl, Nat.le_of_ble_eq_true rfl⟩) hS hA hP hD [3, 4] [0, 1, 2] rfl rfl (by decide) (by decide) (fun r_52 u H locs hw_52 hP hD hS => ?_)
    obtain ⟨ta__52, na__52, fn__52, fb__52⟩ := u
    replace hP : va_P D classes [(u0, .inr (3, (fX3 u1 u2 rf (nI rc) (nI rr)))), (aI k u1 24 rs), (aI k u2 24 rb), (x0, .inr (6, (fX6 x1 (nI tz) (nI ta__52) na__52 fn__52 fb__52))), (aB k x1 240 fx)] H := hP
    replace hD : va_D A [(u0, .inr (3, (fX3 u1 u2 rf (nI rc) (nI rr)))), (aI k u1 24 rs), (aI k u2 24 rb), (x0, .inr (6, (fX6 x1 (nI tz) (nI ta__52) na__52 fn__52 fb__52))), (aB k x1 240 fx)] := hD
    try dsimp only at hw_52
    have hr_53 := (hw_52.1 (by decide)).1
    obtain ⟨hs0_54, hs1_54, hs2_54, hs3_54⟩ := (hw_52.1 (by decide)).2
    replace hs0_54 := hs0_54.symm
    subst hs0_54
    replace hs1_54 := hs1_54.symm
    subst hs1_54
    replace hs2_54 := hs2_54.symm
    subst hs2_54
    replace hs3_54 := hs3_54.symm
    subst hs3_54
    refine lv_istore_n (lv' := [(3, .int r_52), (2, .int r_1), (0, .ref u0), (1, .ref x0)]) hx hb dX3_readChange_59 rfl hl (by decide) rfl (fun ls hl => ?_)
    refine lv_aload_n hx hb dX3_readChange_60 rfl (lv_at hl 3 rfl) ?_
    refine ro_i (D := D) (va_runV (As := []) (rest := []) ⟨hx, hb, hml, hown, hts⟩ ((x_failed l D k st lo x0 x1 tz ta__1 (nI nq_2) 2 (nI pl_2)) H.size) (cwV 0 hts (gV tw_682 tw_368 tw_369 tw_80 tw_370) rfl rfl rfl (by decide +kernel) ⟨Nat.le_of_ble_eq_true rfl, Nat.le_of_ble_eq_true rfl⟩) (pV hS hAlo hlo hP hK (va_Dlo hD hAlo) hZ [3] (by decide) rfl (ci := 6) (q := (RX6, TX6, 6)) (q0 := 0) rfl rfl) rfl rfl hl.1 rfl (lv_room (Nat.le_of_ble_eq_true rfl)) dX3_readChange_61 ⟨Nat.le_of_ble_eq_true rfl, Nat.le_of_ble_eq_true rfl⟩) hS hA hP (fun r_55 H locs hw_55 hP hS => ?_)
    try dsimp only at hw_55
    obtain rfl : r_55 = 1 := by rcases hw_55 with ⟨h, h2⟩ | ⟨h, h2⟩ <;> first | exact h | exact absurd rfl h2 | exact absurd h2 (by decide)
    refine lv_if_ne (tgt := 106) hx hb dX3_readChange_64 (by decide) (fun _ => ?_) (fun h => absurd h (by decide))
    have hP9 := hP.sub (ws' := [(u0, .inr (3, (fX3 u1 u2 rf (nI rc) (nI rr)))), (aI k u1 24 rs), (aI k u2 24 rb), (x0, .inr (6, (fX6 x1 (nI tz) (nI ta__1) (nI nq_2) 2 (nI pl_2)))), (aB k x1 240 fx)]) [0, 1, 2, 3, 4] rfl
    have hD9 := hD.sub (ws' := [(u0, .inr (3, (fX3 u1 u2 rf (nI rc) (nI rr)))), (aI k u1 24 rs), (aI k u2 24 rb), (x0, .inr (6, (fX6 x1 (nI tz) (nI ta__1) (nI nq_2) 2 (nI pl_2)))), (aB k x1 240 fx)]) [0, 1, 2, 3, 4] (by decide) rfl
    exact W.vret hx hb hr (fun t ht hW => ⟨⟨(rc, rs, rb, ta__1, (nI nq_2), 2, (nI pl_2)), rfl, ⟨.inr ⟨2, pl_2, rfl, by decide, by decide, (ch_1  hq_2 (by decide)).1, (ch_1  hq_2 (by decide)).2, rfl⟩, by omega, by omega, by omega⟩, by rw [ht]; exact hP9, hD9⟩, hS.F ht⟩) hS.2.2 dX3_readChange_106


set_option maxHeartbeats 4000000 in
set_option maxRecDepth 100000 in
theorem y_Rule_readFrom (l : Launch) (D : va_G) (k : Nat → ClassId) (st : Nat → Nat) (lo : Nat) (u0 : Nat) (u1 : Nat) (u2 : Nat) (rf : Int32) (rc : Nat) (rr : Nat) (rs : Nat → Int32) (rb : Nat → Int32) (x0 : Nat) (x1 : Nat) (tz : Nat) (ta : Nat) (na : Int32) (fn : Int32) (fb : Int32) (fx : Nat → Int32) (ht : ta ≤ tz) (hz : tz ≤ 240) (h80 : tz ≤ 80) (hf0 : fn = 0) : CWv l D k st lo yX3_readFrom cX3_readFrom 3 none ({ frames := 7, cells := 0, slots := 0, locals := 152 }) 0 0 [.ref u0, .ref x0] [(u0, .inr (3, (fX3 u1 u2 rf (nI rc) (nI rr)))), (aI k u1 24 rs), (aI k u2 24 rb), (x0, .inr (6, (fX6 x1 (nI tz) (nI ta) na fn fb))), (aB k x1 240 fx)] (fun (u : Int32 × Nat × Nat × (Nat → Int32) × (Nat → Int32) × Nat × Int32 × Int32 × Int32) => match u with | (rf_, rc_, rr_, rs_, rb_, ta_, na_, fn_, fb_) => ((fn_ = 0 ∧ ruF (bF fx) tz ta = (0, 0, rf_, (rc_, clp rc_ rs_, clp rc_ rb_), nI rr_) ∧ rc_ ≤ 8) ∨ (∃ e pl : Nat, fn_ = nI e ∧ 1 ≤ e ∧ e ≤ 4 ∧ (ruF (bF fx) tz ta).1 = e ∧ (ruF (bF fx) tz ta).2.1 = pl ∧ fb_ = nI pl)) ∧ rc_ ≤ 24 ∧ rr_ ≤ 3 ∧ ta_ ≤ tz) (fun (u : Int32 × Nat × Nat × (Nat → Int32) × (Nat → Int32) × Nat × Int32 × Int32 × Int32) => match u with | (rf_, rc_, rr_, rs_, rb_, ta_, na_, fn_, fb_) => [(u0, .inr (3, (fX3 u1 u2 rf_ (nI rc_) (nI rr_)))), (aI k u1 24 rs_), (aI k u2 24 rb_), (x0, .inr (6, (fX6 x1 (nI tz) (nI ta_) na_ fn_ fb_))), (aB k x1 240 fx)]) := by
  intro sz
  refine Met.ofW (cc := cX3_readFrom) (maxL := 3) (ret := none) (by decide) rfl ?_
  intro p e s m args below meth c s₁ B hml hv
  obtain ⟨rfl, hsz, hlo, hP, hK, hDL, hZ⟩ := hv
  have hx := B.exec
  have hb := B.bytes
  have hr := B.returns
  have hts := WS_ts B.pre
  have hown : s.vm.findClass RX3 = some m.cls := findClass_of_methodNamed B.named
  have hlocks := B.notSynchronized
  subst hsz
  have hD := hDL.self (sz := s.heap.size)
  have hAlo := A_lo hDL hlo
  generalize hAe : va_A [(u0, .inr (3, (fX3 u1 u2 rf (nI rc) (nI rr)))), (aI k u1 24 rs), (aI k u2 24 rb), (x0, .inr (6, (fX6 x1 (nI tz) (nI ta) na fn fb))), (aB k x1 240 fx)] s.heap.size = A at hD hAlo ⊢
  have hA : ∀ q : Nat, s.heap.size ≤ q → A q := fun q h => by rw [← hAe]; exact Or.inr h
  have hS : va_S A s.heap s.heap [] := va_S.rf
  have hl := lv_entry ([.ref u0, .ref x0]) (n := 3) (Nat.le_of_ble_eq_true rfl)
  rw [lg_entry_eq]
  generalize (lg_sl ([.ref u0, .ref x0]) ++ List.replicate (3 - (lg_sl ([.ref u0, .ref x0])).length) Slot.unset).toArray = ls at hl ⊢
  have hl : lv_has ls 3 [(0, .ref u0), (1, .ref x0)] := hl
  subst hf0
  refine lv_aload_n hx hb dX3_readFrom_0 rfl (lv_at hl 0 rfl) ?_
  refine lv_iconst (v := 0) hx hb dX3_readFrom_1 (by decide) ?_
  refine va_put (D := D) (ci := 3) (v := .int 0) (ty := .int) (C := RX3) (T := TX3) (N := 5) hx hb hts inX3 tyX3 tyX3_ok nmX3 hown hK hP hD hS 0 rfl rfl 3 (by decide) (hts _ tw_292) (fun _ h9 => h9) rfl (by decide +kernel) rfl rfl (Nat.le_of_ble_eq_true rfl) dX3_readFrom_2 (fun H locs hP hD hS => ?_)
  replace hP : va_P D classes [(u0, .inr (3, (fX3 u1 u2 rf 0 (nI rr)))), (aI k u1 24 rs), (aI k u2 24 rb), (x0, .inr (6, (fX6 x1 (nI tz) (nI ta) na 0 fb))), (aB k x1 240 fx)] H := hP
  replace hD : va_D A [(u0, .inr (3, (fX3 u1 u2 rf 0 (nI rr)))), (aI k u1 24 rs), (aI k u2 24 rb), (x0, .inr (6, (fX6 x1 (nI tz) (nI ta) na 0 fb))), (aB k x1 240 fx)] := hD
  refine lv_aload_n hx hb dX3_readFrom_5 rfl (lv_at hl 0 rfl) ?_
  refine lv_iconst (v := 0) hx hb dX3_readFrom_6 (by decide) ?_
  refine va_put (D := D) (ci := 3) (v := .int 0) (ty := .int) (C := RX3) (T := TX3) (N := 5) hx hb hts inX3 tyX3 tyX3_ok nmX3 hown hK hP hD hS 0 rfl rfl 4 (by decide) (hts _ tw_293) (fun _ h9 => h9) rfl (by decide +kernel) rfl rfl (Nat.le_of_ble_eq_true rfl) dX3_readFrom_7 (fun H locs hP hD hS => ?_)
  replace hP : va_P D classes [(u0, .inr (3, (fX3 u1 u2 rf 0 0))), (aI k u1 24 rs), (aI k u2 24 rb), (x0, .inr (6, (fX6 x1 (nI tz) (nI ta) na 0 fb))), (aB k x1 240 fx)] H := hP
  replace hD : va_D A [(u0, .inr (3, (fX3 u1 u2 rf 0 0))), (aI k u1 24 rs), (aI k u2 24 rb), (x0, .inr (6, (fX6 x1 (nI tz) (nI ta) na 0 fb))), (aB k x1 240 fx)] := hD
  refine lv_aload_n hx hb dX3_readFrom_10 rfl (lv_at hl 1 rfl) ?_
  refine va_ldcS hx hb hown (hZ.2.2.2.2.2.2.2.2.2.2 (RX3, 28, "from", 12) (List.mem_of_getElem? (i := 12) rfl)) dX3_readFrom_11 ?_
  refine rw_v (D := D) (wr := [(u0, .inr (3, (fX3 u1 u2 rf 0 0))), (aI k u1 24 rs), (aI k u2 24 rb)]) (va_runV (As := [.ref (st (100 + 12))]) (rest := []) ⟨hx, hb, hml, hown, hts⟩ ((y_needWord l D k st lo x0 x1 tz ta na 0 fb fx 12 (by first | assumption | omega) (by first | assumption | omega) (by first | assumption | omega)) H.size) (cwV 1 hts (gV tw_680 tw_483 tw_484 tw_80 tw_485) rfl rfl rfl (by decide +kernel) ⟨Nat.le_of_ble_eq_true rfl, Nat.le_of_ble_eq_true rfl⟩) (pV hS hAlo hlo hP hK (va_Dlo hD hAlo) hZ [3, 4] (by decide) rfl (ci := 6) (q := (RX6, TX6, 6)) (q0 := 0) rfl rfl) rfl rfl hl.1 rfl (lv_room (Nat.le_of_ble_eq_true rfl)) dX3_readFrom_13 ⟨Nat.le_of_ble_eq_true rfl, Nat.le_of_ble_eq_true rfl⟩) hS hA hP hD [3, 4] [0, 1, 2] rfl rfl (by decide) (by decide) (fun u H locs hw_1 hP hD hS => ?_)
  obtain ⟨ta__1, fn__1, fb__1⟩ := u
  replace hP : va_P D classes [(u0, .inr (3, (fX3 u1 u2 rf 0 0))), (aI k u1 24 rs), (aI k u2 24 rb), (x0, .inr (6, (fX6 x1 (nI tz) (nI ta__1) na fn__1 fb__1))), (aB k x1 240 fx)] H := hP
  replace hD : va_D A [(u0, .inr (3, (fX3 u1 u2 rf 0 0))), (aI k u1 24 rs), (aI k u2 24 rb), (x0, .inr (6, (fX6 x1 (nI tz) (nI ta__1) na fn__1 fb__1))), (aB k x1 240 fx)] := hD
  try dsimp only at hw_1
  rcases hw_1.2.1 rfl with ⟨rfl, hq_2⟩ | ⟨rfl, pl_2, hq_2, rfl⟩
  · refine lv_aload_n hx hb dX3_readFrom_16 rfl (lv_at hl 0 rfl) ?_
    refine lv_aload_n hx hb dX3_readFrom_17 rfl (lv_at hl 1 rfl) ?_
    refine lv_iconst (v := 0) hx hb dX3_readFrom_18 (by decide) ?_
    refine lv_bipush (v := 24) hx hb dX3_readFrom_19 (by decide) ?_
    refine rw_i (D := D) (wr := [(u0, .inr (3, (fX3 u1 u2 rf 0 0))), (aI k u1 24 rs), (aI k u2 24 rb)]) (va_runV (As := [.int 0, .int 24]) (rest := [.ref u0]) ⟨hx, hb, hml, hown, hts⟩ ((y_needNumber l D k st lo x0 x1 tz ta__1 na 0 fb__1 fx 0 24 (by first | assumption | omega) (by first | assumption | omega) (by decide)) H.size) (cwV 2 hts (gV tw_681 tw_468 tw_469 tw_80 tw_470) rfl rfl rfl (by decide +kernel) ⟨Nat.le_of_ble_eq_true rfl, Nat.le_of_ble_eq_true rfl⟩) (pV hS hAlo hlo hP hK (va_Dlo hD hAlo) hZ [3, 4] (by decide) rfl (ci := 6) (q := (RX6, TX6, 6)) (q0 := 0) rfl rfl) rfl rfl hl.1 rfl (lv_room (Nat.le_of_ble_eq_true rfl)) dX3_readFrom_21 ⟨Nat.le_of_ble_eq_true rfl, Nat.le_of_ble_eq_true rfl⟩) hS hA hP hD [3, 4] [0, 1, 2] rfl rfl (by decide) (by decide) (fun r_3 u H locs hw_3 hP hD hS => ?_)
    obtain ⟨ta__3, na__3, fn__3, fb__3⟩ := u
    replace hP : va_P D classes [(u0, .inr (3, (fX3 u1 u2 rf 0 0))), (aI k u1 24 rs), (aI k u2 24 rb), (x0, .inr (6, (fX6 x1 (nI tz) (nI ta__3) na__3 fn__3 fb__3))), (aB k x1 240 fx)] H := hP
    replace hD : va_D A [(u0, .inr (3, (fX3 u1 u2 rf 0 0))), (aI k u1 24 rs), (aI k u2 24 rb), (x0, .inr (6, (fX6 x1 (nI tz) (nI ta__3) na__3 fn__3 fb__3))), (aB k x1 240 fx)] := hD
    try dsimp only at hw_3
    obtain ⟨pl_4, nq_4, rfl, hq_4⟩ := hw_3.2.1 rfl
    rw [show decide ((0 : Int32) < 0) = false from by decide] at hq_4
    rcases hq_4 with ⟨rfl, hq_4⟩ | ⟨rfl, hr_4, rfl, hq_4⟩ | ⟨rfl, hr_4, rfl, hq_4⟩
    · refine va_put (D := D) (ci := 3) (v := .int r_3) (ty := .int) (C := RX3) (T := TX3) (N := 5) hx hb hts inX3 tyX3 tyX3_ok nmX3 hown hK hP hD hS 0 rfl rfl 2 (by decide) (hts _ tw_291) (fun _ h9 => h9) rfl (by decide +kernel) rfl rfl (Nat.le_of_ble_eq_true rfl) dX3_readFrom_24 (fun H locs hP hD hS => ?_)
      replace hP : va_P D classes [(u0, .inr (3, (fX3 u1 u2 r_3 0 0))), (aI k u1 24 rs), (aI k u2 24 rb), (x0, .inr (6, (fX6 x1 (nI tz) (nI ta__3) (nI nq_4) 0 fb__3))), (aB k x1 240 fx)] H := hP
      replace hD : va_D A [(u0, .inr (3, (fX3 u1 u2 r_3 0 0))), (aI k u1 24 rs), (aI k u2 24 rb), (x0, .inr (6, (fX6 x1 (nI tz) (nI ta__3) (nI nq_4) 0 fb__3))), (aB k x1 240 fx)] := hD
      have hH_5 : ruH (bF fx) tz ta = (0, 0, ta__3, r_3) := by simp [ruH, hq_2, hq_4, -List.getD_eq_getElem?_getD]
      have hz1_5 := wdR_ge (i := 12) hq_2
      have hz2_5 := nuR_ge hq_4
      refine lv_iconst (v := 0) hx hb dX3_readFrom_27 (by decide) ?_
      refine lv_istore_n (lv' := [(2, .int 0), (0, .ref u0), (1, .ref x0)]) hx hb dX3_readFrom_28 rfl hl (by decide) rfl (fun ls hl => ?_)
      refine W_loop (σ := Nat × Nat × (Nat → Int32) × (Nat → Int32) × Nat × Int32 × Int32 × Int32) (fun (n_ : Nat) (x_ : Nat × Nat × (Nat → Int32) × (Nat → Int32) × Nat × Int32 × Int32 × Int32) (H : Heap) (locs : List Loc) (ls : Array Slot) => match x_ with | (kk_6, rc2_6, rs2_6, rb2_6, ta2_6, na2_6, fn2_6, fb2_6) => n_ = 24 - kk_6 ∧ (kk_6 ≤ 24 ∧ rc2_6 ≤ 24 ∧ ta2_6 ≤ tz ∧ (fn2_6 = 0 → rc2_6 = kk_6 ∧ 10 * kk_6 ≤ ta2_6) ∧ ((fn2_6 = 0 ∧ ruL (bF fx) tz (24 - kk_6) ta2_6 (rc2_6, clp rc2_6 rs2_6, clp rc2_6 rb2_6) = (ruL (bF fx) tz 24 ta__3 ru0)) ∨ (∃ e pl : Nat, fn2_6 = nI e ∧ 1 ≤ e ∧ e ≤ 4 ∧ (ruL (bF fx) tz 24 ta__3 ru0).1 = e ∧ (ruL (bF fx) tz 24 ta__3 ru0).2.1 = pl ∧ fb2_6 = nI pl))) ∧ va_P D classes [(u0, .inr (3, (fX3 u1 u2 r_3 (nI rc2_6) 0))), (aI k u1 24 rs2_6), (aI k u2 24 rb2_6), (x0, .inr (6, (fX6 x1 (nI tz) (nI ta2_6) na2_6 fn2_6 fb2_6))), (aB k x1 240 fx)] H ∧ va_D A [(u0, .inr (3, (fX3 u1 u2 r_3 (nI rc2_6) 0))), (aI k u1 24 rs2_6), (aI k u2 24 rb2_6), (x0, .inr (6, (fX6 x1 (nI tz) (nI ta2_6) na2_6 fn2_6 fb2_6))), (aB k x1 240 fx)] ∧ va_S A s.heap H locs ∧ lv_has ls 3 [(2, .int (nI kk_6)), (0, .ref u0), (1, .ref x0)]) (fun n_6 x_6 H locs ls hI ih_6 => ?_) _ (0, 0, rs, rb, ta__3, (nI nq_4), 0, fb__3) ⟨rfl, ⟨by omega, by omega, by omega, fun _ => ⟨rfl, by omega⟩, .inl ⟨rfl, by rw [clp_0, clp_0]; rfl⟩⟩, hP, hD, hS, (lv_sub hl [0, 1, 2] rfl)⟩
      obtain ⟨kk_6, rc2_6, rs2_6, rb2_6, ta2_6, na2_6, fn2_6, fb2_6⟩ := x_6
      obtain ⟨hm_6, hv_6, hP, hD, hS, hl⟩ := hI
      subst hm_6
      refine lv_iload_n hx hb dX3_readFrom_29 rfl (lv_at hl 0 rfl) ?_
      refine lv_bipush (v := 24) hx hb dX3_readFrom_30 (by decide) ?_
      refine lv_icmp_ge (tgt := 62) hx hb dX3_readFrom_32 (by decide) (fun c_7 => ?_) (fun c_7 => ?_)
      · have c_7 := (nI_leI (a := 24) (b := kk_6) (by omega) (by omega)).mp c_7
        refine lv_aload_n hx hb dX3_readFrom_62 rfl (lv_at hl 2 rfl) ?_
        refine ro_i (D := D) (va_runV (As := []) (rest := []) ⟨hx, hb, hml, hown, hts⟩ ((x_failed l D k st lo x0 x1 tz ta2_6 na2_6 fn2_6 fb2_6) H.size) (cwV 0 hts (gV tw_682 tw_368 tw_369 tw_80 tw_370) rfl rfl rfl (by decide +kernel) ⟨Nat.le_of_ble_eq_true rfl, Nat.le_of_ble_eq_true rfl⟩) (pV hS hAlo hlo hP hK (va_Dlo hD hAlo) hZ [3] (by decide) rfl (ci := 6) (q := (RX6, TX6, 6)) (q0 := 0) rfl rfl) rfl rfl hl.1 rfl (lv_room (Nat.le_of_ble_eq_true rfl)) dX3_readFrom_63 ⟨Nat.le_of_ble_eq_true rfl, Nat.le_of_ble_eq_true rfl⟩) hS hA hP (fun r_8 H locs hw_8 hP hS => ?_)
        try dsimp only at hw_8
        rcases hw_8 with ⟨rfl, hw_8⟩ | ⟨rfl, rfl⟩
        · refine lv_if_ne (tgt := 93) hx hb dX3_readFrom_66 (by decide) (fun _ => ?_) (fun h => absurd h (by decide))
          refine lv_aload_n hx hb dX3_readFrom_93 rfl (lv_at hl 2 rfl) ?_
          refine ro_i (D := D) (va_runV (As := []) (rest := []) ⟨hx, hb, hml, hown, hts⟩ ((x_failed l D k st lo x0 x1 tz ta2_6 na2_6 fn2_6 fb2_6) H.size) (cwV 0 hts (gV tw_682 tw_368 tw_369 tw_80 tw_370) rfl rfl rfl (by decide +kernel) ⟨Nat.le_of_ble_eq_true rfl, Nat.le_of_ble_eq_true rfl⟩) (pV hS hAlo hlo hP hK (va_Dlo hD hAlo) hZ [3] (by decide) rfl (ci := 6) (q := (RX6, TX6, 6)) (q0 := 0) rfl rfl) rfl rfl hl.1 rfl (lv_room (Nat.le_of_ble_eq_true rfl)) dX3_readFrom_94 ⟨Nat.le_of_ble_eq_true rfl, Nat.le_of_ble_eq_true rfl⟩) hS hA hP (fun r_9 H locs hw_9 hP hS => ?_)
          try dsimp only at hw_9
          obtain rfl : r_9 = 1 := by rcases hw_9 with ⟨h, h2⟩ | ⟨h, h2⟩ <;> first | exact h | exact absurd h2 hw_8
          refine lv_if_ne (tgt := 116) hx hb dX3_readFrom_97 (by decide) (fun _ => ?_) (fun h => absurd h (by decide))
          have hP9 := hP.sub (ws' := [(u0, .inr (3, (fX3 u1 u2 r_3 (nI rc2_6) 0))), (aI k u1 24 rs2_6), (aI k u2 24 rb2_6), (x0, .inr (6, (fX6 x1 (nI tz) (nI ta2_6) na2_6 fn2_6 fb2_6))), (aB k x1 240 fx)]) [0, 1, 2, 3, 4] rfl
          have hD9 := hD.sub (ws' := [(u0, .inr (3, (fX3 u1 u2 r_3 (nI rc2_6) 0))), (aI k u1 24 rs2_6), (aI k u2 24 rb2_6), (x0, .inr (6, (fX6 x1 (nI tz) (nI ta2_6) na2_6 fn2_6 fb2_6))), (aB k x1 240 fx)]) [0, 1, 2, 3, 4] (by decide) rfl
          exact W.vret hx hb hr (fun t ht hW => ⟨⟨(r_3, rc2_6, 0, rs2_6, rb2_6, ta2_6, na2_6, fn2_6, fb2_6), rfl, ⟨(by rcases hv_6.2.2.2.2 with ⟨h, -⟩ | ⟨e, pl, h, h1, h2, h3, h4, h5⟩; exact absurd h hw_8; exact .inr ⟨e, pl, h, h1, h2, (rf_l hH_5 h3 h4).1, (rf_l hH_5 h3 h4).2, h5⟩), by omega, by omega, by omega⟩, by rw [ht]; exact hP9, hD9⟩, hS.F ht⟩) hS.2.2 dX3_readFrom_116
        · refine lv_if_ne (tgt := 93) hx hb dX3_readFrom_66 (by decide) (fun h => absurd (by decide) h) (fun _ => ?_)
          obtain ⟨hrk_10, h10_10⟩ := hv_6.2.2.2.1 rfl
          have hst_10 : ruL (bF fx) tz (24 - kk_6) ta2_6 (rc2_6, clp rc2_6 rs2_6, clp rc2_6 rb2_6) = (ruL (bF fx) tz 24 ta__3 ru0) := by rcases hv_6.2.2.2.2 with ⟨-, h⟩ | ⟨e, pl, h, h1, h2, -⟩; exact h; exact absurd h.symm (nI_ne0 (by omega) (by omega))
          exact absurd h10_10 (by omega)
      · have c_7 : ¬ (24 ≤ kk_6) := fun h => c_7 ((nI_leI (a := 24) (b := kk_6) (by omega) (by omega)).mpr h)
        refine lv_aload_n hx hb dX3_readFrom_35 rfl (lv_at hl 2 rfl) ?_
        refine ro_i (D := D) (va_runV (As := []) (rest := []) ⟨hx, hb, hml, hown, hts⟩ ((x_failed l D k st lo x0 x1 tz ta2_6 na2_6 fn2_6 fb2_6) H.size) (cwV 0 hts (gV tw_682 tw_368 tw_369 tw_80 tw_370) rfl rfl rfl (by decide +kernel) ⟨Nat.le_of_ble_eq_true rfl, Nat.le_of_ble_eq_true rfl⟩) (pV hS hAlo hlo hP hK (va_Dlo hD hAlo) hZ [3] (by decide) rfl (ci := 6) (q := (RX6, TX6, 6)) (q0 := 0) rfl rfl) rfl rfl hl.1 rfl (lv_room (Nat.le_of_ble_eq_true rfl)) dX3_readFrom_36 ⟨Nat.le_of_ble_eq_true rfl, Nat.le_of_ble_eq_true rfl⟩) hS hA hP (fun r_11 H locs hw_11 hP hS => ?_)
        try dsimp only at hw_11
        rcases hw_11 with ⟨rfl, hw_11⟩ | ⟨rfl, rfl⟩
        · refine lv_if_ne (tgt := 62) hx hb dX3_readFrom_39 (by decide) (fun _ => ?_) (fun h => absurd h (by decide))
          refine lv_aload_n hx hb dX3_readFrom_62 rfl (lv_at hl 2 rfl) ?_
          refine ro_i (D := D) (va_runV (As := []) (rest := []) ⟨hx, hb, hml, hown, hts⟩ ((x_failed l D k st lo x0 x1 tz ta2_6 na2_6 fn2_6 fb2_6) H.size) (cwV 0 hts (gV tw_682 tw_368 tw_369 tw_80 tw_370) rfl rfl rfl (by decide +kernel) ⟨Nat.le_of_ble_eq_true rfl, Nat.le_of_ble_eq_true rfl⟩) (pV hS hAlo hlo hP hK (va_Dlo hD hAlo) hZ [3] (by decide) rfl (ci := 6) (q := (RX6, TX6, 6)) (q0 := 0) rfl rfl) rfl rfl hl.1 rfl (lv_room (Nat.le_of_ble_eq_true rfl)) dX3_readFrom_63 ⟨Nat.le_of_ble_eq_true rfl, Nat.le_of_ble_eq_true rfl⟩) hS hA hP (fun r_12 H locs hw_12 hP hS => ?_)
          try dsimp only at hw_12
          obtain rfl : r_12 = 1 := by rcases hw_12 with ⟨h, h2⟩ | ⟨h, h2⟩ <;> first | exact h | exact absurd h2 hw_11
          refine lv_if_ne (tgt := 93) hx hb dX3_readFrom_66 (by decide) (fun _ => ?_) (fun h => absurd h (by decide))
          refine lv_aload_n hx hb dX3_readFrom_93 rfl (lv_at hl 2 rfl) ?_
          refine ro_i (D := D) (va_runV (As := []) (rest := []) ⟨hx, hb, hml, hown, hts⟩ ((x_failed l D k st lo x0 x1 tz ta2_6 na2_6 fn2_6 fb2_6) H.size) (cwV 0 hts (gV tw_682 tw_368 tw_369 tw_80 tw_370) rfl rfl rfl (by decide +kernel) ⟨Nat.le_of_ble_eq_true rfl, Nat.le_of_ble_eq_true rfl⟩) (pV hS hAlo hlo hP hK (va_Dlo hD hAlo) hZ [3] (by decide) rfl (ci := 6) (q := (RX6, TX6, 6)) (q0 := 0) rfl rfl) rfl rfl hl.1 rfl (lv_room (Nat.le_of_ble_eq_true rfl)) dX3_readFrom_94 ⟨Nat.le_of_ble_eq_true rfl, Nat.le_of_ble_eq_true rfl⟩) hS hA hP (fun r_13 H locs hw_13 hP hS => ?_)
          try dsimp only at hw_13
          obtain rfl : r_13 = 1 := by rcases hw_13 with ⟨h, h2⟩ | ⟨h, h2⟩ <;> first | exact h | exact absurd h2 hw_11
          refine lv_if_ne (tgt := 116) hx hb dX3_readFrom_97 (by decide) (fun _ => ?_) (fun h => absurd h (by decide))
          have hP9 := hP.sub (ws' := [(u0, .inr (3, (fX3 u1 u2 r_3 (nI rc2_6) 0))), (aI k u1 24 rs2_6), (aI k u2 24 rb2_6), (x0, .inr (6, (fX6 x1 (nI tz) (nI ta2_6) na2_6 fn2_6 fb2_6))), (aB k x1 240 fx)]) [0, 1, 2, 3, 4] rfl
          have hD9 := hD.sub (ws' := [(u0, .inr (3, (fX3 u1 u2 r_3 (nI rc2_6) 0))), (aI k u1 24 rs2_6), (aI k u2 24 rb2_6), (x0, .inr (6, (fX6 x1 (nI tz) (nI ta2_6) na2_6 fn2_6 fb2_6))), (aB k x1 240 fx)]) [0, 1, 2, 3, 4] (by decide) rfl
          exact W.vret hx hb hr (fun t ht hW => ⟨⟨(r_3, rc2_6, 0, rs2_6, rb2_6, ta2_6, na2_6, fn2_6, fb2_6), rfl, ⟨(by rcases hv_6.2.2.2.2 with ⟨h, -⟩ | ⟨e, pl, h, h1, h2, h3, h4, h5⟩; exact absurd h hw_11; exact .inr ⟨e, pl, h, h1, h2, (rf_l hH_5 h3 h4).1, (rf_l hH_5 h3 h4).2, h5⟩), by omega, by omega, by omega⟩, by rw [ht]; exact hP9, hD9⟩, hS.F ht⟩) hS.2.2 dX3_readFrom_116
        · refine lv_if_ne (tgt := 62) hx hb dX3_readFrom_39 (by decide) (fun h => absurd (by decide) h) (fun _ => ?_)
          obtain ⟨hrk_14, h10_14⟩ := hv_6.2.2.2.1 rfl
          have hst_14 : ruL (bF fx) tz (24 - kk_6) ta2_6 (rc2_6, clp rc2_6 rs2_6, clp rc2_6 rb2_6) = (ruL (bF fx) tz 24 ta__3 ru0) := by rcases hv_6.2.2.2.2 with ⟨-, h⟩ | ⟨e, pl, h, h1, h2, -⟩; exact h; exact absurd h.symm (nI_ne0 (by omega) (by omega))
          refine lv_aload_n hx hb dX3_readFrom_42 rfl (lv_at hl 2 rfl) ?_
          refine va_ldcS hx hb hown (hZ.2.2.2.2.2.2.2.2.2.2 (RX3, 43, "seen", 13) (List.mem_of_getElem? (i := 13) rfl)) dX3_readFrom_43 ?_
          refine rw_i (D := D) (wr := [(u0, .inr (3, (fX3 u1 u2 r_3 (nI rc2_6) 0))), (aI k u1 24 rs2_6), (aI k u2 24 rb2_6)]) (va_runV (As := [.ref (st (100 + 13))]) (rest := []) ⟨hx, hb, hml, hown, hts⟩ ((y_takeWord l D k st lo x0 x1 tz ta2_6 na2_6 0 fb2_6 fx 13 (by first | assumption | omega) (by first | assumption | omega) (by first | assumption | omega)) H.size) (cwV 1 hts (gV tw_684 tw_400 tw_401 tw_80 tw_402) rfl rfl rfl (by decide +kernel) ⟨Nat.le_of_ble_eq_true rfl, Nat.le_of_ble_eq_true rfl⟩) (pV hS hAlo hlo hP hK (va_Dlo hD hAlo) hZ [3, 4] (by decide) rfl (ci := 6) (q := (RX6, TX6, 6)) (q0 := 0) rfl rfl) rfl rfl hl.1 rfl (lv_room (Nat.le_of_ble_eq_true rfl)) dX3_readFrom_45 ⟨Nat.le_of_ble_eq_true rfl, Nat.le_of_ble_eq_true rfl⟩) hS hA hP hD [3, 4] [0, 1, 2] rfl rfl (by decide) (by decide) (fun r_15 u H locs hw_15 hP hD hS => ?_)
          obtain ⟨ta__15, rfl⟩ : ∃ z, z = u := ⟨_, rfl⟩
          replace hP : va_P D classes [(u0, .inr (3, (fX3 u1 u2 r_3 (nI rc2_6) 0))), (aI k u1 24 rs2_6), (aI k u2 24 rb2_6), (x0, .inr (6, (fX6 x1 (nI tz) (nI ta__15) na2_6 0 fb2_6))), (aB k x1 240 fx)] H := hP
          replace hD : va_D A [(u0, .inr (3, (fX3 u1 u2 r_3 (nI rc2_6) 0))), (aI k u1 24 rs2_6), (aI k u2 24 rb2_6), (x0, .inr (6, (fX6 x1 (nI tz) (nI ta__15) na2_6 0 fb2_6))), (aB k x1 240 fx)] := hD
          try dsimp only at hw_15
          rcases hw_15 with ⟨⟨rfl, hL_16, hT_16⟩ | ⟨rfl, hL_16, hT_16⟩, hw_15⟩
          · refine lv_if_eq (tgt := 62) hx hb dX3_readFrom_48 (by decide) (fun h => absurd h (by decide)) (fun _ => ?_)
            refine lv_aload_n hx hb dX3_readFrom_51 rfl (lv_at hl 1 rfl) ?_
            refine lv_aload_n hx hb dX3_readFrom_52 rfl (lv_at hl 2 rfl) ?_
            refine rw_v (D := D) (wr := []) (va_runV (As := [.ref x0]) (rest := []) ⟨hx, hb, hml, hown, hts⟩ ((y_readChange l D k st lo u0 u1 u2 r_3 rc2_6 0 rs2_6 rb2_6 x0 x1 tz ta__15 na2_6 0 fb2_6 fx (by first | assumption | omega) (by first | assumption | omega) (by first | assumption | omega) rfl) H.size) (cwV 1 hts (gV tw_685 tw_687 tw_14 tw_86 tw_688) rfl rfl rfl (by decide +kernel) ⟨Nat.le_of_ble_eq_true rfl, Nat.le_of_ble_eq_true rfl⟩) (pV hS hAlo hlo hP hK (va_Dlo hD hAlo) hZ [0, 1, 2, 3, 4] (by decide) rfl (ci := 3) (q := (RX3, TX3, 5)) (q0 := 0) rfl rfl) rfl rfl hl.1 rfl (lv_room (Nat.le_of_ble_eq_true rfl)) dX3_readFrom_53 ⟨Nat.le_of_ble_eq_true rfl, Nat.le_of_ble_eq_true rfl⟩) hS hA hP hD [0, 1, 2, 3, 4] [] rfl rfl (by decide) (by decide) (fun u H locs hw_17 hP hD hS => ?_)
            obtain ⟨rc__17, rs__17, rb__17, ta__17, na__17, fn__17, fb__17⟩ := u
            replace hP : va_P D classes [(u0, .inr (3, (fX3 u1 u2 r_3 (nI rc__17) 0))), (aI k u1 24 rs__17), (aI k u2 24 rb__17), (x0, .inr (6, (fX6 x1 (nI tz) (nI ta__17) na__17 fn__17 fb__17))), (aB k x1 240 fx)] H := hP
            replace hD : va_D A [(u0, .inr (3, (fX3 u1 u2 r_3 (nI rc__17) 0))), (aI k u1 24 rs__17), (aI k u2 24 rb__17), (x0, .inr (6, (fX6 x1 (nI tz) (nI ta__17) na__17 fn__17 fb__17))), (aB k x1 240 fx)] := hD
            try dsimp only at hw_17
            rcases hw_17 with ⟨⟨rfl, v1_18, v3_18, hd_18, hrc_18, hrs_18, hrb_18, hta_18⟩ | ⟨e_18, pl_18, rfl, he1_18, he2_18, hp1_18, hp2_18, rfl⟩, hw_17⟩
            · refine lv_iinc (v := (nI (kk_6 + 1))) (lv' := [(2, .int (nI (kk_6 + 1))), (0, .ref u0), (1, .ref x0)]) hx hb dX3_readFrom_56 hl (k := 0) rfl (nI_add kk_6 1) (by decide) rfl (fun ls hl => ?_)
              refine lv_goto (tgt := 29) hx hb dX3_readFrom_59 (by decide) ?_
              replace hT_16 : _ = _ + 4 := hT_16
              have hge_6 := skA_ge (bF fx) tz ta2_6
              exact ih_6 _ (kk_6 + 1, rc__17, rs__17, rb__17, ta__17, na__17, 0, fb__17) _ _ _ (by omega) ⟨rfl, ⟨by clear hv_6; omega, by clear hv_6; omega, by clear hv_6; omega, fun _ => ⟨by omega, by omega⟩, .inl ⟨rfl, by rw [← hst_14, rl_go (by omega) (show letA (bF fx) tz (skA (bF fx) tz ta2_6) = (sByt.getD 13 []) from hL_16) (by show chR (bF fx) tz rc2_6 (clp rc2_6 rs2_6) _ = _; rw [chR_clp, ← hT_16]; exact hd_18), show 24 - (kk_6 + 1) = 24 - kk_6 - 1 by omega, hrc_18, hrs_18, hrb_18, ← clp_upd, ← clp_upd]⟩⟩, hP, hD, hS, (lv_sub hl [0, 1, 2] rfl)⟩
            · refine lv_iinc (v := (nI (kk_6 + 1))) (lv' := [(2, .int (nI (kk_6 + 1))), (0, .ref u0), (1, .ref x0)]) hx hb dX3_readFrom_56 hl (k := 0) rfl (nI_add kk_6 1) (by decide) rfl (fun ls hl => ?_)
              refine lv_goto (tgt := 29) hx hb dX3_readFrom_59 (by decide) ?_
              replace hT_16 : _ = _ + 4 := hT_16
              have hge_6 := skA_ge (bF fx) tz ta2_6
              exact ih_6 _ (kk_6 + 1, rc__17, rs__17, rb__17, ta__17, na__17, (nI e_18), (nI pl_18)) _ _ _ (by omega) ⟨rfl, ⟨by clear hv_6; omega, by clear hv_6; omega, by clear hv_6; omega, fun h => absurd h (nI_ne0 (show 0 < e_18 by omega) (by omega)), .inr ⟨e_18, pl_18, rfl, he1_18, by omega, by rw [← hst_14]; exact (rl_er (e := e_18) (p := pl_18) (by omega) (show letA (bF fx) tz (skA (bF fx) tz ta2_6) = (sByt.getD 13 []) from hL_16) (by show (chR (bF fx) tz rc2_6 (clp rc2_6 rs2_6) _).1 = _; rw [chR_clp, ← hT_16]; exact hp1_18) he1_18 (by show (chR (bF fx) tz rc2_6 (clp rc2_6 rs2_6) _).2.1 = _; rw [chR_clp, ← hT_16]; exact hp2_18)).1, by rw [← hst_14]; exact (rl_er (e := e_18) (p := pl_18) (by omega) (show letA (bF fx) tz (skA (bF fx) tz ta2_6) = (sByt.getD 13 []) from hL_16) (by show (chR (bF fx) tz rc2_6 (clp rc2_6 rs2_6) _).1 = _; rw [chR_clp, ← hT_16]; exact hp1_18) he1_18 (by show (chR (bF fx) tz rc2_6 (clp rc2_6 rs2_6) _).2.1 = _; rw [chR_clp, ← hT_16]; exact hp2_18)).2, rfl⟩⟩, hP, hD, hS, (lv_sub hl [0, 1, 2] rfl)⟩
          · refine lv_if_eq (tgt := 62) hx hb dX3_readFrom_48 (by decide) (fun _ => ?_) (fun h => absurd (by decide) h)
            refine lv_aload_n hx hb dX3_readFrom_62 rfl (lv_at hl 2 rfl) ?_
            refine ro_i (D := D) (va_runV (As := []) (rest := []) ⟨hx, hb, hml, hown, hts⟩ ((x_failed l D k st lo x0 x1 tz ta__15 na2_6 0 fb2_6) H.size) (cwV 0 hts (gV tw_682 tw_368 tw_369 tw_80 tw_370) rfl rfl rfl (by decide +kernel) ⟨Nat.le_of_ble_eq_true rfl, Nat.le_of_ble_eq_true rfl⟩) (pV hS hAlo hlo hP hK (va_Dlo hD hAlo) hZ [3] (by decide) rfl (ci := 6) (q := (RX6, TX6, 6)) (q0 := 0) rfl rfl) rfl rfl hl.1 rfl (lv_room (Nat.le_of_ble_eq_true rfl)) dX3_readFrom_63 ⟨Nat.le_of_ble_eq_true rfl, Nat.le_of_ble_eq_true rfl⟩) hS hA hP (fun r_19 H locs hw_19 hP hS => ?_)
            try dsimp only at hw_19
            obtain rfl : r_19 = 0 := by rcases hw_19 with ⟨h, h2⟩ | ⟨h, h2⟩ <;> first | exact h | exact absurd rfl h2 | exact absurd h2 (by decide)
            refine lv_if_ne (tgt := 93) hx hb dX3_readFrom_66 (by decide) (fun h => absurd (by decide) h) (fun _ => ?_)
            refine lv_aload_n hx hb dX3_readFrom_69 rfl (lv_at hl 2 rfl) ?_
            refine va_ldcS hx hb hown (hZ.2.2.2.2.2.2.2.2.2.2 (RX3, 52, "round", 7) (List.mem_of_getElem? (i := 14) rfl)) dX3_readFrom_70 ?_
            refine rw_i (D := D) (wr := [(u0, .inr (3, (fX3 u1 u2 r_3 (nI rc2_6) 0))), (aI k u1 24 rs2_6), (aI k u2 24 rb2_6)]) (va_runV (As := [.ref (st (100 + 7))]) (rest := []) ⟨hx, hb, hml, hown, hts⟩ ((y_takeWord l D k st lo x0 x1 tz ta__15 na2_6 0 fb2_6 fx 7 (by first | assumption | omega) (by first | assumption | omega) (by first | assumption | omega)) H.size) (cwV 1 hts (gV tw_684 tw_400 tw_401 tw_80 tw_402) rfl rfl rfl (by decide +kernel) ⟨Nat.le_of_ble_eq_true rfl, Nat.le_of_ble_eq_true rfl⟩) (pV hS hAlo hlo hP hK (va_Dlo hD hAlo) hZ [3, 4] (by decide) rfl (ci := 6) (q := (RX6, TX6, 6)) (q0 := 0) rfl rfl) rfl rfl hl.1 rfl (lv_room (Nat.le_of_ble_eq_true rfl)) dX3_readFrom_72 ⟨Nat.le_of_ble_eq_true rfl, Nat.le_of_ble_eq_true rfl⟩) hS hA hP hD [3, 4] [0, 1, 2] rfl rfl (by decide) (by decide) (fun r_20 u H locs hw_20 hP hD hS => ?_)
            obtain ⟨ta__20, rfl⟩ : ∃ z, z = u := ⟨_, rfl⟩
            replace hP : va_P D classes [(u0, .inr (3, (fX3 u1 u2 r_3 (nI rc2_6) 0))), (aI k u1 24 rs2_6), (aI k u2 24 rb2_6), (x0, .inr (6, (fX6 x1 (nI tz) (nI ta__20) na2_6 0 fb2_6))), (aB k x1 240 fx)] H := hP
            replace hD : va_D A [(u0, .inr (3, (fX3 u1 u2 r_3 (nI rc2_6) 0))), (aI k u1 24 rs2_6), (aI k u2 24 rb2_6), (x0, .inr (6, (fX6 x1 (nI tz) (nI ta__20) na2_6 0 fb2_6))), (aB k x1 240 fx)] := hD
            try dsimp only at hw_20
            rcases hw_20 with ⟨⟨rfl, hL_21, hT_21⟩ | ⟨rfl, hL_21, hT_21⟩, hw_20⟩
            · rw [hT_16, skA_idem] at hL_21 hT_21
              refine lv_if_eq (tgt := 93) hx hb dX3_readFrom_75 (by decide) (fun h => absurd h (by decide)) (fun _ => ?_)
              refine lv_aload_n hx hb dX3_readFrom_78 rfl (lv_at hl 1 rfl) ?_
              refine lv_aload_n hx hb dX3_readFrom_79 rfl (lv_at hl 2 rfl) ?_
              refine lv_iconst (v := 0) hx hb dX3_readFrom_80 (by decide) ?_
              refine va_getsN (A := A) hx hb (hZ.2.2.1.narrow hAlo) hS hown ((hZ.2.2.2.2.2.2.2.2.1.2.1 (RX3, 54, "LastPlace", "MOST", "[I", RX7) (List.mem_of_getElem? (i := 3) rfl)).use rfl) (fun _ h9 => h9) dX3_readFrom_81 ?_
              refine lv_bipush (v := 8) hx hb dX3_readFrom_84 (by decide) ?_
              refine va_ti (A := A) hx hb (hZ.2.2.2.1.narrow hAlo) hS (i := 8) (by unfold vp_in; decide) (v := .int 3) rfl dX3_readFrom_86 ?_
              refine rw_i (D := D) (wr := [(u0, .inr (3, (fX3 u1 u2 r_3 (nI rc2_6) 0))), (aI k u1 24 rs2_6), (aI k u2 24 rb2_6)]) (va_runV (As := [.int 0, .int 3]) (rest := [.ref u0]) ⟨hx, hb, hml, hown, hts⟩ ((y_needNumber l D k st lo x0 x1 tz ta__20 na2_6 0 fb2_6 fx 0 3 (by first | assumption | omega) (by first | assumption | omega) (by decide)) H.size) (cwV 2 hts (gV tw_681 tw_468 tw_469 tw_80 tw_470) rfl rfl rfl (by decide +kernel) ⟨Nat.le_of_ble_eq_true rfl, Nat.le_of_ble_eq_true rfl⟩) (pV hS hAlo hlo hP hK (va_Dlo hD hAlo) hZ [3, 4] (by decide) rfl (ci := 6) (q := (RX6, TX6, 6)) (q0 := 0) rfl rfl) rfl rfl hl.1 rfl (lv_room (Nat.le_of_ble_eq_true rfl)) dX3_readFrom_87 ⟨Nat.le_of_ble_eq_true rfl, Nat.le_of_ble_eq_true rfl⟩) hS hA hP hD [3, 4] [0, 1, 2] rfl rfl (by decide) (by decide) (fun r_22 u H locs hw_22 hP hD hS => ?_)
              obtain ⟨ta__22, na__22, fn__22, fb__22⟩ := u
              replace hP : va_P D classes [(u0, .inr (3, (fX3 u1 u2 r_3 (nI rc2_6) 0))), (aI k u1 24 rs2_6), (aI k u2 24 rb2_6), (x0, .inr (6, (fX6 x1 (nI tz) (nI ta__22) na__22 fn__22 fb__22))), (aB k x1 240 fx)] H := hP
              replace hD : va_D A [(u0, .inr (3, (fX3 u1 u2 r_3 (nI rc2_6) 0))), (aI k u1 24 rs2_6), (aI k u2 24 rb2_6), (x0, .inr (6, (fX6 x1 (nI tz) (nI ta__22) na__22 fn__22 fb__22))), (aB k x1 240 fx)] := hD
              try dsimp only at hw_22
              obtain ⟨pl_23, nq_23, rfl, hq_23⟩ := hw_22.2.1 rfl
              rw [show decide ((0 : Int32) < 0) = false from by decide] at hq_23
              rcases hq_23 with ⟨rfl, hq_23⟩ | ⟨rfl, hr_23, rfl, hq_23⟩ | ⟨rfl, hr_23, rfl, hq_23⟩
              · replace hT_21 : _ = _ + 5 := hT_21
                rw [hT_21] at hq_23
                obtain ⟨nb_24, hnl_24, hnh_24, rfl⟩ := inB_ofc (a := 0) (b := 3) (by omega) (by omega) hw_22.2.2.2.2
                refine va_put (D := D) (ci := 3) (v := .int (nI nb_24)) (ty := .int) (C := RX3) (T := TX3) (N := 5) hx hb hts inX3 tyX3 tyX3_ok nmX3 hown hK hP hD hS 0 rfl rfl 4 (by decide) (hts _ tw_293) (fun _ h9 => h9) rfl (by decide +kernel) rfl rfl (Nat.le_of_ble_eq_true rfl) dX3_readFrom_90 (fun H locs hP hD hS => ?_)
                replace hP : va_P D classes [(u0, .inr (3, (fX3 u1 u2 r_3 (nI rc2_6) (nI nb_24)))), (aI k u1 24 rs2_6), (aI k u2 24 rb2_6), (x0, .inr (6, (fX6 x1 (nI tz) (nI ta__22) (nI nq_23) 0 fb__22))), (aB k x1 240 fx)] H := hP
                replace hD : va_D A [(u0, .inr (3, (fX3 u1 u2 r_3 (nI rc2_6) (nI nb_24)))), (aI k u1 24 rs2_6), (aI k u2 24 rb2_6), (x0, .inr (6, (fX6 x1 (nI tz) (nI ta__22) (nI nq_23) 0 fb__22))), (aB k x1 240 fx)] := hD
                refine lv_aload_n hx hb dX3_readFrom_93 rfl (lv_at hl 2 rfl) ?_
                refine ro_i (D := D) (va_runV (As := []) (rest := []) ⟨hx, hb, hml, hown, hts⟩ ((x_failed l D k st lo x0 x1 tz ta__22 (nI nq_23) 0 fb__22) H.size) (cwV 0 hts (gV tw_682 tw_368 tw_369 tw_80 tw_370) rfl rfl rfl (by decide +kernel) ⟨Nat.le_of_ble_eq_true rfl, Nat.le_of_ble_eq_true rfl⟩) (pV hS hAlo hlo hP hK (va_Dlo hD hAlo) hZ [3] (by decide) rfl (ci := 6) (q := (RX6, TX6, 6)) (q0 := 0) rfl rfl) rfl rfl hl.1 rfl (lv_room (Nat.le_of_ble_eq_true rfl)) dX3_readFrom_94 ⟨Nat.le_of_ble_eq_true rfl, Nat.le_of_ble_eq_true rfl⟩) hS hA hP (fun r_25 H locs hw_25 hP hS => ?_)
                try dsimp only at hw_25
                obtain rfl : r_25 = 0 := by rcases hw_25 with ⟨h, h2⟩ | ⟨h, h2⟩ <;> first | exact h | exact absurd rfl h2 | exact absurd h2 (by decide)
                refine lv_if_ne (tgt := 116) hx hb dX3_readFrom_97 (by decide) (fun h => absurd (by decide) h) (fun _ => ?_)
                refine lv_aload_n hx hb dX3_readFrom_100 rfl (lv_at hl 2 rfl) ?_
                refine rw_i (D := D) (wr := [(u0, .inr (3, (fX3 u1 u2 r_3 (nI rc2_6) (nI nb_24)))), (aI k u1 24 rs2_6), (aI k u2 24 rb2_6)]) (va_runV (As := []) (rest := []) ⟨hx, hb, hml, hown, hts⟩ ((y_isAtEnd l D k st lo x0 x1 tz ta__22 (nI nq_23) 0 fb__22 fx (by first | assumption | omega) (by first | assumption | omega)) H.size) (cwV 0 hts (gV tw_692 tw_372 tw_373 tw_80 tw_374) rfl rfl rfl (by decide +kernel) ⟨Nat.le_of_ble_eq_true rfl, Nat.le_of_ble_eq_true rfl⟩) (pV hS hAlo hlo hP hK (va_Dlo hD hAlo) hZ [3, 4] (by decide) rfl (ci := 6) (q := (RX6, TX6, 6)) (q0 := 0) rfl rfl) rfl rfl hl.1 rfl (lv_room (Nat.le_of_ble_eq_true rfl)) dX3_readFrom_101 ⟨Nat.le_of_ble_eq_true rfl, Nat.le_of_ble_eq_true rfl⟩) hS hA hP hD [3, 4] [0, 1, 2] rfl rfl (by decide) (by decide) (fun r_26 u H locs hw_26 hP hD hS => ?_)
                obtain ⟨ta__26, rfl⟩ : ∃ z, z = u := ⟨_, rfl⟩
                replace hP : va_P D classes [(u0, .inr (3, (fX3 u1 u2 r_3 (nI rc2_6) (nI nb_24)))), (aI k u1 24 rs2_6), (aI k u2 24 rb2_6), (x0, .inr (6, (fX6 x1 (nI tz) (nI ta__26) (nI nq_23) 0 fb__22))), (aB k x1 240 fx)] H := hP
                replace hD : va_D A [(u0, .inr (3, (fX3 u1 u2 r_3 (nI rc2_6) (nI nb_24)))), (aI k u1 24 rs2_6), (aI k u2 24 rb2_6), (x0, .inr (6, (fX6 x1 (nI tz) (nI ta__26) (nI nq_23) 0 fb__22))), (aB k x1 240 fx)] := hD
                try dsimp only at hw_26
                rcases hw_26 with ⟨⟨rfl, hz_26⟩ | ⟨rfl, hz_26⟩, hw_26⟩
                · refine lv_if_ne (tgt := 116) hx hb dX3_readFrom_104 (by decide) (fun _ => ?_) (fun h => absurd h (by decide))
                  have hP9 := hP.sub (ws' := [(u0, .inr (3, (fX3 u1 u2 r_3 (nI rc2_6) (nI nb_24)))), (aI k u1 24 rs2_6), (aI k u2 24 rb2_6), (x0, .inr (6, (fX6 x1 (nI tz) (nI ta__26) (nI nq_23) 0 fb__22))), (aB k x1 240 fx)]) [0, 1, 2, 3, 4] rfl
                  have hD9 := hD.sub (ws' := [(u0, .inr (3, (fX3 u1 u2 r_3 (nI rc2_6) (nI nb_24)))), (aI k u1 24 rs2_6), (aI k u2 24 rb2_6), (x0, .inr (6, (fX6 x1 (nI tz) (nI ta__26) (nI nq_23) 0 fb__22))), (aB k x1 240 fx)]) [0, 1, 2, 3, 4] (by decide) rfl
                  exact W.vret hx hb hr (fun t ht hW => ⟨⟨(r_3, rc2_6, nb_24, rs2_6, rb2_6, ta__26, (nI nq_23), 0, fb__22), rfl, ⟨.inl ⟨rfl, rf_o hH_5 (((rl_no hL_16).symm.trans hst_14).symm.trans (by rw [ro_1o hL_21 hq_23 (show ¬ skA (bF fx) tz _ < tz by rw [← hw_26.1]; omega)])), by omega⟩, by omega, by omega, by omega⟩, by rw [ht]; exact hP9, hD9⟩, hS.F ht⟩) hS.2.2 dX3_readFrom_116
                · refine lv_if_ne (tgt := 116) hx hb dX3_readFrom_104 (by decide) (fun h => absurd (by decide) h) (fun _ => ?_)
                  refine lv_aload_n hx hb dX3_readFrom_107 rfl (lv_at hl 2 rfl) ?_
                  refine lv_iconst (v := 1) hx hb dX3_readFrom_108 (by decide) ?_
                  refine lv_aload_n hx hb dX3_readFrom_109 rfl (lv_at hl 2 rfl) ?_
                  refine va_get (D := D) (ci := 6) (v := .int (nI ta__26)) (C := RX6) (T := TX6) (N := 6) hx hb hts inX6 hown hK hP 3 rfl rfl 2 (by decide) (hts _ tw_114) (fun _ h9 => h9) rfl dX3_readFrom_110 ?_
                  refine rw_v (D := D) (wr := [(u0, .inr (3, (fX3 u1 u2 r_3 (nI rc2_6) (nI nb_24)))), (aI k u1 24 rs2_6), (aI k u2 24 rb2_6), (aB k x1 240 fx)]) (va_runV (As := [.int 1, .int (nI ta__26)]) (rest := []) ⟨hx, hb, hml, hown, hts⟩ ((y_fail l D k st lo x0 x1 tz ta__26 (nI nq_23) 0 fb__22 1 (nI ta__26) (by decide)) H.size) (cwV 2 hts (gV tw_689 tw_456 tw_457 tw_80 tw_458) rfl rfl rfl (by decide +kernel) ⟨Nat.le_of_ble_eq_true rfl, Nat.le_of_ble_eq_true rfl⟩) (pV hS hAlo hlo hP hK (va_Dlo hD hAlo) hZ [3] (by decide) rfl (ci := 6) (q := (RX6, TX6, 6)) (q0 := 0) rfl rfl) rfl rfl hl.1 rfl (lv_room (Nat.le_of_ble_eq_true rfl)) dX3_readFrom_113 ⟨Nat.le_of_ble_eq_true rfl, Nat.le_of_ble_eq_true rfl⟩) hS hA hP hD [3] [0, 1, 2, 4] rfl rfl (by decide) (by decide) (fun u H locs hw_27 hP hD hS => ?_)
                  obtain ⟨fn__27, fb__27⟩ := u
                  replace hP : va_P D classes [(u0, .inr (3, (fX3 u1 u2 r_3 (nI rc2_6) (nI nb_24)))), (aI k u1 24 rs2_6), (aI k u2 24 rb2_6), (aB k x1 240 fx), (x0, .inr (6, (fX6 x1 (nI tz) (nI ta__26) (nI nq_23) fn__27 fb__27)))] H := hP
                  replace hD : va_D A [(u0, .inr (3, (fX3 u1 u2 r_3 (nI rc2_6) (nI nb_24)))), (aI k u1 24 rs2_6), (aI k u2 24 rb2_6), (aB k x1 240 fx), (x0, .inr (6, (fX6 x1 (nI tz) (nI ta__26) (nI nq_23) fn__27 fb__27)))] := hD
                  try dsimp only at hw_27
                  obtain ⟨hs0_28, hs1_28⟩ := hw_27.2.1 rfl
                  replace hs0_28 := hs0_28.symm
                  subst hs0_28
                  replace hs1_28 := hs1_28.symm
                  subst hs1_28
                  have hP9 := hP.sub (ws' := [(u0, .inr (3, (fX3 u1 u2 r_3 (nI rc2_6) (nI nb_24)))), (aI k u1 24 rs2_6), (aI k u2 24 rb2_6), (x0, .inr (6, (fX6 x1 (nI tz) (nI ta__26) (nI nq_23) 1 (nI ta__26)))), (aB k x1 240 fx)]) [0, 1, 2, 4, 3] rfl
                  have hD9 := hD.sub (ws' := [(u0, .inr (3, (fX3 u1 u2 r_3 (nI rc2_6) (nI nb_24)))), (aI k u1 24 rs2_6), (aI k u2 24 rb2_6), (x0, .inr (6, (fX6 x1 (nI tz) (nI ta__26) (nI nq_23) 1 (nI ta__26)))), (aB k x1 240 fx)]) [0, 1, 2, 4, 3] (by decide) rfl
                  exact W.vret hx hb hr (fun t ht hW => ⟨⟨(r_3, rc2_6, nb_24, rs2_6, rb2_6, ta__26, (nI nq_23), 1, (nI ta__26)), rfl, ⟨.inr ⟨1, ta__26, rfl, by decide, by decide, (rf_l (e := 1) (p := ta__26) hH_5 (by rw [((rl_no hL_16).symm.trans hst_14).symm, ro_1f hL_21 hq_23 (show skA (bF fx) tz _ < tz by rw [← hw_26.1]; omega)]) (by rw [((rl_no hL_16).symm.trans hst_14).symm, ro_1f hL_21 hq_23 (show skA (bF fx) tz _ < tz by rw [← hw_26.1]; omega)]; exact hw_26.1.symm)).1, (rf_l (e := 1) (p := ta__26) hH_5 (by rw [((rl_no hL_16).symm.trans hst_14).symm, ro_1f hL_21 hq_23 (show skA (bF fx) tz _ < tz by rw [← hw_26.1]; omega)]) (by rw [((rl_no hL_16).symm.trans hst_14).symm, ro_1f hL_21 hq_23 (show skA (bF fx) tz _ < tz by rw [← hw_26.1]; omega)]; exact hw_26.1.symm)).2, rfl⟩, by omega, by omega, by omega⟩, by rw [ht]; exact hP9, hD9⟩, hS.F ht⟩) hS.2.2 dX3_readFrom_116
              · replace hT_21 : _ = _ + 5 := hT_21
                rw [hT_21] at hq_23
                obtain ⟨nb_29, hnl_29, hnh_29, rfl⟩ := inB_ofc (a := 0) (b := 3) (by omega) (by omega) hw_22.2.2.2.2
                refine va_put (D := D) (ci := 3) (v := .int (nI nb_29)) (ty := .int) (C := RX3) (T := TX3) (N := 5) hx hb hts inX3 tyX3 tyX3_ok nmX3 hown hK hP hD hS 0 rfl rfl 4 (by decide) (hts _ tw_293) (fun _ h9 => h9) rfl (by decide +kernel) rfl rfl (Nat.le_of_ble_eq_true rfl) dX3_readFrom_90 (fun H locs hP hD hS => ?_)
                replace hP : va_P D classes [(u0, .inr (3, (fX3 u1 u2 r_3 (nI rc2_6) (nI nb_29)))), (aI k u1 24 rs2_6), (aI k u2 24 rb2_6), (x0, .inr (6, (fX6 x1 (nI tz) (nI ta__22) (nI nq_23) 1 (nI pl_23)))), (aB k x1 240 fx)] H := hP
                replace hD : va_D A [(u0, .inr (3, (fX3 u1 u2 r_3 (nI rc2_6) (nI nb_29)))), (aI k u1 24 rs2_6), (aI k u2 24 rb2_6), (x0, .inr (6, (fX6 x1 (nI tz) (nI ta__22) (nI nq_23) 1 (nI pl_23)))), (aB k x1 240 fx)] := hD
                refine lv_aload_n hx hb dX3_readFrom_93 rfl (lv_at hl 2 rfl) ?_
                refine ro_i (D := D) (va_runV (As := []) (rest := []) ⟨hx, hb, hml, hown, hts⟩ ((x_failed l D k st lo x0 x1 tz ta__22 (nI nq_23) 1 (nI pl_23)) H.size) (cwV 0 hts (gV tw_682 tw_368 tw_369 tw_80 tw_370) rfl rfl rfl (by decide +kernel) ⟨Nat.le_of_ble_eq_true rfl, Nat.le_of_ble_eq_true rfl⟩) (pV hS hAlo hlo hP hK (va_Dlo hD hAlo) hZ [3] (by decide) rfl (ci := 6) (q := (RX6, TX6, 6)) (q0 := 0) rfl rfl) rfl rfl hl.1 rfl (lv_room (Nat.le_of_ble_eq_true rfl)) dX3_readFrom_94 ⟨Nat.le_of_ble_eq_true rfl, Nat.le_of_ble_eq_true rfl⟩) hS hA hP (fun r_30 H locs hw_30 hP hS => ?_)
                try dsimp only at hw_30
                obtain rfl : r_30 = 1 := by rcases hw_30 with ⟨h, h2⟩ | ⟨h, h2⟩ <;> first | exact h | exact absurd rfl h2 | exact absurd h2 (by decide)
                refine lv_if_ne (tgt := 116) hx hb dX3_readFrom_97 (by decide) (fun _ => ?_) (fun h => absurd h (by decide))
                have hP9 := hP.sub (ws' := [(u0, .inr (3, (fX3 u1 u2 r_3 (nI rc2_6) (nI nb_29)))), (aI k u1 24 rs2_6), (aI k u2 24 rb2_6), (x0, .inr (6, (fX6 x1 (nI tz) (nI ta__22) (nI nq_23) 1 (nI pl_23)))), (aB k x1 240 fx)]) [0, 1, 2, 3, 4] rfl
                have hD9 := hD.sub (ws' := [(u0, .inr (3, (fX3 u1 u2 r_3 (nI rc2_6) (nI nb_29)))), (aI k u1 24 rs2_6), (aI k u2 24 rb2_6), (x0, .inr (6, (fX6 x1 (nI tz) (nI ta__22) (nI nq_23) 1 (nI pl_23)))), (aB k x1 240 fx)]) [0, 1, 2, 3, 4] (by decide) rfl
                exact W.vret hx hb hr (fun t ht hW => ⟨⟨(r_3, rc2_6, nb_29, rs2_6, rb2_6, ta__22, (nI nq_23), 1, (nI pl_23)), rfl, ⟨.inr ⟨1, pl_23, rfl, by decide, by decide, (rf_l (e := 1) (p := pl_23) hH_5 (by rw [((rl_no hL_16).symm.trans hst_14).symm]; exact (ro_1e hL_21 hq_23 (by decide)).1) (by rw [((rl_no hL_16).symm.trans hst_14).symm]; exact (ro_1e hL_21 hq_23 (by decide)).2)).1, (rf_l (e := 1) (p := pl_23) hH_5 (by rw [((rl_no hL_16).symm.trans hst_14).symm]; exact (ro_1e hL_21 hq_23 (by decide)).1) (by rw [((rl_no hL_16).symm.trans hst_14).symm]; exact (ro_1e hL_21 hq_23 (by decide)).2)).2, rfl⟩, by omega, by omega, by omega⟩, by rw [ht]; exact hP9, hD9⟩, hS.F ht⟩) hS.2.2 dX3_readFrom_116
              · replace hT_21 : _ = _ + 5 := hT_21
                rw [hT_21] at hq_23
                obtain ⟨nb_31, hnl_31, hnh_31, rfl⟩ := inB_ofc (a := 0) (b := 3) (by omega) (by omega) hw_22.2.2.2.2
                refine va_put (D := D) (ci := 3) (v := .int (nI nb_31)) (ty := .int) (C := RX3) (T := TX3) (N := 5) hx hb hts inX3 tyX3 tyX3_ok nmX3 hown hK hP hD hS 0 rfl rfl 4 (by decide) (hts _ tw_293) (fun _ h9 => h9) rfl (by decide +kernel) rfl rfl (Nat.le_of_ble_eq_true rfl) dX3_readFrom_90 (fun H locs hP hD hS => ?_)
                replace hP : va_P D classes [(u0, .inr (3, (fX3 u1 u2 r_3 (nI rc2_6) (nI nb_31)))), (aI k u1 24 rs2_6), (aI k u2 24 rb2_6), (x0, .inr (6, (fX6 x1 (nI tz) (nI ta__22) (nI nq_23) 2 (nI pl_23)))), (aB k x1 240 fx)] H := hP
                replace hD : va_D A [(u0, .inr (3, (fX3 u1 u2 r_3 (nI rc2_6) (nI nb_31)))), (aI k u1 24 rs2_6), (aI k u2 24 rb2_6), (x0, .inr (6, (fX6 x1 (nI tz) (nI ta__22) (nI nq_23) 2 (nI pl_23)))), (aB k x1 240 fx)] := hD
                refine lv_aload_n hx hb dX3_readFrom_93 rfl (lv_at hl 2 rfl) ?_
                refine ro_i (D := D) (va_runV (As := []) (rest := []) ⟨hx, hb, hml, hown, hts⟩ ((x_failed l D k st lo x0 x1 tz ta__22 (nI nq_23) 2 (nI pl_23)) H.size) (cwV 0 hts (gV tw_682 tw_368 tw_369 tw_80 tw_370) rfl rfl rfl (by decide +kernel) ⟨Nat.le_of_ble_eq_true rfl, Nat.le_of_ble_eq_true rfl⟩) (pV hS hAlo hlo hP hK (va_Dlo hD hAlo) hZ [3] (by decide) rfl (ci := 6) (q := (RX6, TX6, 6)) (q0 := 0) rfl rfl) rfl rfl hl.1 rfl (lv_room (Nat.le_of_ble_eq_true rfl)) dX3_readFrom_94 ⟨Nat.le_of_ble_eq_true rfl, Nat.le_of_ble_eq_true rfl⟩) hS hA hP (fun r_32 H locs hw_32 hP hS => ?_)
                try dsimp only at hw_32
                obtain rfl : r_32 = 1 := by rcases hw_32 with ⟨h, h2⟩ | ⟨h, h2⟩ <;> first | exact h | exact absurd rfl h2 | exact absurd h2 (by decide)
                refine lv_if_ne (tgt := 116) hx hb dX3_readFrom_97 (by decide) (fun _ => ?_) (fun h => absurd h (by decide))
                have hP9 := hP.sub (ws' := [(u0, .inr (3, (fX3 u1 u2 r_3 (nI rc2_6) (nI nb_31)))), (aI k u1 24 rs2_6), (aI k u2 24 rb2_6), (x0, .inr (6, (fX6 x1 (nI tz) (nI ta__22) (nI nq_23) 2 (nI pl_23)))), (aB k x1 240 fx)]) [0, 1, 2, 3, 4] rfl
                have hD9 := hD.sub (ws' := [(u0, .inr (3, (fX3 u1 u2 r_3 (nI rc2_6) (nI nb_31)))), (aI k u1 24 rs2_6), (aI k u2 24 rb2_6), (x0, .inr (6, (fX6 x1 (nI tz) (nI ta__22) (nI nq_23) 2 (nI pl_23)))), (aB k x1 240 fx)]) [0, 1, 2, 3, 4] (by decide) rfl
                exact W.vret hx hb hr (fun t ht hW => ⟨⟨(r_3, rc2_6, nb_31, rs2_6, rb2_6, ta__22, (nI nq_23), 2, (nI pl_23)), rfl, ⟨.inr ⟨2, pl_23, rfl, by decide, by decide, (rf_l (e := 2) (p := pl_23) hH_5 (by rw [((rl_no hL_16).symm.trans hst_14).symm]; exact (ro_1e hL_21 hq_23 (by decide)).1) (by rw [((rl_no hL_16).symm.trans hst_14).symm]; exact (ro_1e hL_21 hq_23 (by decide)).2)).1, (rf_l (e := 2) (p := pl_23) hH_5 (by rw [((rl_no hL_16).symm.trans hst_14).symm]; exact (ro_1e hL_21 hq_23 (by decide)).1) (by rw [((rl_no hL_16).symm.trans hst_14).symm]; exact (ro_1e hL_21 hq_23 (by decide)).2)).2, rfl⟩, by omega, by omega, by omega⟩, by rw [ht]; exact hP9, hD9⟩, hS.F ht⟩) hS.2.2 dX3_readFrom_116
            · rw [hT_16, skA_idem] at hL_21 hT_21
              refine lv_if_eq (tgt := 93) hx hb dX3_readFrom_75 (by decide) (fun _ => ?_) (fun h => absurd (by decide) h)
              refine lv_aload_n hx hb dX3_readFrom_93 rfl (lv_at hl 2 rfl) ?_
              refine ro_i (D := D) (va_runV (As := []) (rest := []) ⟨hx, hb, hml, hown, hts⟩ ((x_failed l D k st lo x0 x1 tz ta__20 na2_6 0 fb2_6) H.size) (cwV 0 hts (gV tw_682 tw_368 tw_369 tw_80 tw_370) rfl rfl rfl (by decide +kernel) ⟨Nat.le_of_ble_eq_true rfl, Nat.le_of_ble_eq_true rfl⟩) (pV hS hAlo hlo hP hK (va_Dlo hD hAlo) hZ [3] (by decide) rfl (ci := 6) (q := (RX6, TX6, 6)) (q0 := 0) rfl rfl) rfl rfl hl.1 rfl (lv_room (Nat.le_of_ble_eq_true rfl)) dX3_readFrom_94 ⟨Nat.le_of_ble_eq_true rfl, Nat.le_of_ble_eq_true rfl⟩) hS hA hP (fun r_33 H locs hw_33 hP hS => ?_)
              try dsimp only at hw_33
              obtain rfl : r_33 = 0 := by rcases hw_33 with ⟨h, h2⟩ | ⟨h, h2⟩ <;> first | exact h | exact absurd rfl h2 | exact absurd h2 (by decide)
              refine lv_if_ne (tgt := 116) hx hb dX3_readFrom_97 (by decide) (fun h => absurd (by decide) h) (fun _ => ?_)
              refine lv_aload_n hx hb dX3_readFrom_100 rfl (lv_at hl 2 rfl) ?_
              refine rw_i (D := D) (wr := [(u0, .inr (3, (fX3 u1 u2 r_3 (nI rc2_6) 0))), (aI k u1 24 rs2_6), (aI k u2 24 rb2_6)]) (va_runV (As := []) (rest := []) ⟨hx, hb, hml, hown, hts⟩ ((y_isAtEnd l D k st lo x0 x1 tz ta__20 na2_6 0 fb2_6 fx (by first | assumption | omega) (by first | assumption | omega)) H.size) (cwV 0 hts (gV tw_692 tw_372 tw_373 tw_80 tw_374) rfl rfl rfl (by decide +kernel) ⟨Nat.le_of_ble_eq_true rfl, Nat.le_of_ble_eq_true rfl⟩) (pV hS hAlo hlo hP hK (va_Dlo hD hAlo) hZ [3, 4] (by decide) rfl (ci := 6) (q := (RX6, TX6, 6)) (q0 := 0) rfl rfl) rfl rfl hl.1 rfl (lv_room (Nat.le_of_ble_eq_true rfl)) dX3_readFrom_101 ⟨Nat.le_of_ble_eq_true rfl, Nat.le_of_ble_eq_true rfl⟩) hS hA hP hD [3, 4] [0, 1, 2] rfl rfl (by decide) (by decide) (fun r_34 u H locs hw_34 hP hD hS => ?_)
              obtain ⟨ta__34, rfl⟩ : ∃ z, z = u := ⟨_, rfl⟩
              replace hP : va_P D classes [(u0, .inr (3, (fX3 u1 u2 r_3 (nI rc2_6) 0))), (aI k u1 24 rs2_6), (aI k u2 24 rb2_6), (x0, .inr (6, (fX6 x1 (nI tz) (nI ta__34) na2_6 0 fb2_6))), (aB k x1 240 fx)] H := hP
              replace hD : va_D A [(u0, .inr (3, (fX3 u1 u2 r_3 (nI rc2_6) 0))), (aI k u1 24 rs2_6), (aI k u2 24 rb2_6), (x0, .inr (6, (fX6 x1 (nI tz) (nI ta__34) na2_6 0 fb2_6))), (aB k x1 240 fx)] := hD
              try dsimp only at hw_34
              rcases hw_34 with ⟨⟨rfl, hz_34⟩ | ⟨rfl, hz_34⟩, hw_34⟩
              · refine lv_if_ne (tgt := 116) hx hb dX3_readFrom_104 (by decide) (fun _ => ?_) (fun h => absurd h (by decide))
                have hP9 := hP.sub (ws' := [(u0, .inr (3, (fX3 u1 u2 r_3 (nI rc2_6) 0))), (aI k u1 24 rs2_6), (aI k u2 24 rb2_6), (x0, .inr (6, (fX6 x1 (nI tz) (nI ta__34) na2_6 0 fb2_6))), (aB k x1 240 fx)]) [0, 1, 2, 3, 4] rfl
                have hD9 := hD.sub (ws' := [(u0, .inr (3, (fX3 u1 u2 r_3 (nI rc2_6) 0))), (aI k u1 24 rs2_6), (aI k u2 24 rb2_6), (x0, .inr (6, (fX6 x1 (nI tz) (nI ta__34) na2_6 0 fb2_6))), (aB k x1 240 fx)]) [0, 1, 2, 3, 4] (by decide) rfl
                exact W.vret hx hb hr (fun t ht hW => ⟨⟨(r_3, rc2_6, 0, rs2_6, rb2_6, ta__34, na2_6, 0, fb2_6), rfl, ⟨.inl ⟨rfl, rf_o hH_5 (((rl_no hL_16).symm.trans hst_14).symm.trans (by rw [ro_0o hL_21 (show ¬ skA (bF fx) tz ta2_6 < tz by rw [← skA_idem, ← hT_21, ← hw_34.1]; omega)]; rfl)), by omega⟩, by omega, by omega, by omega⟩, by rw [ht]; exact hP9, hD9⟩, hS.F ht⟩) hS.2.2 dX3_readFrom_116
              · refine lv_if_ne (tgt := 116) hx hb dX3_readFrom_104 (by decide) (fun h => absurd (by decide) h) (fun _ => ?_)
                refine lv_aload_n hx hb dX3_readFrom_107 rfl (lv_at hl 2 rfl) ?_
                refine lv_iconst (v := 1) hx hb dX3_readFrom_108 (by decide) ?_
                refine lv_aload_n hx hb dX3_readFrom_109 rfl (lv_at hl 2 rfl) ?_
                refine va_get (D := D) (ci := 6) (v := .int (nI ta__34)) (C := RX6) (T := TX6) (N := 6) hx hb hts inX6 hown hK hP 3 rfl rfl 2 (by decide) (hts _ tw_114) (fun _ h9 => h9) rfl dX3_readFrom_110 ?_
                refine rw_v (D := D) (wr := [(u0, .inr (3, (fX3 u1 u2 r_3 (nI rc2_6) 0))), (aI k u1 24 rs2_6), (aI k u2 24 rb2_6), (aB k x1 240 fx)]) (va_runV (As := [.int 1, .int (nI ta__34)]) (rest := []) ⟨hx, hb, hml, hown, hts⟩ ((y_fail l D k st lo x0 x1 tz ta__34 na2_6 0 fb2_6 1 (nI ta__34) (by decide)) H.size) (cwV 2 hts (gV tw_689 tw_456 tw_457 tw_80 tw_458) rfl rfl rfl (by decide +kernel) ⟨Nat.le_of_ble_eq_true rfl, Nat.le_of_ble_eq_true rfl⟩) (pV hS hAlo hlo hP hK (va_Dlo hD hAlo) hZ [3] (by decide) rfl (ci := 6) (q := (RX6, TX6, 6)) (q0 := 0) rfl rfl) rfl rfl hl.1 rfl (lv_room (Nat.le_of_ble_eq_true rfl)) dX3_readFrom_113 ⟨Nat.le_of_ble_eq_true rfl, Nat.le_of_ble_eq_true rfl⟩) hS hA hP hD [3] [0, 1, 2, 4] rfl rfl (by decide) (by decide) (fun u H locs hw_35 hP hD hS => ?_)
                obtain ⟨fn__35, fb__35⟩ := u
                replace hP : va_P D classes [(u0, .inr (3, (fX3 u1 u2 r_3 (nI rc2_6) 0))), (aI k u1 24 rs2_6), (aI k u2 24 rb2_6), (aB k x1 240 fx), (x0, .inr (6, (fX6 x1 (nI tz) (nI ta__34) na2_6 fn__35 fb__35)))] H := hP
                replace hD : va_D A [(u0, .inr (3, (fX3 u1 u2 r_3 (nI rc2_6) 0))), (aI k u1 24 rs2_6), (aI k u2 24 rb2_6), (aB k x1 240 fx), (x0, .inr (6, (fX6 x1 (nI tz) (nI ta__34) na2_6 fn__35 fb__35)))] := hD
                try dsimp only at hw_35
                obtain ⟨hs0_36, hs1_36⟩ := hw_35.2.1 rfl
                replace hs0_36 := hs0_36.symm
                subst hs0_36
                replace hs1_36 := hs1_36.symm
                subst hs1_36
                have hP9 := hP.sub (ws' := [(u0, .inr (3, (fX3 u1 u2 r_3 (nI rc2_6) 0))), (aI k u1 24 rs2_6), (aI k u2 24 rb2_6), (x0, .inr (6, (fX6 x1 (nI tz) (nI ta__34) na2_6 1 (nI ta__34)))), (aB k x1 240 fx)]) [0, 1, 2, 4, 3] rfl
                have hD9 := hD.sub (ws' := [(u0, .inr (3, (fX3 u1 u2 r_3 (nI rc2_6) 0))), (aI k u1 24 rs2_6), (aI k u2 24 rb2_6), (x0, .inr (6, (fX6 x1 (nI tz) (nI ta__34) na2_6 1 (nI ta__34)))), (aB k x1 240 fx)]) [0, 1, 2, 4, 3] (by decide) rfl
                exact W.vret hx hb hr (fun t ht hW => ⟨⟨(r_3, rc2_6, 0, rs2_6, rb2_6, ta__34, na2_6, 1, (nI ta__34)), rfl, ⟨.inr ⟨1, ta__34, rfl, by decide, by decide, (rf_l (e := 1) (p := ta__34) hH_5 (by rw [((rl_no hL_16).symm.trans hst_14).symm, ro_0f hL_21 (show skA (bF fx) tz ta2_6 < tz by rw [← skA_idem, ← hT_21, ← hw_34.1]; omega)]) (by rw [((rl_no hL_16).symm.trans hst_14).symm, ro_0f hL_21 (show skA (bF fx) tz ta2_6 < tz by rw [← skA_idem, ← hT_21, ← hw_34.1]; omega)]; exact (by rw [hw_34.1, hT_21, skA_idem]))).1, (rf_l (e := 1) (p := ta__34) hH_5 (by rw [((rl_no hL_16).symm.trans hst_14).symm, ro_0f hL_21 (show skA (bF fx) tz ta2_6 < tz by rw [← skA_idem, ← hT_21, ← hw_34.1]; omega)]) (by rw [((rl_no hL_16).symm.trans hst_14).symm, ro_0f hL_21 (show skA (bF fx) tz ta2_6 < tz by rw [← skA_idem, ← hT_21, ← hw_34.1]; omega)]; exact (by rw [hw_34.1, hT_21, skA_idem]))).2, rfl⟩, by omega, by omega, by omega⟩, by rw [ht]; exact hP9, hD9⟩, hS.F ht⟩) hS.2.2 dX3_readFrom_116
    · refine va_put (D := D) (ci := 3) (v := .int r_3) (ty := .int) (C := RX3) (T := TX3) (N := 5) hx hb hts inX3 tyX3 tyX3_ok nmX3 hown hK hP hD hS 0 rfl rfl 2 (by decide) (hts _ tw_291) (fun _ h9 => h9) rfl (by decide +kernel) rfl rfl (Nat.le_of_ble_eq_true rfl) dX3_readFrom_24 (fun H locs hP hD hS => ?_)
      replace hP : va_P D classes [(u0, .inr (3, (fX3 u1 u2 r_3 0 0))), (aI k u1 24 rs), (aI k u2 24 rb), (x0, .inr (6, (fX6 x1 (nI tz) (nI ta__3) (nI nq_4) 1 (nI pl_4)))), (aB k x1 240 fx)] H := hP
      replace hD : va_D A [(u0, .inr (3, (fX3 u1 u2 r_3 0 0))), (aI k u1 24 rs), (aI k u2 24 rb), (x0, .inr (6, (fX6 x1 (nI tz) (nI ta__3) (nI nq_4) 1 (nI pl_4)))), (aB k x1 240 fx)] := hD
      have hH1_37 : (ruH (bF fx) tz ta).1 = 1 := by simp [ruH, hq_2, hq_4, -List.getD_eq_getElem?_getD]
      have hH2_37 : (ruH (bF fx) tz ta).2.1 = pl_4 := by simp [ruH, hq_2, hq_4, -List.getD_eq_getElem?_getD]
      refine lv_iconst (v := 0) hx hb dX3_readFrom_27 (by decide) ?_
      refine lv_istore_n (lv' := [(2, .int 0), (0, .ref u0), (1, .ref x0)]) hx hb dX3_readFrom_28 rfl hl (by decide) rfl (fun ls hl => ?_)
      refine lv_iload_n hx hb dX3_readFrom_29 rfl (lv_at hl 0 rfl) ?_
      refine lv_bipush (v := 24) hx hb dX3_readFrom_30 (by decide) ?_
      refine lv_icmp_ge (tgt := 62) hx hb dX3_readFrom_32 (by decide) (fun h => absurd h (by decide)) (fun _ => ?_)
      refine lv_aload_n hx hb dX3_readFrom_35 rfl (lv_at hl 2 rfl) ?_
      refine ro_i (D := D) (va_runV (As := []) (rest := []) ⟨hx, hb, hml, hown, hts⟩ ((x_failed l D k st lo x0 x1 tz ta__3 (nI nq_4) 1 (nI pl_4)) H.size) (cwV 0 hts (gV tw_682 tw_368 tw_369 tw_80 tw_370) rfl rfl rfl (by decide +kernel) ⟨Nat.le_of_ble_eq_true rfl, Nat.le_of_ble_eq_true rfl⟩) (pV hS hAlo hlo hP hK (va_Dlo hD hAlo) hZ [3] (by decide) rfl (ci := 6) (q := (RX6, TX6, 6)) (q0 := 0) rfl rfl) rfl rfl hl.1 rfl (lv_room (Nat.le_of_ble_eq_true rfl)) dX3_readFrom_36 ⟨Nat.le_of_ble_eq_true rfl, Nat.le_of_ble_eq_true rfl⟩) hS hA hP (fun r_38 H locs hw_38 hP hS => ?_)
      try dsimp only at hw_38
      obtain rfl : r_38 = 1 := by rcases hw_38 with ⟨h, h2⟩ | ⟨h, h2⟩ <;> first | exact h | exact absurd rfl h2 | exact absurd h2 (by decide)
      refine lv_if_ne (tgt := 62) hx hb dX3_readFrom_39 (by decide) (fun _ => ?_) (fun h => absurd h (by decide))
      refine lv_aload_n hx hb dX3_readFrom_62 rfl (lv_at hl 2 rfl) ?_
      refine ro_i (D := D) (va_runV (As := []) (rest := []) ⟨hx, hb, hml, hown, hts⟩ ((x_failed l D k st lo x0 x1 tz ta__3 (nI nq_4) 1 (nI pl_4)) H.size) (cwV 0 hts (gV tw_682 tw_368 tw_369 tw_80 tw_370) rfl rfl rfl (by decide +kernel) ⟨Nat.le_of_ble_eq_true rfl, Nat.le_of_ble_eq_true rfl⟩) (pV hS hAlo hlo hP hK (va_Dlo hD hAlo) hZ [3] (by decide) rfl (ci := 6) (q := (RX6, TX6, 6)) (q0 := 0) rfl rfl) rfl rfl hl.1 rfl (lv_room (Nat.le_of_ble_eq_true rfl)) dX3_readFrom_63 ⟨Nat.le_of_ble_eq_true rfl, Nat.le_of_ble_eq_true rfl⟩) hS hA hP (fun r_39 H locs hw_39 hP hS => ?_)
      try dsimp only at hw_39
      obtain rfl : r_39 = 1 := by rcases hw_39 with ⟨h, h2⟩ | ⟨h, h2⟩ <;> first | exact h | exact absurd rfl h2 | exact absurd h2 (by decide)
      refine lv_if_ne (tgt := 93) hx hb dX3_readFrom_66 (by decide) (fun _ => ?_) (fun h => absurd h (by decide))
      refine lv_aload_n hx hb dX3_readFrom_93 rfl (lv_at hl 2 rfl) ?_
      refine ro_i (D := D) (va_runV (As := []) (rest := []) ⟨hx, hb, hml, hown, hts⟩ ((x_failed l D k st lo x0 x1 tz ta__3 (nI nq_4) 1 (nI pl_4)) H.size) (cwV 0 hts (gV tw_682 tw_368 tw_369 tw_80 tw_370) rfl rfl rfl (by decide +kernel) ⟨Nat.le_of_ble_eq_true rfl, Nat.le_of_ble_eq_true rfl⟩) (pV hS hAlo hlo hP hK (va_Dlo hD hAlo) hZ [3] (by decide) rfl (ci := 6) (q := (RX6, TX6, 6)) (q0 := 0) rfl rfl) rfl rfl hl.1 rfl (lv_room (Nat.le_of_ble_eq_true rfl)) dX3_readFrom_94 ⟨Nat.le_of_ble_eq_true rfl, Nat.le_of_ble_eq_true rfl⟩) hS hA hP (fun r_40 H locs hw_40 hP hS => ?_)
      try dsimp only at hw_40
      obtain rfl : r_40 = 1 := by rcases hw_40 with ⟨h, h2⟩ | ⟨h, h2⟩ <;> first | exact h | exact absurd rfl h2 | exact absurd h2 (by decide)
      refine lv_if_ne (tgt := 116) hx hb dX3_readFrom_97 (by decide) (fun _ => ?_) (fun h => absurd h (by decide))
      have hP9 := hP.sub (ws' := [(u0, .inr (3, (fX3 u1 u2 r_3 0 0))), (aI k u1 24 rs), (aI k u2 24 rb), (x0, .inr (6, (fX6 x1 (nI tz) (nI ta__3) (nI nq_4) 1 (nI pl_4)))), (aB k x1 240 fx)]) [0, 1, 2, 3, 4] rfl
      have hD9 := hD.sub (ws' := [(u0, .inr (3, (fX3 u1 u2 r_3 0 0))), (aI k u1 24 rs), (aI k u2 24 rb), (x0, .inr (6, (fX6 x1 (nI tz) (nI ta__3) (nI nq_4) 1 (nI pl_4)))), (aB k x1 240 fx)]) [0, 1, 2, 3, 4] (by decide) rfl
      exact W.vret hx hb hr (fun t ht hW => ⟨⟨(r_3, 0, 0, rs, rb, ta__3, (nI nq_4), 1, (nI pl_4)), rfl, ⟨.inr ⟨1, pl_4, rfl, by decide, by decide, (rf_h hH1_37 (by decide) hH2_37).1, (rf_h hH1_37 (by decide) hH2_37).2, rfl⟩, by omega, by omega, by omega⟩, by rw [ht]; exact hP9, hD9⟩, hS.F ht⟩) hS.2.2 dX3_readFrom_116
    · refine va_put (D := D) (ci := 3) (v := .int r_3) (ty := .int) (C := RX3) (T := TX3) (N := 5) hx hb hts inX3 tyX3 tyX3_ok nmX3 hown hK hP hD hS 0 rfl rfl 2 (by decide) (hts _ tw_291) (fun _ h9 => h9) rfl (by decide +kernel) rfl rfl (Nat.le_of_ble_eq_true rfl) dX3_readFrom_24 (fun H locs hP hD hS => ?_)
      replace hP : va_P D classes [(u0, .inr (3, (fX3 u1 u2 r_3 0 0))), (aI k u1 24 rs), (aI k u2 24 rb), (x0, .inr (6, (fX6 x1 (nI tz) (nI ta__3) (nI nq_4) 2 (nI pl_4)))), (aB k x1 240 fx)] H := hP
      replace hD : va_D A [(u0, .inr (3, (fX3 u1 u2 r_3 0 0))), (aI k u1 24 rs), (aI k u2 24 rb), (x0, .inr (6, (fX6 x1 (nI tz) (nI ta__3) (nI nq_4) 2 (nI pl_4)))), (aB k x1 240 fx)] := hD
      have hH1_41 : (ruH (bF fx) tz ta).1 = 2 := by simp [ruH, hq_2, hq_4, -List.getD_eq_getElem?_getD]
      have hH2_41 : (ruH (bF fx) tz ta).2.1 = pl_4 := by simp [ruH, hq_2, hq_4, -List.getD_eq_getElem?_getD]
      refine lv_iconst (v := 0) hx hb dX3_readFrom_27 (by decide) ?_
      refine lv_istore_n (lv' := [(2, .int 0), (0, .ref u0), (1, .ref x0)]) hx hb dX3_readFrom_28 rfl hl (by decide) rfl (fun ls hl => ?_)
      refine lv_iload_n hx hb dX3_readFrom_29 rfl (lv_at hl 0 rfl) ?_
      refine lv_bipush (v := 24) hx hb dX3_readFrom_30 (by decide) ?_
      refine lv_icmp_ge (tgt := 62) hx hb dX3_readFrom_32 (by decide) (fun h => absurd h (by decide)) (fun _ => ?_)
      refine lv_aload_n hx hb dX3_readFrom_35 rfl (lv_at hl 2 rfl) ?_
      refine ro_i (D := D) (va_runV (As := []) (rest := []) ⟨hx, hb, hml, hown, hts⟩ ((x_failed l D k st lo x0 x1 tz ta__3 (nI nq_4) 2 (nI pl_4)) H.size) (cwV 0 hts (gV tw_682 tw_368 tw_369 tw_80 tw_370) rfl rfl rfl (by decide +kernel) ⟨Nat.le_of_ble_eq_true rfl, Nat.le_of_ble_eq_true rfl⟩) (pV hS hAlo hlo hP hK (va_Dlo hD hAlo) hZ [3] (by decide) rfl (ci := 6) (q := (RX6, TX6, 6)) (q0 := 0) rfl rfl) rfl rfl hl.1 rfl (lv_room (Nat.le_of_ble_eq_true rfl)) dX3_readFrom_36 ⟨Nat.le_of_ble_eq_true rfl, Nat.le_of_ble_eq_true rfl⟩) hS hA hP (fun r_42 H locs hw_42 hP hS => ?_)
      try dsimp only at hw_42
      obtain rfl : r_42 = 1 := by rcases hw_42 with ⟨h, h2⟩ | ⟨h, h2⟩ <;> first | exact h | exact absurd rfl h2 | exact absurd h2 (by decide)
      refine lv_if_ne (tgt := 62) hx hb dX3_readFrom_39 (by decide) (fun _ => ?_) (fun h => absurd h (by decide))
      refine lv_aload_n hx hb dX3_readFrom_62 rfl (lv_at hl 2 rfl) ?_
      refine ro_i (D := D) (va_runV (As := []) (rest := []) ⟨hx, hb, hml, hown, hts⟩ ((x_failed l D k st lo x0 x1 tz ta__3 (nI nq_4) 2 (nI pl_4)) H.size) (cwV 0 hts (gV tw_682 tw_368 tw_369 tw_80 tw_370) rfl rfl rfl (by decide +kernel) ⟨Nat.le_of_ble_eq_true rfl, Nat.le_of_ble_eq_true rfl⟩) (pV hS hAlo hlo hP hK (va_Dlo hD hAlo) hZ [3] (by decide) rfl (ci := 6) (q := (RX6, TX6, 6)) (q0 := 0) rfl rfl) rfl rfl hl.1 rfl (lv_room (Nat.le_of_ble_eq_true rfl)) dX3_readFrom_63 ⟨Nat.le_of_ble_eq_true rfl, Nat.le_of_ble_eq_true rfl⟩) hS hA hP (fun r_43 H locs hw_43 hP hS => ?_)
      try dsimp only at hw_43
      obtain rfl : r_43 = 1 := by rcases hw_43 with ⟨h, h2⟩ | ⟨h, h2⟩ <;> first | exact h | exact absurd rfl h2 | exact absurd h2 (by decide)
      refine lv_if_ne (tgt := 93) hx hb dX3_readFrom_66 (by decide) (fun _ => ?_) (fun h => absurd h (by decide))
      refine lv_aload_n hx hb dX3_readFrom_93 rfl (lv_at hl 2 rfl) ?_
      refine ro_i (D := D) (va_runV (As := []) (rest := []) ⟨hx, hb, hml, hown, hts⟩ ((x_failed l D k st lo x0 x1 tz ta__3 (nI nq_4) 2 (nI pl_4)) H.size) (cwV 0 hts (gV tw_682 tw_368 tw_369 tw_80 tw_370) rfl rfl rfl (by decide +kernel) ⟨Nat.le_of_ble_eq_true rfl, Nat.le_of_ble_eq_true rfl⟩) (pV hS hAlo hlo hP hK (va_Dlo hD hAlo) hZ [3] (by decide) rfl (ci := 6) (q := (RX6, TX6, 6)) (q0 := 0) rfl rfl) rfl rfl hl.1 rfl (lv_room (Nat.le_of_ble_eq_true rfl)) dX3_readFrom_94 ⟨Nat.le_of_ble_eq_true rfl, Nat.le_of_ble_eq_true rfl⟩) hS hA hP (fun r_44 H locs hw_44 hP hS => ?_)
      try dsimp only at hw_44
      obtain rfl : r_44 = 1 := by rcases hw_44 with ⟨h, h2⟩ | ⟨h, h2⟩ <;> first | exact h | exact absurd rfl h2 | exact absurd h2 (by decide)
      refine lv_if_ne (tgt := 116) hx hb dX3_readFrom_97 (by decide) (fun _ => ?_) (fun h => absurd h (by decide))
      have hP9 := hP.sub (ws' := [(u0, .inr (3, (fX3 u1 u2 r_3 0 0))), (aI k u1 24 rs), (aI k u2 24 rb), (x0, .inr (6, (fX6 x1 (nI tz) (nI ta__3) (nI nq_4) 2 (nI pl_4)))), (aB k x1 240 fx)]) [0, 1, 2, 3, 4] rfl
      have hD9 := hD.sub (ws' := [(u0, .inr (3, (fX3 u1 u2 r_3 0 0))), (aI k u1 24 rs), (aI k u2 24 rb), (x0, .inr (6, (fX6 x1 (nI tz) (nI ta__3) (nI nq_4) 2 (nI pl_4)))), (aB k x1 240 fx)]) [0, 1, 2, 3, 4] (by decide) rfl
      exact W.vret hx hb hr (fun t ht hW => ⟨⟨(r_3, 0, 0, rs, rb, ta__3, (nI nq_4), 2, (nI pl_4)), rfl, ⟨.inr ⟨2, pl_4, rfl, by decide, by decide, (rf_h hH1_41 (by decide) hH2_41).1, (rf_h hH1_41 (by decide) hH2_41).2, rfl⟩, by omega, by omega, by omega⟩, by rw [ht]; exact hP9, hD9⟩, hS.F ht⟩) hS.2.2 dX3_readFrom_116
  · refine lv_aload_n hx hb dX3_readFrom_16 rfl (lv_at hl 0 rfl) ?_
    refine lv_aload_n hx hb dX3_readFrom_17 rfl (lv_at hl 1 rfl) ?_
    refine lv_iconst (v := 0) hx hb dX3_readFrom_18 (by decide) ?_
    refine lv_bipush (v := 24) hx hb dX3_readFrom_19 (by decide) ?_
    refine rw_i (D := D) (wr := [(u0, .inr (3, (fX3 u1 u2 rf 0 0))), (aI k u1 24 rs), (aI k u2 24 rb)]) (va_runV (As := [.int 0, .int 24]) (rest := [.ref u0]) ⟨hx, hb, hml, hown, hts⟩ ((y_needNumber l D k st lo x0 x1 tz ta__1 na 1 (nI pl_2) fx 0 24 (by first | assumption | omega) (by first | assumption | omega) (by decide)) H.size) (cwV 2 hts (gV tw_681 tw_468 tw_469 tw_80 tw_470) rfl rfl rfl (by decide +kernel) ⟨Nat.le_of_ble_eq_true rfl, Nat.le_of_ble_eq_true rfl⟩) (pV hS hAlo hlo hP hK (va_Dlo hD hAlo) hZ [3, 4] (by decide) rfl (ci := 6) (q := (RX6, TX6, 6)) (q0 := 0) rfl rfl) rfl rfl hl.1 rfl (lv_room (Nat.le_of_ble_eq_true rfl)) dX3_readFrom_21 ⟨Nat.le_of_ble_eq_true rfl, Nat.le_of_ble_eq_true rfl⟩) hS hA hP hD [3, 4] [0, 1, 2] rfl rfl (by decide) (by decide) (fun r_45 u H locs hw_45 hP hD hS => ?_)
    obtain ⟨ta__45, na__45, fn__45, fb__45⟩ := u
    replace hP : va_P D classes [(u0, .inr (3, (fX3 u1 u2 rf 0 0))), (aI k u1 24 rs), (aI k u2 24 rb), (x0, .inr (6, (fX6 x1 (nI tz) (nI ta__45) na__45 fn__45 fb__45))), (aB k x1 240 fx)] H := hP
    replace hD : va_D A [(u0, .inr (3, (fX3 u1 u2 rf 0 0))), (aI k u1 24 rs), (aI k u2 24 rb), (x0, .inr (6, (fX6 x1 (nI tz) (nI ta__45) na__45 fn__45 fb__45))), (aB k x1 240 fx)] := hD
    try dsimp only at hw_45
    have hr_46 := (hw_45.1 (by decide)).1
    obtain ⟨hs0_47, hs1_47, hs2_47, hs3_47⟩ := (hw_45.1 (by decide)).2
    replace hs0_47 := hs0_47.symm
    subst hs0_47
    replace hs1_47 := hs1_47.symm
    subst hs1_47
    replace hs2_47 := hs2_47.symm
    subst hs2_47
    replace hs3_47 := hs3_47.symm
    subst hs3_47
    refine va_put (D := D) (ci := 3) (v := .int r_45) (ty := .int) (C := RX3) (T := TX3) (N := 5) hx hb hts inX3 tyX3 tyX3_ok nmX3 hown hK hP hD hS 0 rfl rfl 2 (by decide) (hts _ tw_291) (fun _ h9 => h9) rfl (by decide +kernel) rfl rfl (Nat.le_of_ble_eq_true rfl) dX3_readFrom_24 (fun H locs hP hD hS => ?_)
    replace hP : va_P D classes [(u0, .inr (3, (fX3 u1 u2 r_45 0 0))), (aI k u1 24 rs), (aI k u2 24 rb), (x0, .inr (6, (fX6 x1 (nI tz) (nI ta__1) na 1 (nI pl_2)))), (aB k x1 240 fx)] H := hP
    replace hD : va_D A [(u0, .inr (3, (fX3 u1 u2 r_45 0 0))), (aI k u1 24 rs), (aI k u2 24 rb), (x0, .inr (6, (fX6 x1 (nI tz) (nI ta__1) na 1 (nI pl_2)))), (aB k x1 240 fx)] := hD
    have hH1_48 : (ruH (bF fx) tz ta).1 = 1 := by simp [ruH, hq_2, -List.getD_eq_getElem?_getD]
    have hH2_48 : (ruH (bF fx) tz ta).2.1 = pl_2 := by simp [ruH, hq_2, -List.getD_eq_getElem?_getD]
    refine lv_iconst (v := 0) hx hb dX3_readFrom_27 (by decide) ?_
    refine lv_istore_n (lv' := [(2, .int 0), (0, .ref u0), (1, .ref x0)]) hx hb dX3_readFrom_28 rfl hl (by decide) rfl (fun ls hl => ?_)
    refine lv_iload_n hx hb dX3_readFrom_29 rfl (lv_at hl 0 rfl) ?_
    refine lv_bipush (v := 24) hx hb dX3_readFrom_30 (by decide) ?_
    refine lv_icmp_ge (tgt := 62) hx hb dX3_readFrom_32 (by decide) (fun h => absurd h (by decide)) (fun _ => ?_)
    refine lv_aload_n hx hb dX3_readFrom_35 rfl (lv_at hl 2 rfl) ?_
    refine ro_i (D := D) (va_runV (As := []) (rest := []) ⟨hx, hb, hml, hown, hts⟩ ((x_failed l D k st lo x0 x1 tz ta__1 na 1 (nI pl_2)) H.size) (cwV 0 hts (gV tw_682 tw_368 tw_369 tw_80 tw_370) rfl rfl rfl (by decide +kernel) ⟨Nat.le_of_ble_eq_true rfl, Nat.le_of_ble_eq_true rfl⟩) (pV hS hAlo hlo hP hK (va_Dlo hD hAlo) hZ [3] (by decide) rfl (ci := 6) (q := (RX6, TX6, 6)) (q0 := 0) rfl rfl) rfl rfl hl.1 rfl (lv_room (Nat.le_of_ble_eq_true rfl)) dX3_readFrom_36 ⟨Nat.le_of_ble_eq_true rfl, Nat.le_of_ble_eq_true rfl⟩) hS hA hP (fun r_49 H locs hw_49 hP hS => ?_)
    try dsimp only at hw_49
    obtain rfl : r_49 = 1 := by rcases hw_49 with ⟨h, h2⟩ | ⟨h, h2⟩ <;> first | exact h | exact absurd rfl h2 | exact absurd h2 (by decide)
    refine lv_if_ne (tgt := 62) hx hb dX3_readFrom_39 (by decide) (fun _ => ?_) (fun h => absurd h (by decide))
    refine lv_aload_n hx hb dX3_readFrom_62 rfl (lv_at hl 2 rfl) ?_
    refine ro_i (D := D) (va_runV (As := []) (rest := []) ⟨hx, hb, hml, hown, hts⟩ ((x_failed l D k st lo x0 x1 tz ta__1 na 1 (nI pl_2)) H.size) (cwV 0 hts (gV tw_682 tw_368 tw_369 tw_80 tw_370) rfl rfl rfl (by decide +kernel) ⟨Nat.le_of_ble_eq_true rfl, Nat.le_of_ble_eq_true rfl⟩) (pV hS hAlo hlo hP hK (va_Dlo hD hAlo) hZ [3] (by decide) rfl (ci := 6) (q := (RX6, TX6, 6)) (q0 := 0) rfl rfl) rfl rfl hl.1 rfl (lv_room (Nat.le_of_ble_eq_true rfl)) dX3_readFrom_63 ⟨Nat.le_of_ble_eq_true rfl, Nat.le_of_ble_eq_true rfl⟩) hS hA hP (fun r_50 H locs hw_50 hP hS => ?_)
    try dsimp only at hw_50
    obtain rfl : r_50 = 1 := by rcases hw_50 with ⟨h, h2⟩ | ⟨h, h2⟩ <;> first | exact h | exact absurd rfl h2 | exact absurd h2 (by decide)
    refine lv_if_ne (tgt := 93) hx hb dX3_readFrom_66 (by decide) (fun _ => ?_) (fun h => absurd h (by decide))
    refine lv_aload_n hx hb dX3_readFrom_93 rfl (lv_at hl 2 rfl) ?_
    refine ro_i (D := D) (va_runV (As := []) (rest := []) ⟨hx, hb, hml, hown, hts⟩ ((x_failed l D k st lo x0 x1 tz ta__1 na 1 (nI pl_2)) H.size) (cwV 0 hts (gV tw_682 tw_368 tw_369 tw_80 tw_370) rfl rfl rfl (by decide +kernel) ⟨Nat.le_of_ble_eq_true rfl, Nat.le_of_ble_eq_true rfl⟩) (pV hS hAlo hlo hP hK (va_Dlo hD hAlo) hZ [3] (by decide) rfl (ci := 6) (q := (RX6, TX6, 6)) (q0 := 0) rfl rfl) rfl rfl hl.1 rfl (lv_room (Nat.le_of_ble_eq_true rfl)) dX3_readFrom_94 ⟨Nat.le_of_ble_eq_true rfl, Nat.le_of_ble_eq_true rfl⟩) hS hA hP (fun r_51 H locs hw_51 hP hS => ?_)
    try dsimp only at hw_51
    obtain rfl : r_51 = 1 := by rcases hw_51 with ⟨h, h2⟩ | ⟨h, h2⟩ <;> first | exact h | exact absurd rfl h2 | exact absurd h2 (by decide)
    refine lv_if_ne (tgt := 116) hx hb dX3_readFrom_97 (by decide) (fun _ => ?_) (fun h => absurd h (by decide))
    have hP9 := hP.sub (ws' := [(u0, .inr (3, (fX3 u1 u2 r_45 0 0))), (aI k u1 24 rs), (aI k u2 24 rb), (x0, .inr (6, (fX6 x1 (nI tz) (nI ta__1) na 1 (nI pl_2)))), (aB k x1 240 fx)]) [0, 1, 2, 3, 4] rfl
    have hD9 := hD.sub (ws' := [(u0, .inr (3, (fX3 u1 u2 r_45 0 0))), (aI k u1 24 rs), (aI k u2 24 rb), (x0, .inr (6, (fX6 x1 (nI tz) (nI ta__1) na 1 (nI pl_2)))), (aB k x1 240 fx)]) [0, 1, 2, 3, 4] (by decide) rfl
    exact W.vret hx hb hr (fun t ht hW => ⟨⟨(r_45, 0, 0, rs, rb, ta__1, na, 1, (nI pl_2)), rfl, ⟨.inr ⟨1, pl_2, rfl, by decide, by decide, (rf_h hH1_48 (by decide) hH2_48).1, (rf_h hH1_48 (by decide) hH2_48).2, rfl⟩, by omega, by omega, by omega⟩, by rw [ht]; exact hP9, hD9⟩, hS.F ht⟩) hS.2.2 dX3_readFrom_116


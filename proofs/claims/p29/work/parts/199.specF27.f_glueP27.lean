theorem f_glueP27 : True := trivial
/-! which of two streets it is, by what was seen -/
def pLk (d : SDt) (i : Nat) (a x : Int32) : Int32 := if x = 1 then pChance d i a else 100 - pChance d i a
def pAhd (f : Nat → Int32) (i : Nat) : Int32 := if i = 0 then 0 else b11 (f (i - 1))
def thA (w : Int64) (l : Int32) : Int64 := w * l.toInt64 / 100
def thG (w v : Int64) : Int64 := if v < w then w else v
def thS (x : Int64 × Int64) (la lb : Int32) : Int64 × Int64 := if 0 < thG (thA x.1 la) (thA x.2 lb) then (thA x.1 la * 1000000 / thG (thA x.1 la) (thA x.2 lb), thA x.2 lb * 1000000 / thG (thA x.1 la) (thA x.2 lb)) else (thA x.1 la, thA x.2 lb)
def thN (d e : SDt) (f : Nat → Int32) : Nat → Int64 × Int64
  | 0 => (500000, 500000)
  | i + 1 => thS (thN d e f i) (pLk d i (pAhd f i) (f i)) (pLk e i (pAhd f i) (f i))
def thZ (x : Int64 × Int64) : Int32 := if x.1 + x.2 = 0 then 0 else (x.1 * 1000000 / (x.1 + x.2)).toInt32
def thR (d e : SDt) (f : Nat → Int32) (z : Nat) : Int32 := thZ (thN d e f (min z (min d.1 e.1)))
def mB (w : Int64) : Prop := ∃ a : Nat, a ≤ 1000000 ∧ w.toInt = (a : Int)
theorem thA_b {w : Int64} {l : Int32} (h : mB w) (hl : inB l 0 100) : mB (thA w l) := by
  obtain ⟨a, ha, ea⟩ := h
  obtain ⟨b, hb, eb⟩ : ∃ b : Nat, b ≤ 100 ∧ l.toInt = (b : Int) := by
    have h1 := Int32.le_iff_toInt_le.mp hl.1
    have h2 := Int32.le_iff_toInt_le.mp hl.2
    have e0 : (0 : Int32).toInt = 0 := by decide
    have e1 : (100 : Int32).toInt = 100 := by decide
    exact ⟨l.toInt.toNat, by omega, by omega⟩
  have hm : a * b ≤ 1000000 * 100 := Nat.mul_le_mul ha hb
  have ep : (w * l.toInt64).toInt = ((a * b : Nat) : Int) := by
    rw [Int64.toInt_mul, Int32.toInt_toInt64, ea, eb, ← Int.natCast_mul]
    exact Int.bmod_eq_of_le (by omega) (by omega)
  refine ⟨a * b / 100, by omega, ?_⟩
  show (w * l.toInt64 / 100).toInt = _
  rw [Int64.toInt_div_of_ne_right _ _ (by decide), ep, show (100 : Int64).toInt = ((100 : Nat) : Int) by decide]
  rfl
theorem thD_b {w g : Int64} {a c : Nat} (ea : w.toInt = (a : Int)) (ec : g.toInt = (c : Int)) (h : a ≤ c) (hc : c ≤ 1000000) (h0 : 0 < c) : mB (w * 1000000 / g) := by
  have hm : a * 1000000 ≤ c * 1000000 := Nat.mul_le_mul_right _ h
  have ep : (w * 1000000).toInt = ((a * 1000000 : Nat) : Int) := by
    rw [Int64.toInt_mul, ea, show (1000000 : Int64).toInt = ((1000000 : Nat) : Int) by decide, ← Int.natCast_mul]
    exact Int.bmod_eq_of_le (by omega) (by omega)
  have e1 : (-1 : Int64).toInt = -1 := by decide
  refine ⟨a * 1000000 / c, Nat.le_trans (Nat.div_le_div_right hm) (Nat.le_of_eq (Nat.mul_div_cancel_left _ h0)), ?_⟩
  rw [Int64.toInt_div_of_ne_right _ _ (fun e => by rw [e, e1] at ec; omega), ep, ec]
  rfl
theorem thS_b {x : Int64 × Int64} {la lb : Int32} (h : mB x.1 ∧ mB x.2) (ha : inB la 0 100) (hb : inB lb 0 100) : mB (thS x la lb).1 ∧ mB (thS x la lb).2 := by
  have h1 := thA_b h.1 ha
  have h2 := thA_b h.2 hb
  unfold thS
  by_cases c : 0 < thG (thA x.1 la) (thA x.2 lb)
  · rw [if_pos c]
    obtain ⟨a, a1, ea⟩ := h1
    obtain ⟨b, b1, eb⟩ := h2
    have k := Int64.lt_iff_toInt_lt.mp c
    have e0 : (0 : Int64).toInt = 0 := by decide
    obtain ⟨g, hg1, hg2, hg3, eg⟩ : ∃ g : Nat, a ≤ g ∧ b ≤ g ∧ g ≤ 1000000 ∧ (thG (thA x.1 la) (thA x.2 lb)).toInt = (g : Int) := by
      unfold thG
      by_cases q : thA x.2 lb < thA x.1 la
      · have q1 := Int64.lt_iff_toInt_lt.mp q
        rw [if_pos q]
        exact ⟨a, by omega, by omega, a1, ea⟩
      · have q1 : ¬ (thA x.2 lb).toInt < (thA x.1 la).toInt := fun z => q (Int64.lt_iff_toInt_lt.mpr z)
        rw [if_neg q]
        exact ⟨b, by omega, by omega, b1, eb⟩
    rw [eg, e0] at k
    exact ⟨thD_b ea eg hg1 hg3 (by omega), thD_b eb eg hg2 hg3 (by omega)⟩
  · rw [if_neg c]
    exact ⟨h1, h2⟩
theorem pCl_b {v : Int32} : inB (pCl v) 0 100 := by
  unfold pCl
  by_cases h : 0 ≤ v
  · rw [if_pos h]
    by_cases g : v ≤ 100
    · rw [if_pos g]
      exact ⟨h, g⟩
    · rw [if_neg g]
      exact ⟨by decide, by decide⟩
  · rw [if_neg h]
    exact ⟨by decide, by decide⟩
theorem pLk_b {d : SDt} {i : Nat} {a x : Int32} : inB (pLk d i a x) 0 100 := by
  have h : inB (pChance d i a) 0 100 := pCl_b
  unfold pLk
  by_cases c : x = 1
  · rw [if_pos c]
    exact h
  · rw [if_neg c]
    have h1 := Int32.le_iff_toInt_le.mp h.1
    have h2 := Int32.le_iff_toInt_le.mp h.2
    have e0 : (0 : Int32).toInt = 0 := by decide
    have e1 : (100 : Int32).toInt = 100 := by decide
    have e : (100 - pChance d i a).toInt = 100 - (pChance d i a).toInt := by
      rw [Int32.toInt_sub, e1]
      exact Int.bmod_eq_of_le (by omega) (by omega)
    exact ⟨Int32.le_iff_toInt_le.mpr (by omega), Int32.le_iff_toInt_le.mpr (by omega)⟩
theorem thN_b {d e : SDt} {f : Nat → Int32} : ∀ i, mB (thN d e f i).1 ∧ mB (thN d e f i).2 := by
  intro i
  induction i with
  | zero => exact ⟨⟨500000, by decide, (by decide : (500000 : Int64).toInt = ((500000 : Nat) : Int))⟩, ⟨500000, by decide, (by decide : (500000 : Int64).toInt = ((500000 : Nat) : Int))⟩⟩
  | succ i ih => exact thS_b ih pLk_b pLk_b
theorem lgle0 {x : Int64} (h : lg_cmp x 0 ≤ 0) : ¬ 0 < x := fun q => absurd h (Int32.not_le.mpr ((lg_cmp_gt _ _).mpr q))
theorem lggt0 {x : Int64} (h : ¬ lg_cmp x 0 ≤ 0) : 0 < x := (lg_cmp_gt _ _).mp (Int32.not_le.mp h)
theorem thg_le {a b : Int64} (c : lg_cmp a b ≤ 0) : b = thG a b := (if_neg (fun q => absurd c (Int32.not_le.mpr ((lg_cmp_gt _ _).mpr q)))).symm
theorem thg_gt {a b : Int64} (c : ¬ lg_cmp a b ≤ 0) : a = thG a b := (if_pos ((lg_cmp_gt _ _).mp (Int32.not_le.mp c))).symm
theorem th_pos {x : Int64 × Int64} {la lb : Int32} {a b g p q w v : Int64} (ha : a = thA x.1 la) (hb : b = thA x.2 lb) (hg : g = thG a b) (c : ¬ lg_cmp g 0 ≤ 0) (hp : p = a * 1000000) (hw : w = p / g) (hq : q = b * 1000000) (hv : v = q / g) : w = (thS x la lb).1 ∧ v = (thS x la lb).2 := by
  have c1 := lggt0 c
  rw [hw, hv, hp, hq]
  rw [hg] at c1 ⊢
  rw [ha, hb] at c1 ⊢
  unfold thS
  rw [if_pos c1]
  exact ⟨rfl, rfl⟩
theorem th_neg {x : Int64 × Int64} {la lb : Int32} {a b g : Int64} (ha : a = thA x.1 la) (hb : b = thA x.2 lb) (hg : g = thG a b) (c : lg_cmp g 0 ≤ 0) : a = (thS x la lb).1 ∧ b = (thS x la lb).2 := by
  have c1 := lgle0 c
  rw [hg] at c1
  rw [ha, hb] at c1
  unfold thS
  rw [if_neg c1]
  exact ⟨ha, hb⟩
theorem th_sum {d e : SDt} {f : Nat → Int32} {i : Nat} (c : ¬ 0 < (thN d e f i).1 + (thN d e f i).2) : (thN d e f i).1 + (thN d e f i).2 = 0 := by
  obtain ⟨⟨a, a1, ea⟩, ⟨b, b1, eb⟩⟩ := thN_b (d := d) (e := e) (f := f) i
  have e0 : (0 : Int64).toInt = 0 := by decide
  have es : ((thN d e f i).1 + (thN d e f i).2).toInt = (a : Int) + (b : Int) := by
    rw [Int64.toInt_add, ea, eb]
    exact Int.bmod_eq_of_le (by omega) (by omega)
  have c1 : ¬ (0 : Int64).toInt < ((thN d e f i).1 + (thN d e f i).2).toInt := fun z => c (Int64.lt_iff_toInt_lt.mpr z)
  rw [es, e0] at c1
  exact Int64.toInt_inj.mp (by rw [es, e0]; omega)
theorem thR_0 {d e : SDt} {f : Nat → Int32} {z i : Nat} {w v s : Int64} (hi : i = min z (min d.1 e.1)) (hw : w = (thN d e f i).1) (hv : v = (thN d e f i).2) (hs : s = w + v) (c : lg_cmp s 0 ≤ 0) : (0 : Int32) = thR d e f z := by
  have c1 := lgle0 c
  rw [hs, hw, hv] at c1
  unfold thR thZ
  rw [← hi, if_pos (th_sum c1)]
theorem thR_1 {d e : SDt} {f : Nat → Int32} {z i : Nat} {w v s p q : Int64} {r : Int32} (hi : i = min z (min d.1 e.1)) (hw : w = (thN d e f i).1) (hv : v = (thN d e f i).2) (hs : s = w + v) (c : ¬ lg_cmp s 0 ≤ 0) (hp : p = w * 1000000) (hq : q = p / s) (hr : r = q.toInt32) : r = thR d e f z := by
  have c1 := lggt0 c
  rw [hr, hq, hp]
  rw [hs] at c1 ⊢
  rw [hw, hv] at c1 ⊢
  unfold thR thZ
  rw [← hi, if_neg (fun z => by rw [z] at c1; exact absurd c1 (by decide))]
theorem thM_0 {d e : SDt} {f : Nat → Int32} {z i : Nat} {w v s : Int64} (hi : i = min z (min d.1 e.1)) (hw : w = (thN d e f i).1) (hv : v = (thN d e f i).2) (hs : s = w + v) (c : lg_cmp s 0 = 0) : (0 : Int32) = thR d e f z := by
  have c1 := lgc0 c
  rw [hs, hw, hv] at c1
  unfold thR thZ
  rw [← hi, if_pos c1]
theorem thM_1 {d e : SDt} {f : Nat → Int32} {z i : Nat} {w v s t p q : Int64} {r : Int32} (hi : i = min z (min d.1 e.1)) (hw : w = (thN d e f i).1) (hv : v = (thN d e f i).2) (hs : s = w + v) (c : ¬ lg_cmp s 0 = 0) (ht : t = w + v) (hp : p = w * 1000000) (hq : q = p / t) (hr : r = q.toInt32) : r = thR d e f z := by
  have c1 := lgn c
  rw [hr, hq, hp, ht]
  rw [hs] at c1
  rw [hw, hv] at c1 ⊢
  unfold thR thZ
  rw [← hi, if_neg c1]
theorem ahd_1 {f : Nat → Int32} {i : Nat} (h : f i = 1) : (1 : Int32) = pAhd f (i + 1) := by
  unfold pAhd b11
  rw [if_neg (by omega), Nat.add_sub_cancel, if_pos h]
theorem ahd_0 {f : Nat → Int32} {i : Nat} (h : ¬ f i = 1) : (0 : Int32) = pAhd f (i + 1) := by
  unfold pAhd b11
  rw [if_neg (by omega), Nat.add_sub_cancel, if_neg h]
theorem thh_1 {f : Nat → Int32} {i : Nat} (h0 : 0 < i) (h : f (i - 1) = 1) : (1 : Int32) = pAhd f i := by
  unfold pAhd b11
  rw [if_neg (by omega), if_pos h]
theorem thh_0 {f : Nat → Int32} {i : Nat} (h0 : 0 < i) (h : f (i - 1) = 0) : (0 : Int32) = pAhd f i := by
  unfold pAhd b11
  rw [if_neg (by omega), h, if_neg (by decide)]
theorem thh_z {f : Nat → Int32} {i : Nat} (h : i = 0) : (0 : Int32) = pAhd f i := by
  unfold pAhd
  rw [if_pos h]
def thP (sd : Nat → SDt) (p0 p1 : Int32) (f : Nat → Int32) (z : Nat) (r : Int32) : Prop := ((∀ s t, s < 3 → t < 3 → p0 = nI s → p1 = nI t → ¬ (0 < (sd s).1 ∧ 0 < (sd t).1)) → r = -1001) ∧ ∀ s t, s < 3 → t < 3 → p0 = nI s → p1 = nI t → 0 < (sd s).1 → 0 < (sd t).1 → r = thR (sd s) (sd t) f z
theorem thP_fun {sd se : Nat → SDt} {p0 p1 r q : Int32} {f : Nat → Int32} {z : Nat} (h : thP sd p0 p1 f z r) (g : thP se p0 p1 f z q) (e : ∀ i, i < 3 → sd i = se i) : r = q := by
  rcases Classical.em (∃ s t, s < 3 ∧ t < 3 ∧ p0 = nI s ∧ p1 = nI t ∧ 0 < (sd s).1 ∧ 0 < (sd t).1) with ⟨s, t, h1, h2, h3, h4, h5, h6⟩ | hn
  · have a := h.2 s t h1 h2 h3 h4 h5 h6
    have b := g.2 s t h1 h2 h3 h4 (by rw [← e s h1]; exact h5) (by rw [← e t h2]; exact h6)
    rw [a, b, e s h1, e t h2]
  · have a := h.1 (fun s t h1 h2 h3 h4 h5 => hn ⟨s, t, h1, h2, h3, h4, h5.1, h5.2⟩)
    have b := g.1 (fun s t h1 h2 h3 h4 h5 => hn ⟨s, t, h1, h2, h3, h4, by rw [e s h1]; exact h5.1, by rw [e t h2]; exact h5.2⟩)
    exact a.trans b.symm
theorem th_no0 {sd : Nat → SDt} {p0 p1 : Int32} {f : Nat → Int32} {z : Nat} (h : ∀ s, s < 3 → p0 = nI s → ¬ 0 < (sd s).1) : thP sd p0 p1 f z (-1001) := ⟨fun _ => rfl, fun s t h1 _ h3 _ h5 _ => absurd h5 (h s h1 h3)⟩
theorem th_no1 {sd : Nat → SDt} {p0 p1 : Int32} {f : Nat → Int32} {z : Nat} (h : ∀ s, s < 3 → p1 = nI s → ¬ 0 < (sd s).1) : thP sd p0 p1 f z (-1001) := ⟨fun _ => rfl, fun s t _ h2 _ h4 _ h6 => absurd h6 (h t h2 h4)⟩
theorem th_at {sd : Nat → SDt} {s t : Nat} {r : Int32} {f : Nat → Int32} {z : Nat} (hs : s < 3) (ht : t < 3) (h1 : 0 < (sd s).1) (h2 : 0 < (sd t).1) (h : r = thR (sd s) (sd t) f z) : thP sd (nI s) (nI t) f z r := by
  refine ⟨fun q => absurd ⟨h1, h2⟩ (q s t hs ht rfl rfl), fun a b a1 b1 a2 b2 _ _ => ?_⟩
  have := nI_inj (by omega) (by omega) a2
  subst this
  have := nI_inj (by omega) (by omega) b2
  subst this
  exact h


def fX_lk (g : Nat → Int32) (ff : Nat → Int32) (i : Nat) (p1 : Int32) (p2 : Int32) : Int32 := (if p2 = 0 then (100 - (fX_chance g ff i p1)) else (fX_chance g ff i p1))
set_option maxHeartbeats 4000000 in
set_option maxRecDepth 100000 in
theorem y_likelihood (l : Launch) (D : va_G) (k : Nat → ClassId) (st : Nat → Nat) (lo : Nat) (h0 : Nat) (h1 : Nat) (h2 : Nat) (h3 : Nat) (h4 : Nat) (n : Nat) (see : Nat) (tm : Nat) (g : Nat → Int32) (ff : Nat → Int32) (i : Nat) (p1 : Int32) (p2 : Int32) (hi : i < 24) : CRi l D k st lo yX2_likelihood cX2_likelihood 5 (some .int) ({ frames := 2, cells := 0, slots := 0, locals := 83 }) [.ref h0, .int (nI i), .int p1, .int p2] [(h0, .inr (5, (fX5 h1 h2 h3 h4))), (aI k h1 10 (vv n see tm g)), (aI k h2 24 ff)] (fun r => r = fX_lk g ff i p1 p2) := by
  intro sz
  refine Met.ofW (cc := cX2_likelihood) (maxL := 5) (ret := (some .int)) (by decide) rfl ?_
  intro p e s m args below meth c s₁ B hml hv
  obtain ⟨rfl, hsz, hlo, hP, hK, hDL, hZ⟩ := hv
  have hx := B.exec
  have hb := B.bytes
  have hr := B.returns
  have hts := WS_ts B.pre
  have hown : s.vm.findClass RX2 = some m.cls := findClass_of_methodNamed B.named
  have hlocks := B.notSynchronized
  subst hsz
  have hA : ∀ q : Nat, s.heap.size ≤ q → (fun q : Nat => s.heap.size ≤ q) q := fun _ h => h
  have hAlo : ∀ q : Nat, (fun q : Nat => s.heap.size ≤ q) q → lo ≤ q := fun q h => Nat.le_trans hlo h
  have hS : va_S (fun q : Nat => s.heap.size ≤ q) s.heap s.heap [] := va_S.rf
  have hl := lv_entry ([.ref h0, .int (nI i), .int p1, .int p2]) (n := 5) (Nat.le_of_ble_eq_true rfl)
  rw [lg_entry_eq]
  generalize (lg_sl ([.ref h0, .int (nI i), .int p1, .int p2]) ++ List.replicate (5 - (lg_sl ([.ref h0, .int (nI i), .int p1, .int p2])).length) Slot.unset).toArray = ls at hl ⊢
  have hl : lv_has ls 5 [(0, .ref h0), (1, .int (nI i)), (2, .int p1), (3, .int p2)] := hl
  refine lv_aload_n hx hb dX2_likelihood_0 rfl (lv_at hl 0 rfl) ?_
  refine lv_iload_n hx hb dX2_likelihood_1 rfl (lv_at hl 1 rfl) ?_
  refine lv_iload_n hx hb dX2_likelihood_2 rfl (lv_at hl 2 rfl) ?_
  refine ro_i (D := D) (va_runV (As := [.int (nI i), .int p1]) (rest := []) ⟨hx, hb, hml, hown, hts⟩ ((y_chanceOf l D k st lo h0 h1 h2 h3 h4 n see tm g ff i p1 (by first | assumption | omega)) s.heap.size) (cwV 2 hts (gV tw_733 tw_565 tw_566 tw_81 tw_567) rfl rfl rfl (by decide +kernel) ⟨Nat.le_of_ble_eq_true rfl, Nat.le_of_ble_eq_true rfl⟩) (pV hS hAlo hlo hP hK hDL hZ [0, 1, 2] (by decide) rfl (ci := 5) (q := (RX5, TX5, 4)) (q0 := 0) rfl rfl) rfl rfl hl.1 rfl (lv_room (Nat.le_of_ble_eq_true rfl)) dX2_likelihood_3 ⟨Nat.le_of_ble_eq_true rfl, Nat.le_of_ble_eq_true rfl⟩) hS hA hP (fun r_1 H locs hw_1 hP hS => ?_)
  try dsimp only at hw_1
  refine lv_istore (lv' := [(4, .int r_1), (0, .ref h0), (1, .int (nI i)), (2, .int p1), (3, .int p2)]) hx hb dX2_likelihood_6 hl (by decide) rfl (fun ls hl => ?_)
  refine lv_iload_n hx hb dX2_likelihood_8 rfl (lv_at hl 4 rfl) ?_
  refine W_join (fun (x_4 : Int32) (H : Heap) (locs : List Loc) (ls : Array Slot) => x_4 = (if p2 = 0 then (100 - r_1) else r_1) ∧ va_P D classes [(h0, .inr (5, (fX5 h1 h2 h3 h4))), (aI k h1 10 (vv n see tm g)), (aI k h2 24 ff)] H ∧ va_S (fun q : Nat => s.heap.size ≤ q) s.heap H locs ∧ lv_has ls 5 [(4, .int r_1), (3, .int p2), (2, .int p1), (1, .int (nI i)), (0, .ref h0)]) (fun (x_4 : Int32) => [.int x_4]) 22 (fun x_4 H locs ls hJ => ?_) (fun J_4 => ?_)
  · obtain ⟨hj_4, hP, hS, hl⟩ := hJ
    show W p l e _ s m _ below meth c H locs _ _ _ (F0 m 22 ls [.int x_4])
    exact W.iret (v := x_4) hx hb hr (fun t ht hW => ⟨⟨x_4, (), rfl, (by show _ = fX_lk g ff i p1 p2; unfold fX_lk; first | (rw [hj_4, hw_1]; done) | (rw [hj_4, hw_1]; rfl) | (simp only [hj_4, hw_1]; done)), trivial⟩, hS.F ht⟩) hS.2.2 dX2_likelihood_22
  · refine lv_if_eq (tgt := 17) hx hb dX2_likelihood_9 (by decide) (fun c_5 => ?_) (fun c_5 => ?_)
    · refine lv_bipush (v := 100) hx hb dX2_likelihood_17 (by decide) ?_
      refine lv_iload hx hb dX2_likelihood_19 (lv_at hl 0 rfl) ?_
      refine lv_isub hx hb dX2_likelihood_21 ?_
      refine lv_topi (fun x_6 ex_6 => ?_)
      exact J_4 x_6 _ _ _ ⟨(by first | (rw [if_pos c_5, ex_6]; done) | (rw [if_pos c_5, ex_6]; rfl) | (simp only [if_pos c_5, ex_6]; done)), hP, hS, lv_sub hl [0, 4, 3, 2, 1] rfl⟩
    · refine lv_iload hx hb dX2_likelihood_12 (lv_at hl 0 rfl) ?_
      refine lv_goto (tgt := 22) hx hb dX2_likelihood_14 (by decide) ?_
      exact J_4 r_1 _ _ _ ⟨(by first | (rw [if_neg c_5]; done) | (rw [if_neg c_5]; rfl) | (simp only [if_neg c_5]; done)), hP, hS, lv_sub hl [0, 4, 3, 2, 1] rfl⟩


theorem f_xlk : True := trivial
theorem xLk1 {n see tm i : Nat} {g ff fp : Nat → Int32} {p y : Int32} (hi : i < n) (hb : inB (ff i) 0 100) (hy : y = 1) : fX_lk g ff i p 1 = pLk (sdX n see tm g ff fp) i p y := by
  unfold fX_lk pLk
  rw [if_neg (by decide), if_pos hy, xChance hi hb]
theorem xLk0 {n see tm i : Nat} {g ff fp : Nat → Int32} {p y : Int32} (hi : i < n) (hb : inB (ff i) 0 100) (hy : ¬ y = 1) : fX_lk g ff i p 0 = pLk (sdX n see tm g ff fp) i p y := by
  unfold fX_lk pLk
  rw [if_pos rfl, if_neg hy, xChance hi hb]


set_option maxHeartbeats 4000000 in
set_option maxRecDepth 100000 in
theorem y_thoughtOf1 (l : Launch) (D : va_G) (k : Nat → ClassId) (st : Nat → Nat) (lo : Nat) (y0 : Nat) (y1 : Nat) (y2 : Nat) (y3 : Nat) (wt : Int32) (wc : Int32) (h0 : Nat) (h1 : Nat) (h2 : Nat) (h3 : Nat) (h4 : Nat) (n : Nat) (see : Nat) (tm : Nat) (g : Nat → Int32) (ff : Nat → Int32) (fp : Nat → Int32) (c0 : Nat) (c1 : Nat) (c2 : Nat) (cc : Nat) (rz : Nat) (ro : Int32) (sd : Int32) (fr : Nat → Int32) (hn : n ≤ 24) (hrz : rz ≤ 24) (hro : ro = nI (rowN fr rz)) (hoka : okD (sdX n see tm g ff fp)) : CRi l D k st lo yX2_thoughtOf cX2_thoughtOf 14 (some .int) ({ frames := 3, cells := 0, slots := 0, locals := 107 }) [.ref y0, .ref h0, .ref h0, .ref c0] [(y0, .inr (2, (fX2 y1 y2 y3 wt wc))), (h0, .inr (5, (fX5 h1 h2 h3 h4))), (aI k h1 10 (vv n see tm g)), (aI k h2 24 ff), (aI k h3 24 fp), (c0, .inr (4, (fX4 c1 c2 (nI cc) (nI rz) ro sd)))] (fun r => r = thR (sdX n see tm g ff fp) (sdX n see tm g ff fp) fr rz) := by
  intro sz
  refine Met.ofW (cc := cX2_thoughtOf) (maxL := 14) (ret := (some .int)) (by decide) rfl ?_
  intro p e s m args below meth c s₁ B hml hv
  obtain ⟨rfl, hsz, hlo, hP, hK, hDL, hZ⟩ := hv
  have hx := B.exec
  have hb := B.bytes
  have hr := B.returns
  have hts := WS_ts B.pre
  have hown : s.vm.findClass RX2 = some m.cls := findClass_of_methodNamed B.named
  have hlocks := B.notSynchronized
  subst hsz
  have hA : ∀ q : Nat, s.heap.size ≤ q → (fun q : Nat => s.heap.size ≤ q) q := fun _ h => h
  have hAlo : ∀ q : Nat, (fun q : Nat => s.heap.size ≤ q) q → lo ≤ q := fun q h => Nat.le_trans hlo h
  have hS : va_S (fun q : Nat => s.heap.size ≤ q) s.heap s.heap [] := va_S.rf
  have hl := lv_entry ([.ref y0, .ref h0, .ref h0, .ref c0]) (n := 14) (Nat.le_of_ble_eq_true rfl)
  rw [lg_entry_eq]
  generalize (lg_sl ([.ref y0, .ref h0, .ref h0, .ref c0]) ++ List.replicate (14 - (lg_sl ([.ref y0, .ref h0, .ref h0, .ref c0])).length) Slot.unset).toArray = ls at hl ⊢
  have hl : lv_has ls 14 [(0, .ref y0), (1, .ref h0), (2, .ref h0), (3, .ref c0)] := hl
  refine lv_ldc2 hx hb hown (hts _ tw_769) dX2_thoughtOf_0 ?_
  refine lv_lstore (lv' := [(4, .long 500000), (0, .ref y0), (1, .ref h0), (2, .ref h0), (3, .ref c0)]) hx hb dX2_thoughtOf_3 hl (by decide) rfl (fun ls hl => ?_)
  refine lv_ldc2 hx hb hown (hts _ tw_769) dX2_thoughtOf_5 ?_
  refine lv_lstore (lv' := [(6, .long 500000), (4, .long 500000), (0, .ref y0), (1, .ref h0), (2, .ref h0), (3, .ref c0)]) hx hb dX2_thoughtOf_8 hl (by decide) rfl (fun ls hl => ?_)
  refine lv_aload_n hx hb dX2_thoughtOf_10 rfl (lv_at hl 5 rfl) ?_
  refine va_get (D := D) (ci := 4) (v := .int (nI rz)) (C := RX4) (T := TX4) (N := 6) hx hb hts inX4 hown hK hP 5 rfl rfl 3 (by decide) (hts _ tw_182) (fun _ h9 => h9) rfl dX2_thoughtOf_11 ?_
  refine lv_aload_n hx hb dX2_thoughtOf_14 rfl (lv_at hl 3 rfl) ?_
  refine ro_i (D := D) (va_runV (As := []) (rest := [.int (nI rz)]) ⟨hx, hb, hml, hown, hts⟩ ((x_doors l D k st lo h0 h1 h2 h3 h4 n see tm g) s.heap.size) (cwV 0 hts (gV tw_723 tw_478 tw_479 tw_81 tw_480) rfl rfl rfl (by decide +kernel) ⟨Nat.le_of_ble_eq_true rfl, Nat.le_of_ble_eq_true rfl⟩) (pV hS hAlo hlo hP hK hDL hZ [1, 2] (by decide) rfl (ci := 5) (q := (RX5, TX5, 4)) (q0 := 0) rfl rfl) rfl rfl hl.1 rfl (lv_room (Nat.le_of_ble_eq_true rfl)) dX2_thoughtOf_15 ⟨Nat.le_of_ble_eq_true rfl, Nat.le_of_ble_eq_true rfl⟩) hS hA hP (fun r_1 H locs hw_1 hP hS => ?_)
  try dsimp only at hw_1
  subst hw_1
  refine lv_aload_n hx hb dX2_thoughtOf_18 rfl (lv_at hl 4 rfl) ?_
  refine ro_i (D := D) (va_runV (As := []) (rest := [.int (nI n), .int (nI rz)]) ⟨hx, hb, hml, hown, hts⟩ ((x_doors l D k st lo h0 h1 h2 h3 h4 n see tm g) H.size) (cwV 0 hts (gV tw_723 tw_478 tw_479 tw_81 tw_480) rfl rfl rfl (by decide +kernel) ⟨Nat.le_of_ble_eq_true rfl, Nat.le_of_ble_eq_true rfl⟩) (pV hS hAlo hlo hP hK hDL hZ [1, 2] (by decide) rfl (ci := 5) (q := (RX5, TX5, 4)) (q0 := 0) rfl rfl) rfl rfl hl.1 rfl (lv_room (Nat.le_of_ble_eq_true rfl)) dX2_thoughtOf_19 ⟨Nat.le_of_ble_eq_true rfl, Nat.le_of_ble_eq_true rfl⟩) hS hA hP (fun r_2 H locs hw_2 hP hS => ?_)
  try dsimp only at hw_2
  subst hw_2
  refine va_mmin hx hb (by rw [hml]; exact hl.1.symm) hown (hts _ tw_770) (hts _ tw_529) (hts _ tw_93) (hts _ tw_530) (Nat.le_of_ble_eq_true rfl) (Nat.le_of_ble_eq_true rfl) (Nat.le_of_ble_eq_true rfl) (Nat.le_of_ble_eq_true rfl) dX2_thoughtOf_22 ?_
  refine lv_ti (y := (nI (min n n))) (mminN (by omega) (by omega)) ?_
  refine va_mmin hx hb (by rw [hml]; exact hl.1.symm) hown (hts _ tw_770) (hts _ tw_529) (hts _ tw_93) (hts _ tw_530) (Nat.le_of_ble_eq_true rfl) (Nat.le_of_ble_eq_true rfl) (Nat.le_of_ble_eq_true rfl) (Nat.le_of_ble_eq_true rfl) dX2_thoughtOf_25 ?_
  refine lv_ti (y := (nI (min rz (min n n)))) (mminN (by omega) (by omega)) ?_
  refine lv_istore (lv' := [(8, .int (nI (min rz (min n n)))), (6, .long 500000), (4, .long 500000), (0, .ref y0), (1, .ref h0), (2, .ref h0), (3, .ref c0)]) hx hb dX2_thoughtOf_28 hl (by decide) rfl (fun ls hl => ?_)
  refine lv_iconst (v := 0) hx hb dX2_thoughtOf_30 (by decide) ?_
  refine lv_istore (lv' := [(9, .int 0), (8, .int (nI (min rz (min n n)))), (6, .long 500000), (4, .long 500000), (0, .ref y0), (1, .ref h0), (2, .ref h0), (3, .ref c0)]) hx hb dX2_thoughtOf_31 hl (by decide) rfl (fun ls hl => ?_)
  refine lv_iconst (v := 0) hx hb dX2_thoughtOf_33 (by decide) ?_
  refine lv_istore (lv' := [(10, .int 0), (9, .int 0), (8, .int (nI (min rz (min n n)))), (6, .long 500000), (4, .long 500000), (0, .ref y0), (1, .ref h0), (2, .ref h0), (3, .ref c0)]) hx hb dX2_thoughtOf_34 hl (by decide) rfl (fun ls hl => ?_)
  refine W_loop (σ := Nat × Int64 × Int64 × Int32) (fun (n_ : Nat) (x_ : Nat × Int64 × Int64 × Int32) (H : Heap) (locs : List Loc) (ls : Array Slot) => match x_ with | (ii_5, w2_5, v2_5, ah_5) => n_ = 25 - ii_5 ∧ (ii_5 ≤ min rz (min n n) ∧ ah_5 = pAhd fr ii_5 ∧ w2_5 = (thN (sdX n see tm g ff fp) (sdX n see tm g ff fp) fr ii_5).1 ∧ v2_5 = (thN (sdX n see tm g ff fp) (sdX n see tm g ff fp) fr ii_5).2) ∧ va_P D classes [(y0, .inr (2, (fX2 y1 y2 y3 wt wc))), (h0, .inr (5, (fX5 h1 h2 h3 h4))), (aI k h1 10 (vv n see tm g)), (aI k h2 24 ff), (aI k h3 24 fp), (c0, .inr (4, (fX4 c1 c2 (nI cc) (nI rz) ro sd)))] H ∧ va_S (fun q : Nat => s.heap.size ≤ q) s.heap H locs ∧ lv_has ls 14 [(10, .int (nI ii_5)), (9, .int ah_5), (8, .int (nI (min rz (min n n)))), (6, .long v2_5), (4, .long w2_5), (0, .ref y0), (1, .ref h0), (2, .ref h0), (3, .ref c0)]) (fun n_5 x_5 H locs ls hI ih_5 => ?_) _ (0, 500000, 500000, 0) ⟨rfl, ⟨Nat.zero_le _, rfl, rfl, rfl⟩, hP, hS, (lv_sub hl [0, 1, 2, 3, 4, 5, 6, 7, 8] rfl)⟩
  obtain ⟨ii_5, w2_5, v2_5, ah_5⟩ := x_5
  obtain ⟨hm_5, hv_5, hP, hS, hl⟩ := hI
  subst hm_5
  refine lv_iload hx hb dX2_thoughtOf_36 (lv_at hl 0 rfl) ?_
  refine lv_iload hx hb dX2_thoughtOf_38 (lv_at hl 2 rfl) ?_
  refine lv_icmp_ge (tgt := 139) hx hb dX2_thoughtOf_40 (by decide) (fun c_6 => ?_) (fun c_6 => ?_)
  · have c_6 := (nI_leI (a := (min rz (min n n))) (b := ii_5) (by omega) (by omega)).mp c_6
    refine lv_lload hx hb dX2_thoughtOf_139 (lv_at hl 4 rfl) ?_
    refine lv_lload hx hb dX2_thoughtOf_141 (lv_at hl 3 rfl) ?_
    refine lv_ladd hx hb dX2_thoughtOf_143 ?_
    refine lv_topl (fun x_7 ex_7 => ?_)
    refine lv_lstore (lv' := [(10, .long x_7), (9, .int ah_5), (8, .int (nI (min rz (min n n)))), (6, .long v2_5), (4, .long w2_5), (0, .ref y0), (1, .ref h0), (2, .ref h0), (3, .ref c0)]) hx hb dX2_thoughtOf_144 hl (by decide) rfl (fun ls hl => ?_)
    refine lv_lload hx hb dX2_thoughtOf_146 (lv_at hl 0 rfl) ?_
    refine lv_lconst (v := 0) hx hb dX2_thoughtOf_148 (by decide) ?_
    refine W.lcmp hx hb dX2_thoughtOf_149 ?_
    refine lv_if_le (tgt := 166) hx hb dX2_thoughtOf_150 (by decide) (fun c_8 => ?_) (fun c_8 => ?_)
    · refine lv_iconst (v := 0) hx hb dX2_thoughtOf_166 (by decide) ?_
      exact W.iret (v := 0) hx hb hr (fun t ht hW => ⟨⟨0, (), rfl, (thR_0 (d := (sdX n see tm g ff fp)) (e := (sdX n see tm g ff fp)) (show ii_5 = min rz (min n n) by omega) hv_5.2.2.1 hv_5.2.2.2 ex_7 c_8), trivial⟩, hS.F ht⟩) hS.2.2 dX2_thoughtOf_167
    · refine lv_lload hx hb dX2_thoughtOf_153 (lv_at hl 4 rfl) ?_
      refine lv_ldc2 hx hb hown (hts _ tw_779) dX2_thoughtOf_155 ?_
      refine lv_lmul hx hb dX2_thoughtOf_158 ?_
      refine lv_topl (fun x_9 ex_9 => ?_)
      refine lv_lload hx hb dX2_thoughtOf_159 (lv_at hl 0 rfl) ?_
      refine lv_ldiv hx hb dX2_thoughtOf_161 (fun h => c_8 (by rw [h]; decide)) ?_
      refine lv_topl (fun x_10 ex_10 => ?_)
      refine lv_l2i hx hb dX2_thoughtOf_162 rfl ?_
      refine lv_topi (fun x_11 ex_11 => ?_)
      refine lv_goto (tgt := 167) hx hb dX2_thoughtOf_163 (by decide) ?_
      exact W.iret (v := x_11) hx hb hr (fun t ht hW => ⟨⟨x_11, (), rfl, (thR_1 (d := (sdX n see tm g ff fp)) (e := (sdX n see tm g ff fp)) (show ii_5 = min rz (min n n) by omega) hv_5.2.2.1 hv_5.2.2.2 ex_7 c_8 ex_9 ex_10 ex_11), trivial⟩, hS.F ht⟩) hS.2.2 dX2_thoughtOf_167
  · have c_6 : ¬ ((min rz (min n n)) ≤ ii_5) := fun h => c_6 ((nI_leI (a := (min rz (min n n))) (b := ii_5) (by omega) (by omega)).mpr h)
    refine lv_aload_n hx hb dX2_thoughtOf_43 rfl (lv_at hl 8 rfl) ?_
    refine lv_iload hx hb dX2_thoughtOf_44 (lv_at hl 0 rfl) ?_
    refine ro_i (D := D) (va_runV (As := [.int (nI ii_5)]) (rest := []) ⟨hx, hb, hml, hown, hts⟩ ((y_sawFree l D k st lo c0 c1 c2 cc rz ro sd ii_5 fr hro (by first | assumption | omega) (by first | assumption | omega)) H.size) (cwV 1 hts (gV tw_771 tw_753 tw_754 tw_82 tw_755) rfl rfl rfl (by decide +kernel) ⟨Nat.le_of_ble_eq_true rfl, Nat.le_of_ble_eq_true rfl⟩) (pV hS hAlo hlo hP hK hDL hZ [5] (by decide) rfl (ci := 4) (q := (RX4, TX4, 6)) (q0 := 0) rfl rfl) rfl rfl hl.1 rfl (lv_room (Nat.le_of_ble_eq_true rfl)) dX2_thoughtOf_46 ⟨Nat.le_of_ble_eq_true rfl, Nat.le_of_ble_eq_true rfl⟩) hS hA hP (fun r_12 H locs hw_12 hP hS => ?_)
    try dsimp only at hw_12
    rcases hw_12 with ⟨rfl, hw_12⟩ | ⟨rfl, hw_12⟩
    · refine lv_istore (lv' := [(11, .int 1), (10, .int (nI ii_5)), (9, .int ah_5), (8, .int (nI (min rz (min n n)))), (6, .long v2_5), (4, .long w2_5), (0, .ref y0), (1, .ref h0), (2, .ref h0), (3, .ref c0)]) hx hb dX2_thoughtOf_49 hl (by decide) rfl (fun ls hl => ?_)
      refine lv_lload hx hb dX2_thoughtOf_51 (lv_at hl 5 rfl) ?_
      refine lv_aload_n hx hb dX2_thoughtOf_53 rfl (lv_at hl 7 rfl) ?_
      refine lv_iload hx hb dX2_thoughtOf_54 (lv_at hl 1 rfl) ?_
      refine lv_iload hx hb dX2_thoughtOf_56 (lv_at hl 2 rfl) ?_
      refine lv_iload hx hb dX2_thoughtOf_58 (lv_at hl 0 rfl) ?_
      refine ro_i (D := D) (va_runS (As := [.ref h0, .int (nI ii_5), .int ah_5, .int 1]) (rest := [.long w2_5]) ⟨hx, hb, hml, hown, hts⟩ ((y_likelihood l D k st lo h0 h1 h2 h3 h4 n see tm g ff ii_5 ah_5 1 (by first | assumption | omega)) H.size) (va_cwS 4 hts (gS tw_772 tw_773 tw_83 tw_774) rfl rfl rfl (by decide +kernel) ⟨Nat.le_of_ble_eq_true rfl, Nat.le_of_ble_eq_true rfl⟩) (pS hS hAlo hlo hP hK hDL hZ [1, 2, 3] (by decide) rfl) rfl rfl hl.1 rfl (lv_room (Nat.le_of_ble_eq_true rfl)) dX2_thoughtOf_60 ⟨Nat.le_of_ble_eq_true rfl, Nat.le_of_ble_eq_true rfl⟩) hS hA hP (fun r_13 H locs hw_13 hP hS => ?_)
      try dsimp only at hw_13
      refine lv_i2l (v := r_13.toInt64) hx hb dX2_thoughtOf_63 rfl ?_
      refine lv_lmul hx hb dX2_thoughtOf_64 ?_
      refine lv_topl (fun x_14 ex_14 => ?_)
      refine lv_ldc2 hx hb hown (hts _ tw_775) dX2_thoughtOf_65 ?_
      refine lv_ldiv hx hb dX2_thoughtOf_68 (by decide) ?_
      refine lv_topl (fun x_15 ex_15 => ?_)
      have hta_16 : x_15 = thA (thN (sdX n see tm g ff fp) (sdX n see tm g ff fp) fr ii_5).1 (pLk (sdX n see tm g ff fp) ii_5 (pAhd fr ii_5) (fr ii_5)) := by unfold thA; rw [ex_15, ex_14, hw_13, xLk1 (see := see) (tm := tm) (fp := fp) (show ii_5 < n by omega) (okX hoka (by omega)) hw_12, hv_5.2.1, hv_5.2.2.1]
      refine lv_lstore (lv' := [(4, .long x_15), (11, .int 1), (10, .int (nI ii_5)), (9, .int ah_5), (8, .int (nI (min rz (min n n)))), (6, .long v2_5), (0, .ref y0), (1, .ref h0), (2, .ref h0), (3, .ref c0)]) hx hb dX2_thoughtOf_69 hl (by decide) rfl (fun ls hl => ?_)
      refine lv_lload hx hb dX2_thoughtOf_71 (lv_at hl 5 rfl) ?_
      refine lv_aload_n hx hb dX2_thoughtOf_73 rfl (lv_at hl 8 rfl) ?_
      refine lv_iload hx hb dX2_thoughtOf_74 (lv_at hl 2 rfl) ?_
      refine lv_iload hx hb dX2_thoughtOf_76 (lv_at hl 3 rfl) ?_
      refine lv_iload hx hb dX2_thoughtOf_78 (lv_at hl 1 rfl) ?_
      refine ro_i (D := D) (va_runS (As := [.ref h0, .int (nI ii_5), .int ah_5, .int 1]) (rest := [.long v2_5]) ⟨hx, hb, hml, hown, hts⟩ ((y_likelihood l D k st lo h0 h1 h2 h3 h4 n see tm g ff ii_5 ah_5 1 (by first | assumption | omega)) H.size) (va_cwS 4 hts (gS tw_772 tw_773 tw_83 tw_774) rfl rfl rfl (by decide +kernel) ⟨Nat.le_of_ble_eq_true rfl, Nat.le_of_ble_eq_true rfl⟩) (pS hS hAlo hlo hP hK hDL hZ [1, 2, 3] (by decide) rfl) rfl rfl hl.1 rfl (lv_room (Nat.le_of_ble_eq_true rfl)) dX2_thoughtOf_80 ⟨Nat.le_of_ble_eq_true rfl, Nat.le_of_ble_eq_true rfl⟩) hS hA hP (fun r_17 H locs hw_17 hP hS => ?_)
      try dsimp only at hw_17
      refine lv_i2l (v := r_17.toInt64) hx hb dX2_thoughtOf_83 rfl ?_
      refine lv_lmul hx hb dX2_thoughtOf_84 ?_
      refine lv_topl (fun x_18 ex_18 => ?_)
      refine lv_ldc2 hx hb hown (hts _ tw_775) dX2_thoughtOf_85 ?_
      refine lv_ldiv hx hb dX2_thoughtOf_88 (by decide) ?_
      refine lv_topl (fun x_19 ex_19 => ?_)
      have hta_20 : x_19 = thA (thN (sdX n see tm g ff fp) (sdX n see tm g ff fp) fr ii_5).2 (pLk (sdX n see tm g ff fp) ii_5 (pAhd fr ii_5) (fr ii_5)) := by unfold thA; rw [ex_19, ex_18, hw_17, xLk1 (see := see) (tm := tm) (fp := fp) (show ii_5 < n by omega) (okX hoka (by omega)) hw_12, hv_5.2.1, hv_5.2.2.2]
      refine lv_lstore (lv' := [(6, .long x_19), (4, .long x_15), (11, .int 1), (10, .int (nI ii_5)), (9, .int ah_5), (8, .int (nI (min rz (min n n)))), (0, .ref y0), (1, .ref h0), (2, .ref h0), (3, .ref c0)]) hx hb dX2_thoughtOf_89 hl (by decide) rfl (fun ls hl => ?_)
      refine lv_lload hx hb dX2_thoughtOf_91 (lv_at hl 1 rfl) ?_
      refine lv_lload hx hb dX2_thoughtOf_93 (lv_at hl 0 rfl) ?_
      refine va_mmax_long hx hb (by rw [hml]; exact hl.1.symm) hown (hts _ tw_776) (hts _ tw_777) (hts _ tw_93) (hts _ tw_778) (Nat.le_of_ble_eq_true rfl) (Nat.le_of_ble_eq_true rfl) (Nat.le_of_ble_eq_true rfl) (Nat.le_of_ble_eq_true rfl) dX2_thoughtOf_95 ?_
      refine lv_topl (fun x_21 ex_21 => ?_)
      refine lv_lstore (lv' := [(12, .long x_21), (6, .long x_19), (4, .long x_15), (11, .int 1), (10, .int (nI ii_5)), (9, .int ah_5), (8, .int (nI (min rz (min n n)))), (0, .ref y0), (1, .ref h0), (2, .ref h0), (3, .ref c0)]) hx hb dX2_thoughtOf_98 hl (by decide) rfl (fun ls hl => ?_)
      refine lv_lload hx hb dX2_thoughtOf_100 (lv_at hl 0 rfl) ?_
      refine lv_lconst (v := 0) hx hb dX2_thoughtOf_102 (by decide) ?_
      refine W.lcmp hx hb dX2_thoughtOf_103 ?_
      refine lv_if_le (tgt := 129) hx hb dX2_thoughtOf_104 (by decide) (fun c_22 => ?_) (fun c_22 => ?_)
      · have hth_23 := th_neg hta_16 hta_20 (show x_21 = thG x_15 x_19 from ex_21) c_22
        refine lv_iload hx hb dX2_thoughtOf_129 (lv_at hl 3 rfl) ?_
        refine lv_istore (lv' := [(9, .int 1), (12, .long x_21), (6, .long x_19), (4, .long x_15), (11, .int 1), (10, .int (nI ii_5)), (8, .int (nI (min rz (min n n)))), (0, .ref y0), (1, .ref h0), (2, .ref h0), (3, .ref c0)]) hx hb dX2_thoughtOf_131 hl (by decide) rfl (fun ls hl => ?_)
        refine lv_iinc (v := (nI (ii_5 + 1))) (lv' := [(10, .int (nI (ii_5 + 1))), (9, .int 1), (12, .long x_21), (6, .long x_19), (4, .long x_15), (11, .int 1), (8, .int (nI (min rz (min n n)))), (0, .ref y0), (1, .ref h0), (2, .ref h0), (3, .ref c0)]) hx hb dX2_thoughtOf_133 hl (k := 5) rfl (nI_add ii_5 1) (by decide) rfl (fun ls hl => ?_)
        refine lv_goto (tgt := 36) hx hb dX2_thoughtOf_136 (by decide) ?_
        exact ih_5 _ (ii_5 + 1, x_15, x_19, 1) _ _ _ (by omega) ⟨rfl, ⟨by omega, ahd_1 hw_12, hth_23.1, hth_23.2⟩, hP, hS, (lv_sub hl [0, 1, 6, 3, 4, 7, 8, 9, 10] rfl)⟩
      · refine lv_lload hx hb dX2_thoughtOf_107 (lv_at hl 2 rfl) ?_
        refine lv_ldc2 hx hb hown (hts _ tw_779) dX2_thoughtOf_109 ?_
        refine lv_lmul hx hb dX2_thoughtOf_112 ?_
        refine lv_topl (fun x_24 ex_24 => ?_)
        refine lv_lload hx hb dX2_thoughtOf_113 (lv_at hl 0 rfl) ?_
        refine lv_ldiv hx hb dX2_thoughtOf_115 (fun h => c_22 (by rw [h]; decide)) ?_
        refine lv_topl (fun x_25 ex_25 => ?_)
        refine lv_lstore (lv' := [(4, .long x_25), (12, .long x_21), (6, .long x_19), (11, .int 1), (10, .int (nI ii_5)), (9, .int ah_5), (8, .int (nI (min rz (min n n)))), (0, .ref y0), (1, .ref h0), (2, .ref h0), (3, .ref c0)]) hx hb dX2_thoughtOf_116 hl (by decide) rfl (fun ls hl => ?_)
        refine lv_lload hx hb dX2_thoughtOf_118 (lv_at hl 2 rfl) ?_
        refine lv_ldc2 hx hb hown (hts _ tw_779) dX2_thoughtOf_120 ?_
        refine lv_lmul hx hb dX2_thoughtOf_123 ?_
        refine lv_topl (fun x_26 ex_26 => ?_)
        refine lv_lload hx hb dX2_thoughtOf_124 (lv_at hl 1 rfl) ?_
        refine lv_ldiv hx hb dX2_thoughtOf_126 (fun h => c_22 (by rw [h]; decide)) ?_
        refine lv_topl (fun x_27 ex_27 => ?_)
        refine lv_lstore (lv' := [(6, .long x_27), (4, .long x_25), (12, .long x_21), (11, .int 1), (10, .int (nI ii_5)), (9, .int ah_5), (8, .int (nI (min rz (min n n)))), (0, .ref y0), (1, .ref h0), (2, .ref h0), (3, .ref c0)]) hx hb dX2_thoughtOf_127 hl (by decide) rfl (fun ls hl => ?_)
        have hth_28 := th_pos hta_16 hta_20 (show x_21 = thG x_15 x_19 from ex_21) c_22 ex_24 ex_25 ex_26 ex_27
        refine lv_iload hx hb dX2_thoughtOf_129 (lv_at hl 3 rfl) ?_
        refine lv_istore (lv' := [(9, .int 1), (6, .long x_27), (4, .long x_25), (12, .long x_21), (11, .int 1), (10, .int (nI ii_5)), (8, .int (nI (min rz (min n n)))), (0, .ref y0), (1, .ref h0), (2, .ref h0), (3, .ref c0)]) hx hb dX2_thoughtOf_131 hl (by decide) rfl (fun ls hl => ?_)
        refine lv_iinc (v := (nI (ii_5 + 1))) (lv' := [(10, .int (nI (ii_5 + 1))), (9, .int 1), (6, .long x_27), (4, .long x_25), (12, .long x_21), (11, .int 1), (8, .int (nI (min rz (min n n)))), (0, .ref y0), (1, .ref h0), (2, .ref h0), (3, .ref c0)]) hx hb dX2_thoughtOf_133 hl (k := 5) rfl (nI_add ii_5 1) (by decide) rfl (fun ls hl => ?_)
        refine lv_goto (tgt := 36) hx hb dX2_thoughtOf_136 (by decide) ?_
        exact ih_5 _ (ii_5 + 1, x_25, x_27, 1) _ _ _ (by omega) ⟨rfl, ⟨by omega, ahd_1 hw_12, hth_28.1, hth_28.2⟩, hP, hS, (lv_sub hl [0, 1, 6, 2, 3, 7, 8, 9, 10] rfl)⟩
    · refine lv_istore (lv' := [(11, .int 0), (10, .int (nI ii_5)), (9, .int ah_5), (8, .int (nI (min rz (min n n)))), (6, .long v2_5), (4, .long w2_5), (0, .ref y0), (1, .ref h0), (2, .ref h0), (3, .ref c0)]) hx hb dX2_thoughtOf_49 hl (by decide) rfl (fun ls hl => ?_)
      refine lv_lload hx hb dX2_thoughtOf_51 (lv_at hl 5 rfl) ?_
      refine lv_aload_n hx hb dX2_thoughtOf_53 rfl (lv_at hl 7 rfl) ?_
      refine lv_iload hx hb dX2_thoughtOf_54 (lv_at hl 1 rfl) ?_
      refine lv_iload hx hb dX2_thoughtOf_56 (lv_at hl 2 rfl) ?_
      refine lv_iload hx hb dX2_thoughtOf_58 (lv_at hl 0 rfl) ?_
      refine ro_i (D := D) (va_runS (As := [.ref h0, .int (nI ii_5), .int ah_5, .int 0]) (rest := [.long w2_5]) ⟨hx, hb, hml, hown, hts⟩ ((y_likelihood l D k st lo h0 h1 h2 h3 h4 n see tm g ff ii_5 ah_5 0 (by first | assumption | omega)) H.size) (va_cwS 4 hts (gS tw_772 tw_773 tw_83 tw_774) rfl rfl rfl (by decide +kernel) ⟨Nat.le_of_ble_eq_true rfl, Nat.le_of_ble_eq_true rfl⟩) (pS hS hAlo hlo hP hK hDL hZ [1, 2, 3] (by decide) rfl) rfl rfl hl.1 rfl (lv_room (Nat.le_of_ble_eq_true rfl)) dX2_thoughtOf_60 ⟨Nat.le_of_ble_eq_true rfl, Nat.le_of_ble_eq_true rfl⟩) hS hA hP (fun r_29 H locs hw_29 hP hS => ?_)
      try dsimp only at hw_29
      refine lv_i2l (v := r_29.toInt64) hx hb dX2_thoughtOf_63 rfl ?_
      refine lv_lmul hx hb dX2_thoughtOf_64 ?_
      refine lv_topl (fun x_30 ex_30 => ?_)
      refine lv_ldc2 hx hb hown (hts _ tw_775) dX2_thoughtOf_65 ?_
      refine lv_ldiv hx hb dX2_thoughtOf_68 (by decide) ?_
      refine lv_topl (fun x_31 ex_31 => ?_)
      have hta_32 : x_31 = thA (thN (sdX n see tm g ff fp) (sdX n see tm g ff fp) fr ii_5).1 (pLk (sdX n see tm g ff fp) ii_5 (pAhd fr ii_5) (fr ii_5)) := by unfold thA; rw [ex_31, ex_30, hw_29, xLk0 (see := see) (tm := tm) (fp := fp) (show ii_5 < n by omega) (okX hoka (by omega)) hw_12, hv_5.2.1, hv_5.2.2.1]
      refine lv_lstore (lv' := [(4, .long x_31), (11, .int 0), (10, .int (nI ii_5)), (9, .int ah_5), (8, .int (nI (min rz (min n n)))), (6, .long v2_5), (0, .ref y0), (1, .ref h0), (2, .ref h0), (3, .ref c0)]) hx hb dX2_thoughtOf_69 hl (by decide) rfl (fun ls hl => ?_)
      refine lv_lload hx hb dX2_thoughtOf_71 (lv_at hl 5 rfl) ?_
      refine lv_aload_n hx hb dX2_thoughtOf_73 rfl (lv_at hl 8 rfl) ?_
      refine lv_iload hx hb dX2_thoughtOf_74 (lv_at hl 2 rfl) ?_
      refine lv_iload hx hb dX2_thoughtOf_76 (lv_at hl 3 rfl) ?_
      refine lv_iload hx hb dX2_thoughtOf_78 (lv_at hl 1 rfl) ?_
      refine ro_i (D := D) (va_runS (As := [.ref h0, .int (nI ii_5), .int ah_5, .int 0]) (rest := [.long v2_5]) ⟨hx, hb, hml, hown, hts⟩ ((y_likelihood l D k st lo h0 h1 h2 h3 h4 n see tm g ff ii_5 ah_5 0 (by first | assumption | omega)) H.size) (va_cwS 4 hts (gS tw_772 tw_773 tw_83 tw_774) rfl rfl rfl (by decide +kernel) ⟨Nat.le_of_ble_eq_true rfl, Nat.le_of_ble_eq_true rfl⟩) (pS hS hAlo hlo hP hK hDL hZ [1, 2, 3] (by decide) rfl) rfl rfl hl.1 rfl (lv_room (Nat.le_of_ble_eq_true rfl)) dX2_thoughtOf_80 ⟨Nat.le_of_ble_eq_true rfl, Nat.le_of_ble_eq_true rfl⟩) hS hA hP (fun r_33 H locs hw_33 hP hS => ?_)
      try dsimp only at hw_33
      refine lv_i2l (v := r_33.toInt64) hx hb dX2_thoughtOf_83 rfl ?_
      refine lv_lmul hx hb dX2_thoughtOf_84 ?_
      refine lv_topl (fun x_34 ex_34 => ?_)
      refine lv_ldc2 hx hb hown (hts _ tw_775) dX2_thoughtOf_85 ?_
      refine lv_ldiv hx hb dX2_thoughtOf_88 (by decide) ?_
      refine lv_topl (fun x_35 ex_35 => ?_)
      have hta_36 : x_35 = thA (thN (sdX n see tm g ff fp) (sdX n see tm g ff fp) fr ii_5).2 (pLk (sdX n see tm g ff fp) ii_5 (pAhd fr ii_5) (fr ii_5)) := by unfold thA; rw [ex_35, ex_34, hw_33, xLk0 (see := see) (tm := tm) (fp := fp) (show ii_5 < n by omega) (okX hoka (by omega)) hw_12, hv_5.2.1, hv_5.2.2.2]
      refine lv_lstore (lv' := [(6, .long x_35), (4, .long x_31), (11, .int 0), (10, .int (nI ii_5)), (9, .int ah_5), (8, .int (nI (min rz (min n n)))), (0, .ref y0), (1, .ref h0), (2, .ref h0), (3, .ref c0)]) hx hb dX2_thoughtOf_89 hl (by decide) rfl (fun ls hl => ?_)
      refine lv_lload hx hb dX2_thoughtOf_91 (lv_at hl 1 rfl) ?_
      refine lv_lload hx hb dX2_thoughtOf_93 (lv_at hl 0 rfl) ?_
      refine va_mmax_long hx hb (by rw [hml]; exact hl.1.symm) hown (hts _ tw_776) (hts _ tw_777) (hts _ tw_93) (hts _ tw_778) (Nat.le_of_ble_eq_true rfl) (Nat.le_of_ble_eq_true rfl) (Nat.le_of_ble_eq_true rfl) (Nat.le_of_ble_eq_true rfl) dX2_thoughtOf_95 ?_
      refine lv_topl (fun x_37 ex_37 => ?_)
      refine lv_lstore (lv' := [(12, .long x_37), (6, .long x_35), (4, .long x_31), (11, .int 0), (10, .int (nI ii_5)), (9, .int ah_5), (8, .int (nI (min rz (min n n)))), (0, .ref y0), (1, .ref h0), (2, .ref h0), (3, .ref c0)]) hx hb dX2_thoughtOf_98 hl (by decide) rfl (fun ls hl => ?_)
      refine lv_lload hx hb dX2_thoughtOf_100 (lv_at hl 0 rfl) ?_
      refine lv_lconst (v := 0) hx hb dX2_thoughtOf_102 (by decide) ?_
      refine W.lcmp hx hb dX2_thoughtOf_103 ?_
      refine lv_if_le (tgt := 129) hx hb dX2_thoughtOf_104 (by decide) (fun c_38 => ?_) (fun c_38 => ?_)
      · have hth_39 := th_neg hta_32 hta_36 (show x_37 = thG x_31 x_35 from ex_37) c_38
        refine lv_iload hx hb dX2_thoughtOf_129 (lv_at hl 3 rfl) ?_
        refine lv_istore (lv' := [(9, .int 0), (12, .long x_37), (6, .long x_35), (4, .long x_31), (11, .int 0), (10, .int (nI ii_5)), (8, .int (nI (min rz (min n n)))), (0, .ref y0), (1, .ref h0), (2, .ref h0), (3, .ref c0)]) hx hb dX2_thoughtOf_131 hl (by decide) rfl (fun ls hl => ?_)
        refine lv_iinc (v := (nI (ii_5 + 1))) (lv' := [(10, .int (nI (ii_5 + 1))), (9, .int 0), (12, .long x_37), (6, .long x_35), (4, .long x_31), (11, .int 0), (8, .int (nI (min rz (min n n)))), (0, .ref y0), (1, .ref h0), (2, .ref h0), (3, .ref c0)]) hx hb dX2_thoughtOf_133 hl (k := 5) rfl (nI_add ii_5 1) (by decide) rfl (fun ls hl => ?_)
        refine lv_goto (tgt := 36) hx hb dX2_thoughtOf_136 (by decide) ?_
        exact ih_5 _ (ii_5 + 1, x_31, x_35, 0) _ _ _ (by omega) ⟨rfl, ⟨by omega, ahd_0 hw_12, hth_39.1, hth_39.2⟩, hP, hS, (lv_sub hl [0, 1, 6, 3, 4, 7, 8, 9, 10] rfl)⟩
      · refine lv_lload hx hb dX2_thoughtOf_107 (lv_at hl 2 rfl) ?_
        refine lv_ldc2 hx hb hown (hts _ tw_779) dX2_thoughtOf_109 ?_
        refine lv_lmul hx hb dX2_thoughtOf_112 ?_
        refine lv_topl (fun x_40 ex_40 => ?_)
        refine lv_lload hx hb dX2_thoughtOf_113 (lv_at hl 0 rfl) ?_
        refine lv_ldiv hx hb dX2_thoughtOf_115 (fun h => c_38 (by rw [h]; decide)) ?_
        refine lv_topl (fun x_41 ex_41 => ?_)
        refine lv_lstore (lv' := [(4, .long x_41), (12, .long x_37), (6, .long x_35), (11, .int 0), (10, .int (nI ii_5)), (9, .int ah_5), (8, .int (nI (min rz (min n n)))), (0, .ref y0), (1, .ref h0), (2, .ref h0), (3, .ref c0)]) hx hb dX2_thoughtOf_116 hl (by decide) rfl (fun ls hl => ?_)
        refine lv_lload hx hb dX2_thoughtOf_118 (lv_at hl 2 rfl) ?_
        refine lv_ldc2 hx hb hown (hts _ tw_779) dX2_thoughtOf_120 ?_
        refine lv_lmul hx hb dX2_thoughtOf_123 ?_
        refine lv_topl (fun x_42 ex_42 => ?_)
        refine lv_lload hx hb dX2_thoughtOf_124 (lv_at hl 1 rfl) ?_
        refine lv_ldiv hx hb dX2_thoughtOf_126 (fun h => c_38 (by rw [h]; decide)) ?_
        refine lv_topl (fun x_43 ex_43 => ?_)
        refine lv_lstore (lv' := [(6, .long x_43), (4, .long x_41), (12, .long x_37), (11, .int 0), (10, .int (nI ii_5)), (9, .int ah_5), (8, .int (nI (min rz (min n n)))), (0, .ref y0), (1, .ref h0), (2, .ref h0), (3, .ref c0)]) hx hb dX2_thoughtOf_127 hl (by decide) rfl (fun ls hl => ?_)
        have hth_44 := th_pos hta_32 hta_36 (show x_37 = thG x_31 x_35 from ex_37) c_38 ex_40 ex_41 ex_42 ex_43
        refine lv_iload hx hb dX2_thoughtOf_129 (lv_at hl 3 rfl) ?_
        refine lv_istore (lv' := [(9, .int 0), (6, .long x_43), (4, .long x_41), (12, .long x_37), (11, .int 0), (10, .int (nI ii_5)), (8, .int (nI (min rz (min n n)))), (0, .ref y0), (1, .ref h0), (2, .ref h0), (3, .ref c0)]) hx hb dX2_thoughtOf_131 hl (by decide) rfl (fun ls hl => ?_)
        refine lv_iinc (v := (nI (ii_5 + 1))) (lv' := [(10, .int (nI (ii_5 + 1))), (9, .int 0), (6, .long x_43), (4, .long x_41), (12, .long x_37), (11, .int 0), (8, .int (nI (min rz (min n n)))), (0, .ref y0), (1, .ref h0), (2, .ref h0), (3, .ref c0)]) hx hb dX2_thoughtOf_133 hl (k := 5) rfl (nI_add ii_5 1) (by decide) rfl (fun ls hl => ?_)
        refine lv_goto (tgt := 36) hx hb dX2_thoughtOf_136 (by decide) ?_
        exact ih_5 _ (ii_5 + 1, x_41, x_43, 0) _ _ _ (by omega) ⟨rfl, ⟨by omega, ahd_0 hw_12, hth_44.1, hth_44.2⟩, hP, hS, (lv_sub hl [0, 1, 6, 2, 3, 7, 8, 9, 10] rfl)⟩


set_option maxHeartbeats 4000000 in
set_option maxRecDepth 100000 in
theorem y_thoughtOf (l : Launch) (D : va_G) (k : Nat → ClassId) (st : Nat → Nat) (lo : Nat) (y0 : Nat) (y1 : Nat) (y2 : Nat) (y3 : Nat) (wt : Int32) (wc : Int32) (h0 : Nat) (h1 : Nat) (h2 : Nat) (h3 : Nat) (h4 : Nat) (n : Nat) (see : Nat) (tm : Nat) (g : Nat → Int32) (ff : Nat → Int32) (fp : Nat → Int32) (d0 : Nat) (d1 : Nat) (d2 : Nat) (d3 : Nat) (d4 : Nat) (nq : Nat) (seeq : Nat) (tmq : Nat) (gq : Nat → Int32) (ffq : Nat → Int32) (fpq : Nat → Int32) (c0 : Nat) (c1 : Nat) (c2 : Nat) (cc : Nat) (rz : Nat) (ro : Int32) (sd : Int32) (fr : Nat → Int32) (hn : n ≤ 24) (hnq : nq ≤ 24) (hrz : rz ≤ 24) (hro : ro = nI (rowN fr rz)) (hoka : okD (sdX n see tm g ff fp)) (hokb : okD (sdX nq seeq tmq gq ffq fpq)) : CRi l D k st lo yX2_thoughtOf cX2_thoughtOf 14 (some .int) ({ frames := 3, cells := 0, slots := 0, locals := 107 }) [.ref y0, .ref h0, .ref d0, .ref c0] [(y0, .inr (2, (fX2 y1 y2 y3 wt wc))), (h0, .inr (5, (fX5 h1 h2 h3 h4))), (aI k h1 10 (vv n see tm g)), (aI k h2 24 ff), (aI k h3 24 fp), (d0, .inr (5, (fX5 d1 d2 d3 d4))), (aI k d1 10 (vv nq seeq tmq gq)), (aI k d2 24 ffq), (aI k d3 24 fpq), (c0, .inr (4, (fX4 c1 c2 (nI cc) (nI rz) ro sd)))] (fun r => r = thR (sdX n see tm g ff fp) (sdX nq seeq tmq gq ffq fpq) fr rz) := by
  intro sz
  refine Met.ofW (cc := cX2_thoughtOf) (maxL := 14) (ret := (some .int)) (by decide) rfl ?_
  intro p e s m args below meth c s₁ B hml hv
  obtain ⟨rfl, hsz, hlo, hP, hK, hDL, hZ⟩ := hv
  have hx := B.exec
  have hb := B.bytes
  have hr := B.returns
  have hts := WS_ts B.pre
  have hown : s.vm.findClass RX2 = some m.cls := findClass_of_methodNamed B.named
  have hlocks := B.notSynchronized
  subst hsz
  have hA : ∀ q : Nat, s.heap.size ≤ q → (fun q : Nat => s.heap.size ≤ q) q := fun _ h => h
  have hAlo : ∀ q : Nat, (fun q : Nat => s.heap.size ≤ q) q → lo ≤ q := fun q h => Nat.le_trans hlo h
  have hS : va_S (fun q : Nat => s.heap.size ≤ q) s.heap s.heap [] := va_S.rf
  have hl := lv_entry ([.ref y0, .ref h0, .ref d0, .ref c0]) (n := 14) (Nat.le_of_ble_eq_true rfl)
  rw [lg_entry_eq]
  generalize (lg_sl ([.ref y0, .ref h0, .ref d0, .ref c0]) ++ List.replicate (14 - (lg_sl ([.ref y0, .ref h0, .ref d0, .ref c0])).length) Slot.unset).toArray = ls at hl ⊢
  have hl : lv_has ls 14 [(0, .ref y0), (1, .ref h0), (2, .ref d0), (3, .ref c0)] := hl
  refine lv_ldc2 hx hb hown (hts _ tw_769) dX2_thoughtOf_0 ?_
  refine lv_lstore (lv' := [(4, .long 500000), (0, .ref y0), (1, .ref h0), (2, .ref d0), (3, .ref c0)]) hx hb dX2_thoughtOf_3 hl (by decide) rfl (fun ls hl => ?_)
  refine lv_ldc2 hx hb hown (hts _ tw_769) dX2_thoughtOf_5 ?_
  refine lv_lstore (lv' := [(6, .long 500000), (4, .long 500000), (0, .ref y0), (1, .ref h0), (2, .ref d0), (3, .ref c0)]) hx hb dX2_thoughtOf_8 hl (by decide) rfl (fun ls hl => ?_)
  refine lv_aload_n hx hb dX2_thoughtOf_10 rfl (lv_at hl 5 rfl) ?_
  refine va_get (D := D) (ci := 4) (v := .int (nI rz)) (C := RX4) (T := TX4) (N := 6) hx hb hts inX4 hown hK hP 9 rfl rfl 3 (by decide) (hts _ tw_182) (fun _ h9 => h9) rfl dX2_thoughtOf_11 ?_
  refine lv_aload_n hx hb dX2_thoughtOf_14 rfl (lv_at hl 3 rfl) ?_
  refine ro_i (D := D) (va_runV (As := []) (rest := [.int (nI rz)]) ⟨hx, hb, hml, hown, hts⟩ ((x_doors l D k st lo h0 h1 h2 h3 h4 n see tm g) s.heap.size) (cwV 0 hts (gV tw_723 tw_478 tw_479 tw_81 tw_480) rfl rfl rfl (by decide +kernel) ⟨Nat.le_of_ble_eq_true rfl, Nat.le_of_ble_eq_true rfl⟩) (pV hS hAlo hlo hP hK hDL hZ [1, 2] (by decide) rfl (ci := 5) (q := (RX5, TX5, 4)) (q0 := 0) rfl rfl) rfl rfl hl.1 rfl (lv_room (Nat.le_of_ble_eq_true rfl)) dX2_thoughtOf_15 ⟨Nat.le_of_ble_eq_true rfl, Nat.le_of_ble_eq_true rfl⟩) hS hA hP (fun r_1 H locs hw_1 hP hS => ?_)
  try dsimp only at hw_1
  subst hw_1
  refine lv_aload_n hx hb dX2_thoughtOf_18 rfl (lv_at hl 4 rfl) ?_
  refine ro_i (D := D) (va_runV (As := []) (rest := [.int (nI n), .int (nI rz)]) ⟨hx, hb, hml, hown, hts⟩ ((x_doors l D k st lo d0 d1 d2 d3 d4 nq seeq tmq gq) H.size) (cwV 0 hts (gV tw_723 tw_478 tw_479 tw_81 tw_480) rfl rfl rfl (by decide +kernel) ⟨Nat.le_of_ble_eq_true rfl, Nat.le_of_ble_eq_true rfl⟩) (pV hS hAlo hlo hP hK hDL hZ [5, 6] (by decide) rfl (ci := 5) (q := (RX5, TX5, 4)) (q0 := 0) rfl rfl) rfl rfl hl.1 rfl (lv_room (Nat.le_of_ble_eq_true rfl)) dX2_thoughtOf_19 ⟨Nat.le_of_ble_eq_true rfl, Nat.le_of_ble_eq_true rfl⟩) hS hA hP (fun r_2 H locs hw_2 hP hS => ?_)
  try dsimp only at hw_2
  subst hw_2
  refine va_mmin hx hb (by rw [hml]; exact hl.1.symm) hown (hts _ tw_770) (hts _ tw_529) (hts _ tw_93) (hts _ tw_530) (Nat.le_of_ble_eq_true rfl) (Nat.le_of_ble_eq_true rfl) (Nat.le_of_ble_eq_true rfl) (Nat.le_of_ble_eq_true rfl) dX2_thoughtOf_22 ?_
  refine lv_ti (y := (nI (min n nq))) (mminN (by omega) (by omega)) ?_
  refine va_mmin hx hb (by rw [hml]; exact hl.1.symm) hown (hts _ tw_770) (hts _ tw_529) (hts _ tw_93) (hts _ tw_530) (Nat.le_of_ble_eq_true rfl) (Nat.le_of_ble_eq_true rfl) (Nat.le_of_ble_eq_true rfl) (Nat.le_of_ble_eq_true rfl) dX2_thoughtOf_25 ?_
  refine lv_ti (y := (nI (min rz (min n nq)))) (mminN (by omega) (by omega)) ?_
  refine lv_istore (lv' := [(8, .int (nI (min rz (min n nq)))), (6, .long 500000), (4, .long 500000), (0, .ref y0), (1, .ref h0), (2, .ref d0), (3, .ref c0)]) hx hb dX2_thoughtOf_28 hl (by decide) rfl (fun ls hl => ?_)
  refine lv_iconst (v := 0) hx hb dX2_thoughtOf_30 (by decide) ?_
  refine lv_istore (lv' := [(9, .int 0), (8, .int (nI (min rz (min n nq)))), (6, .long 500000), (4, .long 500000), (0, .ref y0), (1, .ref h0), (2, .ref d0), (3, .ref c0)]) hx hb dX2_thoughtOf_31 hl (by decide) rfl (fun ls hl => ?_)
  refine lv_iconst (v := 0) hx hb dX2_thoughtOf_33 (by decide) ?_
  refine lv_istore (lv' := [(10, .int 0), (9, .int 0), (8, .int (nI (min rz (min n nq)))), (6, .long 500000), (4, .long 500000), (0, .ref y0), (1, .ref h0), (2, .ref d0), (3, .ref c0)]) hx hb dX2_thoughtOf_34 hl (by decide) rfl (fun ls hl => ?_)
  refine W_loop (σ := Nat × Int64 × Int64 × Int32) (fun (n_ : Nat) (x_ : Nat × Int64 × Int64 × Int32) (H : Heap) (locs : List Loc) (ls : Array Slot) => match x_ with | (ii_5, w2_5, v2_5, ah_5) => n_ = 25 - ii_5 ∧ (ii_5 ≤ min rz (min n nq) ∧ ah_5 = pAhd fr ii_5 ∧ w2_5 = (thN (sdX n see tm g ff fp) (sdX nq seeq tmq gq ffq fpq) fr ii_5).1 ∧ v2_5 = (thN (sdX n see tm g ff fp) (sdX nq seeq tmq gq ffq fpq) fr ii_5).2) ∧ va_P D classes [(y0, .inr (2, (fX2 y1 y2 y3 wt wc))), (h0, .inr (5, (fX5 h1 h2 h3 h4))), (aI k h1 10 (vv n see tm g)), (aI k h2 24 ff), (aI k h3 24 fp), (d0, .inr (5, (fX5 d1 d2 d3 d4))), (aI k d1 10 (vv nq seeq tmq gq)), (aI k d2 24 ffq), (aI k d3 24 fpq), (c0, .inr (4, (fX4 c1 c2 (nI cc) (nI rz) ro sd)))] H ∧ va_S (fun q : Nat => s.heap.size ≤ q) s.heap H locs ∧ lv_has ls 14 [(10, .int (nI ii_5)), (9, .int ah_5), (8, .int (nI (min rz (min n nq)))), (6, .long v2_5), (4, .long w2_5), (0, .ref y0), (1, .ref h0), (2, .ref d0), (3, .ref c0)]) (fun n_5 x_5 H locs ls hI ih_5 => ?_) _ (0, 500000, 500000, 0) ⟨rfl, ⟨Nat.zero_le _, rfl, rfl, rfl⟩, hP, hS, (lv_sub hl [0, 1, 2, 3, 4, 5, 6, 7, 8] rfl)⟩
  obtain ⟨ii_5, w2_5, v2_5, ah_5⟩ := x_5
  obtain ⟨hm_5, hv_5, hP, hS, hl⟩ := hI
  subst hm_5
  refine lv_iload hx hb dX2_thoughtOf_36 (lv_at hl 0 rfl) ?_
  refine lv_iload hx hb dX2_thoughtOf_38 (lv_at hl 2 rfl) ?_
  refine lv_icmp_ge (tgt := 139) hx hb dX2_thoughtOf_40 (by decide) (fun c_6 => ?_) (fun c_6 => ?_)
  · have c_6 := (nI_leI (a := (min rz (min n nq))) (b := ii_5) (by omega) (by omega)).mp c_6
    refine lv_lload hx hb dX2_thoughtOf_139 (lv_at hl 4 rfl) ?_
    refine lv_lload hx hb dX2_thoughtOf_141 (lv_at hl 3 rfl) ?_
    refine lv_ladd hx hb dX2_thoughtOf_143 ?_
    refine lv_topl (fun x_7 ex_7 => ?_)
    refine lv_lstore (lv' := [(10, .long x_7), (9, .int ah_5), (8, .int (nI (min rz (min n nq)))), (6, .long v2_5), (4, .long w2_5), (0, .ref y0), (1, .ref h0), (2, .ref d0), (3, .ref c0)]) hx hb dX2_thoughtOf_144 hl (by decide) rfl (fun ls hl => ?_)
    refine lv_lload hx hb dX2_thoughtOf_146 (lv_at hl 0 rfl) ?_
    refine lv_lconst (v := 0) hx hb dX2_thoughtOf_148 (by decide) ?_
    refine W.lcmp hx hb dX2_thoughtOf_149 ?_
    refine lv_if_le (tgt := 166) hx hb dX2_thoughtOf_150 (by decide) (fun c_8 => ?_) (fun c_8 => ?_)
    · refine lv_iconst (v := 0) hx hb dX2_thoughtOf_166 (by decide) ?_
      exact W.iret (v := 0) hx hb hr (fun t ht hW => ⟨⟨0, (), rfl, (thR_0 (d := (sdX n see tm g ff fp)) (e := (sdX nq seeq tmq gq ffq fpq)) (show ii_5 = min rz (min n nq) by omega) hv_5.2.2.1 hv_5.2.2.2 ex_7 c_8), trivial⟩, hS.F ht⟩) hS.2.2 dX2_thoughtOf_167
    · refine lv_lload hx hb dX2_thoughtOf_153 (lv_at hl 4 rfl) ?_
      refine lv_ldc2 hx hb hown (hts _ tw_779) dX2_thoughtOf_155 ?_
      refine lv_lmul hx hb dX2_thoughtOf_158 ?_
      refine lv_topl (fun x_9 ex_9 => ?_)
      refine lv_lload hx hb dX2_thoughtOf_159 (lv_at hl 0 rfl) ?_
      refine lv_ldiv hx hb dX2_thoughtOf_161 (fun h => c_8 (by rw [h]; decide)) ?_
      refine lv_topl (fun x_10 ex_10 => ?_)
      refine lv_l2i hx hb dX2_thoughtOf_162 rfl ?_
      refine lv_topi (fun x_11 ex_11 => ?_)
      refine lv_goto (tgt := 167) hx hb dX2_thoughtOf_163 (by decide) ?_
      exact W.iret (v := x_11) hx hb hr (fun t ht hW => ⟨⟨x_11, (), rfl, (thR_1 (d := (sdX n see tm g ff fp)) (e := (sdX nq seeq tmq gq ffq fpq)) (show ii_5 = min rz (min n nq) by omega) hv_5.2.2.1 hv_5.2.2.2 ex_7 c_8 ex_9 ex_10 ex_11), trivial⟩, hS.F ht⟩) hS.2.2 dX2_thoughtOf_167
  · have c_6 : ¬ ((min rz (min n nq)) ≤ ii_5) := fun h => c_6 ((nI_leI (a := (min rz (min n nq))) (b := ii_5) (by omega) (by omega)).mpr h)
    refine lv_aload_n hx hb dX2_thoughtOf_43 rfl (lv_at hl 8 rfl) ?_
    refine lv_iload hx hb dX2_thoughtOf_44 (lv_at hl 0 rfl) ?_
    refine ro_i (D := D) (va_runV (As := [.int (nI ii_5)]) (rest := []) ⟨hx, hb, hml, hown, hts⟩ ((y_sawFree l D k st lo c0 c1 c2 cc rz ro sd ii_5 fr hro (by first | assumption | omega) (by first | assumption | omega)) H.size) (cwV 1 hts (gV tw_771 tw_753 tw_754 tw_82 tw_755) rfl rfl rfl (by decide +kernel) ⟨Nat.le_of_ble_eq_true rfl, Nat.le_of_ble_eq_true rfl⟩) (pV hS hAlo hlo hP hK hDL hZ [9] (by decide) rfl (ci := 4) (q := (RX4, TX4, 6)) (q0 := 0) rfl rfl) rfl rfl hl.1 rfl (lv_room (Nat.le_of_ble_eq_true rfl)) dX2_thoughtOf_46 ⟨Nat.le_of_ble_eq_true rfl, Nat.le_of_ble_eq_true rfl⟩) hS hA hP (fun r_12 H locs hw_12 hP hS => ?_)
    try dsimp only at hw_12
    rcases hw_12 with ⟨rfl, hw_12⟩ | ⟨rfl, hw_12⟩
    · refine lv_istore (lv' := [(11, .int 1), (10, .int (nI ii_5)), (9, .int ah_5), (8, .int (nI (min rz (min n nq)))), (6, .long v2_5), (4, .long w2_5), (0, .ref y0), (1, .ref h0), (2, .ref d0), (3, .ref c0)]) hx hb dX2_thoughtOf_49 hl (by decide) rfl (fun ls hl => ?_)
      refine lv_lload hx hb dX2_thoughtOf_51 (lv_at hl 5 rfl) ?_
      refine lv_aload_n hx hb dX2_thoughtOf_53 rfl (lv_at hl 7 rfl) ?_
      refine lv_iload hx hb dX2_thoughtOf_54 (lv_at hl 1 rfl) ?_
      refine lv_iload hx hb dX2_thoughtOf_56 (lv_at hl 2 rfl) ?_
      refine lv_iload hx hb dX2_thoughtOf_58 (lv_at hl 0 rfl) ?_
      refine ro_i (D := D) (va_runS (As := [.ref h0, .int (nI ii_5), .int ah_5, .int 1]) (rest := [.long w2_5]) ⟨hx, hb, hml, hown, hts⟩ ((y_likelihood l D k st lo h0 h1 h2 h3 h4 n see tm g ff ii_5 ah_5 1 (by first | assumption | omega)) H.size) (va_cwS 4 hts (gS tw_772 tw_773 tw_83 tw_774) rfl rfl rfl (by decide +kernel) ⟨Nat.le_of_ble_eq_true rfl, Nat.le_of_ble_eq_true rfl⟩) (pS hS hAlo hlo hP hK hDL hZ [1, 2, 3] (by decide) rfl) rfl rfl hl.1 rfl (lv_room (Nat.le_of_ble_eq_true rfl)) dX2_thoughtOf_60 ⟨Nat.le_of_ble_eq_true rfl, Nat.le_of_ble_eq_true rfl⟩) hS hA hP (fun r_13 H locs hw_13 hP hS => ?_)
      try dsimp only at hw_13
      refine lv_i2l (v := r_13.toInt64) hx hb dX2_thoughtOf_63 rfl ?_
      refine lv_lmul hx hb dX2_thoughtOf_64 ?_
      refine lv_topl (fun x_14 ex_14 => ?_)
      refine lv_ldc2 hx hb hown (hts _ tw_775) dX2_thoughtOf_65 ?_
      refine lv_ldiv hx hb dX2_thoughtOf_68 (by decide) ?_
      refine lv_topl (fun x_15 ex_15 => ?_)
      have hta_16 : x_15 = thA (thN (sdX n see tm g ff fp) (sdX nq seeq tmq gq ffq fpq) fr ii_5).1 (pLk (sdX n see tm g ff fp) ii_5 (pAhd fr ii_5) (fr ii_5)) := by unfold thA; rw [ex_15, ex_14, hw_13, xLk1 (see := see) (tm := tm) (fp := fp) (show ii_5 < n by omega) (okX hoka (by omega)) hw_12, hv_5.2.1, hv_5.2.2.1]
      refine lv_lstore (lv' := [(4, .long x_15), (11, .int 1), (10, .int (nI ii_5)), (9, .int ah_5), (8, .int (nI (min rz (min n nq)))), (6, .long v2_5), (0, .ref y0), (1, .ref h0), (2, .ref d0), (3, .ref c0)]) hx hb dX2_thoughtOf_69 hl (by decide) rfl (fun ls hl => ?_)
      refine lv_lload hx hb dX2_thoughtOf_71 (lv_at hl 5 rfl) ?_
      refine lv_aload_n hx hb dX2_thoughtOf_73 rfl (lv_at hl 8 rfl) ?_
      refine lv_iload hx hb dX2_thoughtOf_74 (lv_at hl 2 rfl) ?_
      refine lv_iload hx hb dX2_thoughtOf_76 (lv_at hl 3 rfl) ?_
      refine lv_iload hx hb dX2_thoughtOf_78 (lv_at hl 1 rfl) ?_
      refine ro_i (D := D) (va_runS (As := [.ref d0, .int (nI ii_5), .int ah_5, .int 1]) (rest := [.long v2_5]) ⟨hx, hb, hml, hown, hts⟩ ((y_likelihood l D k st lo d0 d1 d2 d3 d4 nq seeq tmq gq ffq ii_5 ah_5 1 (by first | assumption | omega)) H.size) (va_cwS 4 hts (gS tw_772 tw_773 tw_83 tw_774) rfl rfl rfl (by decide +kernel) ⟨Nat.le_of_ble_eq_true rfl, Nat.le_of_ble_eq_true rfl⟩) (pS hS hAlo hlo hP hK hDL hZ [5, 6, 7] (by decide) rfl) rfl rfl hl.1 rfl (lv_room (Nat.le_of_ble_eq_true rfl)) dX2_thoughtOf_80 ⟨Nat.le_of_ble_eq_true rfl, Nat.le_of_ble_eq_true rfl⟩) hS hA hP (fun r_17 H locs hw_17 hP hS => ?_)
      try dsimp only at hw_17
      refine lv_i2l (v := r_17.toInt64) hx hb dX2_thoughtOf_83 rfl ?_
      refine lv_lmul hx hb dX2_thoughtOf_84 ?_
      refine lv_topl (fun x_18 ex_18 => ?_)
      refine lv_ldc2 hx hb hown (hts _ tw_775) dX2_thoughtOf_85 ?_
      refine lv_ldiv hx hb dX2_thoughtOf_88 (by decide) ?_
      refine lv_topl (fun x_19 ex_19 => ?_)
      have hta_20 : x_19 = thA (thN (sdX n see tm g ff fp) (sdX nq seeq tmq gq ffq fpq) fr ii_5).2 (pLk (sdX nq seeq tmq gq ffq fpq) ii_5 (pAhd fr ii_5) (fr ii_5)) := by unfold thA; rw [ex_19, ex_18, hw_17, xLk1 (see := seeq) (tm := tmq) (fp := fpq) (show ii_5 < nq by omega) (okX hokb (by omega)) hw_12, hv_5.2.1, hv_5.2.2.2]
      refine lv_lstore (lv' := [(6, .long x_19), (4, .long x_15), (11, .int 1), (10, .int (nI ii_5)), (9, .int ah_5), (8, .int (nI (min rz (min n nq)))), (0, .ref y0), (1, .ref h0), (2, .ref d0), (3, .ref c0)]) hx hb dX2_thoughtOf_89 hl (by decide) rfl (fun ls hl => ?_)
      refine lv_lload hx hb dX2_thoughtOf_91 (lv_at hl 1 rfl) ?_
      refine lv_lload hx hb dX2_thoughtOf_93 (lv_at hl 0 rfl) ?_
      refine va_mmax_long hx hb (by rw [hml]; exact hl.1.symm) hown (hts _ tw_776) (hts _ tw_777) (hts _ tw_93) (hts _ tw_778) (Nat.le_of_ble_eq_true rfl) (Nat.le_of_ble_eq_true rfl) (Nat.le_of_ble_eq_true rfl) (Nat.le_of_ble_eq_true rfl) dX2_thoughtOf_95 ?_
      refine lv_topl (fun x_21 ex_21 => ?_)
      refine lv_lstore (lv' := [(12, .long x_21), (6, .long x_19), (4, .long x_15), (11, .int 1), (10, .int (nI ii_5)), (9, .int ah_5), (8, .int (nI (min rz (min n nq)))), (0, .ref y0), (1, .ref h0), (2, .ref d0), (3, .ref c0)]) hx hb dX2_thoughtOf_98 hl (by decide) rfl (fun ls hl => ?_)
      refine lv_lload hx hb dX2_thoughtOf_100 (lv_at hl 0 rfl) ?_
      refine lv_lconst (v := 0) hx hb dX2_thoughtOf_102 (by decide) ?_
      refine W.lcmp hx hb dX2_thoughtOf_103 ?_
      refine lv_if_le (tgt := 129) hx hb dX2_thoughtOf_104 (by decide) (fun c_22 => ?_) (fun c_22 => ?_)
      · have hth_23 := th_neg hta_16 hta_20 (show x_21 = thG x_15 x_19 from ex_21) c_22
        refine lv_iload hx hb dX2_thoughtOf_129 (lv_at hl 3 rfl) ?_
        refine lv_istore (lv' := [(9, .int 1), (12, .long x_21), (6, .long x_19), (4, .long x_15), (11, .int 1), (10, .int (nI ii_5)), (8, .int (nI (min rz (min n nq)))), (0, .ref y0), (1, .ref h0), (2, .ref d0), (3, .ref c0)]) hx hb dX2_thoughtOf_131 hl (by decide) rfl (fun ls hl => ?_)
        refine lv_iinc (v := (nI (ii_5 + 1))) (lv' := [(10, .int (nI (ii_5 + 1))), (9, .int 1), (12, .long x_21), (6, .long x_19), (4, .long x_15), (11, .int 1), (8, .int (nI (min rz (min n nq)))), (0, .ref y0), (1, .ref h0), (2, .ref d0), (3, .ref c0)]) hx hb dX2_thoughtOf_133 hl (k := 5) rfl (nI_add ii_5 1) (by decide) rfl (fun ls hl => ?_)
        refine lv_goto (tgt := 36) hx hb dX2_thoughtOf_136 (by decide) ?_
        exact ih_5 _ (ii_5 + 1, x_15, x_19, 1) _ _ _ (by omega) ⟨rfl, ⟨by omega, ahd_1 hw_12, hth_23.1, hth_23.2⟩, hP, hS, (lv_sub hl [0, 1, 6, 3, 4, 7, 8, 9, 10] rfl)⟩
      · refine lv_lload hx hb dX2_thoughtOf_107 (lv_at hl 2 rfl) ?_
        refine lv_ldc2 hx hb hown (hts _ tw_779) dX2_thoughtOf_109 ?_
        refine lv_lmul hx hb dX2_thoughtOf_112 ?_
        refine lv_topl (fun x_24 ex_24 => ?_)
        refine lv_lload hx hb dX2_thoughtOf_113 (lv_at hl 0 rfl) ?_
        refine lv_ldiv hx hb dX2_thoughtOf_115 (fun h => c_22 (by rw [h]; decide)) ?_
        refine lv_topl (fun x_25 ex_25 => ?_)
        refine lv_lstore (lv' := [(4, .long x_25), (12, .long x_21), (6, .long x_19), (11, .int 1), (10, .int (nI ii_5)), (9, .int ah_5), (8, .int (nI (min rz (min n nq)))), (0, .ref y0), (1, .ref h0), (2, .ref d0), (3, .ref c0)]) hx hb dX2_thoughtOf_116 hl (by decide) rfl (fun ls hl => ?_)
        refine lv_lload hx hb dX2_thoughtOf_118 (lv_at hl 2 rfl) ?_
        refine lv_ldc2 hx hb hown (hts _ tw_779) dX2_thoughtOf_120 ?_
        refine lv_lmul hx hb dX2_thoughtOf_123 ?_
        refine lv_topl (fun x_26 ex_26 => ?_)
        refine lv_lload hx hb dX2_thoughtOf_124 (lv_at hl 1 rfl) ?_
        refine lv_ldiv hx hb dX2_thoughtOf_126 (fun h => c_22 (by rw [h]; decide)) ?_
        refine lv_topl (fun x_27 ex_27 => ?_)
        refine lv_lstore (lv' := [(6, .long x_27), (4, .long x_25), (12, .long x_21), (11, .int 1), (10, .int (nI ii_5)), (9, .int ah_5), (8, .int (nI (min rz (min n nq)))), (0, .ref y0), (1, .ref h0), (2, .ref d0), (3, .ref c0)]) hx hb dX2_thoughtOf_127 hl (by decide) rfl (fun ls hl => ?_)
        have hth_28 := th_pos hta_16 hta_20 (show x_21 = thG x_15 x_19 from ex_21) c_22 ex_24 ex_25 ex_26 ex_27
        refine lv_iload hx hb dX2_thoughtOf_129 (lv_at hl 3 rfl) ?_
        refine lv_istore (lv' := [(9, .int 1), (6, .long x_27), (4, .long x_25), (12, .long x_21), (11, .int 1), (10, .int (nI ii_5)), (8, .int (nI (min rz (min n nq)))), (0, .ref y0), (1, .ref h0), (2, .ref d0), (3, .ref c0)]) hx hb dX2_thoughtOf_131 hl (by decide) rfl (fun ls hl => ?_)
        refine lv_iinc (v := (nI (ii_5 + 1))) (lv' := [(10, .int (nI (ii_5 + 1))), (9, .int 1), (6, .long x_27), (4, .long x_25), (12, .long x_21), (11, .int 1), (8, .int (nI (min rz (min n nq)))), (0, .ref y0), (1, .ref h0), (2, .ref d0), (3, .ref c0)]) hx hb dX2_thoughtOf_133 hl (k := 5) rfl (nI_add ii_5 1) (by decide) rfl (fun ls hl => ?_)
        refine lv_goto (tgt := 36) hx hb dX2_thoughtOf_136 (by decide) ?_
        exact ih_5 _ (ii_5 + 1, x_25, x_27, 1) _ _ _ (by omega) ⟨rfl, ⟨by omega, ahd_1 hw_12, hth_28.1, hth_28.2⟩, hP, hS, (lv_sub hl [0, 1, 6, 2, 3, 7, 8, 9, 10] rfl)⟩
    · refine lv_istore (lv' := [(11, .int 0), (10, .int (nI ii_5)), (9, .int ah_5), (8, .int (nI (min rz (min n nq)))), (6, .long v2_5), (4, .long w2_5), (0, .ref y0), (1, .ref h0), (2, .ref d0), (3, .ref c0)]) hx hb dX2_thoughtOf_49 hl (by decide) rfl (fun ls hl => ?_)
      refine lv_lload hx hb dX2_thoughtOf_51 (lv_at hl 5 rfl) ?_
      refine lv_aload_n hx hb dX2_thoughtOf_53 rfl (lv_at hl 7 rfl) ?_
      refine lv_iload hx hb dX2_thoughtOf_54 (lv_at hl 1 rfl) ?_
      refine lv_iload hx hb dX2_thoughtOf_56 (lv_at hl 2 rfl) ?_
      refine lv_iload hx hb dX2_thoughtOf_58 (lv_at hl 0 rfl) ?_
      refine ro_i (D := D) (va_runS (As := [.ref h0, .int (nI ii_5), .int ah_5, .int 0]) (rest := [.long w2_5]) ⟨hx, hb, hml, hown, hts⟩ ((y_likelihood l D k st lo h0 h1 h2 h3 h4 n see tm g ff ii_5 ah_5 0 (by first | assumption | omega)) H.size) (va_cwS 4 hts (gS tw_772 tw_773 tw_83 tw_774) rfl rfl rfl (by decide +kernel) ⟨Nat.le_of_ble_eq_true rfl, Nat.le_of_ble_eq_true rfl⟩) (pS hS hAlo hlo hP hK hDL hZ [1, 2, 3] (by decide) rfl) rfl rfl hl.1 rfl (lv_room (Nat.le_of_ble_eq_true rfl)) dX2_thoughtOf_60 ⟨Nat.le_of_ble_eq_true rfl, Nat.le_of_ble_eq_true rfl⟩) hS hA hP (fun r_29 H locs hw_29 hP hS => ?_)
      try dsimp only at hw_29
      refine lv_i2l (v := r_29.toInt64) hx hb dX2_thoughtOf_63 rfl ?_
      refine lv_lmul hx hb dX2_thoughtOf_64 ?_
      refine lv_topl (fun x_30 ex_30 => ?_)
      refine lv_ldc2 hx hb hown (hts _ tw_775) dX2_thoughtOf_65 ?_
      refine lv_ldiv hx hb dX2_thoughtOf_68 (by decide) ?_
      refine lv_topl (fun x_31 ex_31 => ?_)
      have hta_32 : x_31 = thA (thN (sdX n see tm g ff fp) (sdX nq seeq tmq gq ffq fpq) fr ii_5).1 (pLk (sdX n see tm g ff fp) ii_5 (pAhd fr ii_5) (fr ii_5)) := by unfold thA; rw [ex_31, ex_30, hw_29, xLk0 (see := see) (tm := tm) (fp := fp) (show ii_5 < n by omega) (okX hoka (by omega)) hw_12, hv_5.2.1, hv_5.2.2.1]
      refine lv_lstore (lv' := [(4, .long x_31), (11, .int 0), (10, .int (nI ii_5)), (9, .int ah_5), (8, .int (nI (min rz (min n nq)))), (6, .long v2_5), (0, .ref y0), (1, .ref h0), (2, .ref d0), (3, .ref c0)]) hx hb dX2_thoughtOf_69 hl (by decide) rfl (fun ls hl => ?_)
      refine lv_lload hx hb dX2_thoughtOf_71 (lv_at hl 5 rfl) ?_
      refine lv_aload_n hx hb dX2_thoughtOf_73 rfl (lv_at hl 8 rfl) ?_
      refine lv_iload hx hb dX2_thoughtOf_74 (lv_at hl 2 rfl) ?_
      refine lv_iload hx hb dX2_thoughtOf_76 (lv_at hl 3 rfl) ?_
      refine lv_iload hx hb dX2_thoughtOf_78 (lv_at hl 1 rfl) ?_
      refine ro_i (D := D) (va_runS (As := [.ref d0, .int (nI ii_5), .int ah_5, .int 0]) (rest := [.long v2_5]) ⟨hx, hb, hml, hown, hts⟩ ((y_likelihood l D k st lo d0 d1 d2 d3 d4 nq seeq tmq gq ffq ii_5 ah_5 0 (by first | assumption | omega)) H.size) (va_cwS 4 hts (gS tw_772 tw_773 tw_83 tw_774) rfl rfl rfl (by decide +kernel) ⟨Nat.le_of_ble_eq_true rfl, Nat.le_of_ble_eq_true rfl⟩) (pS hS hAlo hlo hP hK hDL hZ [5, 6, 7] (by decide) rfl) rfl rfl hl.1 rfl (lv_room (Nat.le_of_ble_eq_true rfl)) dX2_thoughtOf_80 ⟨Nat.le_of_ble_eq_true rfl, Nat.le_of_ble_eq_true rfl⟩) hS hA hP (fun r_33 H locs hw_33 hP hS => ?_)
      try dsimp only at hw_33
      refine lv_i2l (v := r_33.toInt64) hx hb dX2_thoughtOf_83 rfl ?_
      refine lv_lmul hx hb dX2_thoughtOf_84 ?_
      refine lv_topl (fun x_34 ex_34 => ?_)
      refine lv_ldc2 hx hb hown (hts _ tw_775) dX2_thoughtOf_85 ?_
      refine lv_ldiv hx hb dX2_thoughtOf_88 (by decide) ?_
      refine lv_topl (fun x_35 ex_35 => ?_)
      have hta_36 : x_35 = thA (thN (sdX n see tm g ff fp) (sdX nq seeq tmq gq ffq fpq) fr ii_5).2 (pLk (sdX nq seeq tmq gq ffq fpq) ii_5 (pAhd fr ii_5) (fr ii_5)) := by unfold thA; rw [ex_35, ex_34, hw_33, xLk0 (see := seeq) (tm := tmq) (fp := fpq) (show ii_5 < nq by omega) (okX hokb (by omega)) hw_12, hv_5.2.1, hv_5.2.2.2]
      refine lv_lstore (lv' := [(6, .long x_35), (4, .long x_31), (11, .int 0), (10, .int (nI ii_5)), (9, .int ah_5), (8, .int (nI (min rz (min n nq)))), (0, .ref y0), (1, .ref h0), (2, .ref d0), (3, .ref c0)]) hx hb dX2_thoughtOf_89 hl (by decide) rfl (fun ls hl => ?_)
      refine lv_lload hx hb dX2_thoughtOf_91 (lv_at hl 1 rfl) ?_
      refine lv_lload hx hb dX2_thoughtOf_93 (lv_at hl 0 rfl) ?_
      refine va_mmax_long hx hb (by rw [hml]; exact hl.1.symm) hown (hts _ tw_776) (hts _ tw_777) (hts _ tw_93) (hts _ tw_778) (Nat.le_of_ble_eq_true rfl) (Nat.le_of_ble_eq_true rfl) (Nat.le_of_ble_eq_true rfl) (Nat.le_of_ble_eq_true rfl) dX2_thoughtOf_95 ?_
      refine lv_topl (fun x_37 ex_37 => ?_)
      refine lv_lstore (lv' := [(12, .long x_37), (6, .long x_35), (4, .long x_31), (11, .int 0), (10, .int (nI ii_5)), (9, .int ah_5), (8, .int (nI (min rz (min n nq)))), (0, .ref y0), (1, .ref h0), (2, .ref d0), (3, .ref c0)]) hx hb dX2_thoughtOf_98 hl (by decide) rfl (fun ls hl => ?_)
      refine lv_lload hx hb dX2_thoughtOf_100 (lv_at hl 0 rfl) ?_
      refine lv_lconst (v := 0) hx hb dX2_thoughtOf_102 (by decide) ?_
      refine W.lcmp hx hb dX2_thoughtOf_103 ?_
      refine lv_if_le (tgt := 129) hx hb dX2_thoughtOf_104 (by decide) (fun c_38 => ?_) (fun c_38 => ?_)
      · have hth_39 := th_neg hta_32 hta_36 (show x_37 = thG x_31 x_35 from ex_37) c_38
        refine lv_iload hx hb dX2_thoughtOf_129 (lv_at hl 3 rfl) ?_
        refine lv_istore (lv' := [(9, .int 0), (12, .long x_37), (6, .long x_35), (4, .long x_31), (11, .int 0), (10, .int (nI ii_5)), (8, .int (nI (min rz (min n nq)))), (0, .ref y0), (1, .ref h0), (2, .ref d0), (3, .ref c0)]) hx hb dX2_thoughtOf_131 hl (by decide) rfl (fun ls hl => ?_)
        refine lv_iinc (v := (nI (ii_5 + 1))) (lv' := [(10, .int (nI (ii_5 + 1))), (9, .int 0), (12, .long x_37), (6, .long x_35), (4, .long x_31), (11, .int 0), (8, .int (nI (min rz (min n nq)))), (0, .ref y0), (1, .ref h0), (2, .ref d0), (3, .ref c0)]) hx hb dX2_thoughtOf_133 hl (k := 5) rfl (nI_add ii_5 1) (by decide) rfl (fun ls hl => ?_)
        refine lv_goto (tgt := 36) hx hb dX2_thoughtOf_136 (by decide) ?_
        exact ih_5 _ (ii_5 + 1, x_31, x_35, 0) _ _ _ (by omega) ⟨rfl, ⟨by omega, ahd_0 hw_12, hth_39.1, hth_39.2⟩, hP, hS, (lv_sub hl [0, 1, 6, 3, 4, 7, 8, 9, 10] rfl)⟩
      · refine lv_lload hx hb dX2_thoughtOf_107 (lv_at hl 2 rfl) ?_
        refine lv_ldc2 hx hb hown (hts _ tw_779) dX2_thoughtOf_109 ?_
        refine lv_lmul hx hb dX2_thoughtOf_112 ?_
        refine lv_topl (fun x_40 ex_40 => ?_)
        refine lv_lload hx hb dX2_thoughtOf_113 (lv_at hl 0 rfl) ?_
        refine lv_ldiv hx hb dX2_thoughtOf_115 (fun h => c_38 (by rw [h]; decide)) ?_
        refine lv_topl (fun x_41 ex_41 => ?_)
        refine lv_lstore (lv' := [(4, .long x_41), (12, .long x_37), (6, .long x_35), (11, .int 0), (10, .int (nI ii_5)), (9, .int ah_5), (8, .int (nI (min rz (min n nq)))), (0, .ref y0), (1, .ref h0), (2, .ref d0), (3, .ref c0)]) hx hb dX2_thoughtOf_116 hl (by decide) rfl (fun ls hl => ?_)
        refine lv_lload hx hb dX2_thoughtOf_118 (lv_at hl 2 rfl) ?_
        refine lv_ldc2 hx hb hown (hts _ tw_779) dX2_thoughtOf_120 ?_
        refine lv_lmul hx hb dX2_thoughtOf_123 ?_
        refine lv_topl (fun x_42 ex_42 => ?_)
        refine lv_lload hx hb dX2_thoughtOf_124 (lv_at hl 1 rfl) ?_
        refine lv_ldiv hx hb dX2_thoughtOf_126 (fun h => c_38 (by rw [h]; decide)) ?_
        refine lv_topl (fun x_43 ex_43 => ?_)
        refine lv_lstore (lv' := [(6, .long x_43), (4, .long x_41), (12, .long x_37), (11, .int 0), (10, .int (nI ii_5)), (9, .int ah_5), (8, .int (nI (min rz (min n nq)))), (0, .ref y0), (1, .ref h0), (2, .ref d0), (3, .ref c0)]) hx hb dX2_thoughtOf_127 hl (by decide) rfl (fun ls hl => ?_)
        have hth_44 := th_pos hta_32 hta_36 (show x_37 = thG x_31 x_35 from ex_37) c_38 ex_40 ex_41 ex_42 ex_43
        refine lv_iload hx hb dX2_thoughtOf_129 (lv_at hl 3 rfl) ?_
        refine lv_istore (lv' := [(9, .int 0), (6, .long x_43), (4, .long x_41), (12, .long x_37), (11, .int 0), (10, .int (nI ii_5)), (8, .int (nI (min rz (min n nq)))), (0, .ref y0), (1, .ref h0), (2, .ref d0), (3, .ref c0)]) hx hb dX2_thoughtOf_131 hl (by decide) rfl (fun ls hl => ?_)
        refine lv_iinc (v := (nI (ii_5 + 1))) (lv' := [(10, .int (nI (ii_5 + 1))), (9, .int 0), (6, .long x_43), (4, .long x_41), (12, .long x_37), (11, .int 0), (8, .int (nI (min rz (min n nq)))), (0, .ref y0), (1, .ref h0), (2, .ref d0), (3, .ref c0)]) hx hb dX2_thoughtOf_133 hl (k := 5) rfl (nI_add ii_5 1) (by decide) rfl (fun ls hl => ?_)
        refine lv_goto (tgt := 36) hx hb dX2_thoughtOf_136 (by decide) ?_
        exact ih_5 _ (ii_5 + 1, x_41, x_43, 0) _ _ _ (by omega) ⟨rfl, ⟨by omega, ahd_0 hw_12, hth_44.1, hth_44.2⟩, hP, hS, (lv_sub hl [0, 1, 6, 2, 3, 7, 8, 9, 10] rfl)⟩


set_option maxHeartbeats 4000000 in
set_option maxRecDepth 100000 in
theorem y_thought (l : Launch) (D : va_G) (k : Nat → ClassId) (st : Nat → Nat) (lo : Nat) (a : Nat → Nat) (rk : Nat) (lfa : Int32) (n0 : Nat) (see0 : Nat) (tm0 : Nat) (g0 : Nat → Int32) (ff0 : Nat → Int32) (fp0 : Nat → Int32) (n1 : Nat) (see1 : Nat) (tm1 : Nat) (g1 : Nat → Int32) (ff1 : Nat → Int32) (fp1 : Nat → Int32) (n2 : Nat) (see2 : Nat) (tm2 : Nat) (g2 : Nat → Int32) (ff2 : Nat → Int32) (fp2 : Nat → Int32) (cc : Nat) (rz : Nat) (ro : Int32) (sd : Int32) (wt : Int32) (wc : Int32) (p0 : Int32) (p1 : Int32) (fr : Nat → Int32) (hn0 : n0 ≤ 24) (hse0 : see0 ≤ 2) (htm0 : tm0 ≤ 3) (hn1 : n1 ≤ 24) (hse1 : see1 ≤ 2) (htm1 : tm1 ≤ 3) (hn2 : n2 ≤ 24) (hse2 : see2 ≤ 2) (htm2 : tm2 ≤ 3) (hok : ∀ i, i < 3 → okD ((d3 (sdX n0 see0 tm0 g0 ff0 fp0) (sdX n1 see1 tm1 g1 ff1 fp1) (sdX n2 see2 tm2 g2 ff2 fp2)) i)) (hrz : rz ≤ 24) (hro : ro = nI (rowN fr rz)) : CRi l D k st lo yX7_thought cX7_thought 3 (some .int) ({ frames := 4, cells := 0, slots := 0, locals := 140 }) [.ref (a 0), .int p0, .int p1] [((a 0), .inr (7, (fX7 (a 1) (a 3) (a 19) (a 35) (a 40) (nI rk) lfa (a 53) (a 56) (a 63) (a 64) (a 68)))), ((a 3), .inl (k 3, 3, .inr (.inr (.inr (.inr (a3 (a 4) (a 9) (a 14))))))), ((a 4), .inr (5, (fX5 (a 5) (a 6) (a 7) (a 8)))), (aI k (a 5) 10 (vv n0 see0 tm0 g0)), (aI k (a 6) 24 ff0), (aI k (a 7) 24 fp0), ((a 9), .inr (5, (fX5 (a 10) (a 11) (a 12) (a 13)))), (aI k (a 10) 10 (vv n1 see1 tm1 g1)), (aI k (a 11) 24 ff1), (aI k (a 12) 24 fp1), ((a 14), .inr (5, (fX5 (a 15) (a 16) (a 17) (a 18)))), (aI k (a 15) 10 (vv n2 see2 tm2 g2)), (aI k (a 16) 24 ff2), (aI k (a 17) 24 fp2), ((a 53), .inr (4, (fX4 (a 54) (a 55) (nI cc) (nI rz) ro sd))), ((a 64), .inr (2, (fX2 (a 65) (a 66) (a 67) wt wc)))] (fun r => thP (d3 (sdX n0 see0 tm0 g0 ff0 fp0) (sdX n1 see1 tm1 g1 ff1 fp1) (sdX n2 see2 tm2 g2 ff2 fp2)) p0 p1 fr rz r) := by
  intro sz
  refine Met.ofW (cc := cX7_thought) (maxL := 3) (ret := (some .int)) (by decide) rfl ?_
  intro p e s m args below meth c s₁ B hml hv
  obtain ⟨rfl, hsz, hlo, hP, hK, hDL, hZ⟩ := hv
  have hx := B.exec
  have hb := B.bytes
  have hr := B.returns
  have hts := WS_ts B.pre
  have hown : s.vm.findClass RX7 = some m.cls := findClass_of_methodNamed B.named
  have hlocks := B.notSynchronized
  subst hsz
  have hA : ∀ q : Nat, s.heap.size ≤ q → (fun q : Nat => s.heap.size ≤ q) q := fun _ h => h
  have hAlo : ∀ q : Nat, (fun q : Nat => s.heap.size ≤ q) q → lo ≤ q := fun q h => Nat.le_trans hlo h
  have hS : va_S (fun q : Nat => s.heap.size ≤ q) s.heap s.heap [] := va_S.rf
  have hl := lv_entry ([.ref (a 0), .int p0, .int p1]) (n := 3) (Nat.le_of_ble_eq_true rfl)
  rw [lg_entry_eq]
  generalize (lg_sl ([.ref (a 0), .int p0, .int p1]) ++ List.replicate (3 - (lg_sl ([.ref (a 0), .int p0, .int p1])).length) Slot.unset).toArray = ls at hl ⊢
  have hl : lv_has ls 3 [(0, .ref (a 0)), (1, .int p0), (2, .int p1)] := hl
  refine lv_aload_n hx hb dX7_thought_0 rfl (lv_at hl 0 rfl) ?_
  refine lv_iload_n hx hb dX7_thought_1 rfl (lv_at hl 1 rfl) ?_
  refine ro_i (D := D) (va_runV (As := [.int p0]) (rest := []) ⟨hx, hb, hml, hown, hts⟩ ((y_isStreet l D k st lo a rk lfa n0 see0 tm0 g0 n1 see1 tm1 g1 n2 see2 tm2 g2 p0 (by first | assumption | omega) (by first | assumption | omega) (by first | assumption | omega)) s.heap.size) (cwV 1 hts (gV tw_589 tw_591 tw_8 tw_79 tw_592) rfl rfl rfl (by decide +kernel) ⟨Nat.le_of_ble_eq_true rfl, Nat.le_of_ble_eq_true rfl⟩) (pV hS hAlo hlo hP hK hDL hZ [0, 1, 2, 3, 6, 7, 10, 11] (by decide) rfl (ci := 7) (q := (RX7, TX7, 12)) (q0 := 0) rfl rfl) rfl rfl hl.1 rfl (lv_room (Nat.le_of_ble_eq_true rfl)) dX7_thought_2 ⟨Nat.le_of_ble_eq_true rfl, Nat.le_of_ble_eq_true rfl⟩) hS hA hP (fun r_1 H locs hw_1 hP hS => ?_)
  try dsimp only at hw_1
  rcases hw_1 with ⟨rfl, ⟨rfl, hw_1⟩ | ⟨rfl, hw_1⟩ | ⟨rfl, hw_1⟩⟩ | ⟨rfl, hw_1⟩
  · refine lv_if_eq (tgt := 16) hx hb dX7_thought_5 (by decide) (fun h => absurd h (by decide)) (fun _ => ?_)
    refine lv_aload_n hx hb dX7_thought_8 rfl (lv_at hl 0 rfl) ?_
    refine lv_iload_n hx hb dX7_thought_9 rfl (lv_at hl 2 rfl) ?_
    refine ro_i (D := D) (va_runV (As := [.int p1]) (rest := []) ⟨hx, hb, hml, hown, hts⟩ ((y_isStreet l D k st lo a rk lfa n0 see0 tm0 g0 n1 see1 tm1 g1 n2 see2 tm2 g2 p1 (by first | assumption | omega) (by first | assumption | omega) (by first | assumption | omega)) H.size) (cwV 1 hts (gV tw_589 tw_591 tw_8 tw_79 tw_592) rfl rfl rfl (by decide +kernel) ⟨Nat.le_of_ble_eq_true rfl, Nat.le_of_ble_eq_true rfl⟩) (pV hS hAlo hlo hP hK hDL hZ [0, 1, 2, 3, 6, 7, 10, 11] (by decide) rfl (ci := 7) (q := (RX7, TX7, 12)) (q0 := 0) rfl rfl) rfl rfl hl.1 rfl (lv_room (Nat.le_of_ble_eq_true rfl)) dX7_thought_10 ⟨Nat.le_of_ble_eq_true rfl, Nat.le_of_ble_eq_true rfl⟩) hS hA hP (fun r_2 H locs hw_2 hP hS => ?_)
    try dsimp only at hw_2
    rcases hw_2 with ⟨rfl, ⟨rfl, hw_2⟩ | ⟨rfl, hw_2⟩ | ⟨rfl, hw_2⟩⟩ | ⟨rfl, hw_2⟩
    · refine lv_if_ne (tgt := 20) hx hb dX7_thought_13 (by decide) (fun _ => ?_) (fun h => absurd h (by decide))
      refine lv_aload_n hx hb dX7_thought_20 rfl (lv_at hl 0 rfl) ?_
      refine va_get (D := D) (ci := 7) (v := .ref (a 64)) (C := RX7) (T := TX7) (N := 12) hx hb hts inX7 hown hK hP 0 rfl rfl 10 (by decide) (hts _ tw_315) (fun _ h9 => h9) rfl dX7_thought_21 ?_
      refine lv_aload_n hx hb dX7_thought_24 rfl (lv_at hl 0 rfl) ?_
      refine va_get (D := D) (ci := 7) (v := .ref (a 3)) (C := RX7) (T := TX7) (N := 12) hx hb hts inX7 hown hK hP 0 rfl rfl 1 (by decide) (hts _ tw_306) (fun _ h9 => h9) rfl dX7_thought_25 ?_
      refine lv_iload_n hx hb dX7_thought_28 rfl (lv_at hl 1 rfl) ?_
      refine va_aldq hx hb hK hP 1 3 rfl rfl (by unfold vp_in; decide) dX7_thought_29 ?_
      refine lv_tr (y := .ref (a 4)) rfl ?_
      refine lv_aload_n hx hb dX7_thought_30 rfl (lv_at hl 0 rfl) ?_
      refine va_get (D := D) (ci := 7) (v := .ref (a 3)) (C := RX7) (T := TX7) (N := 12) hx hb hts inX7 hown hK hP 0 rfl rfl 1 (by decide) (hts _ tw_306) (fun _ h9 => h9) rfl dX7_thought_31 ?_
      refine lv_iload_n hx hb dX7_thought_34 rfl (lv_at hl 2 rfl) ?_
      refine va_aldq hx hb hK hP 1 3 rfl rfl (by unfold vp_in; decide) dX7_thought_35 ?_
      refine lv_tr (y := .ref (a 4)) rfl ?_
      refine lv_aload_n hx hb dX7_thought_36 rfl (lv_at hl 0 rfl) ?_
      refine va_get (D := D) (ci := 7) (v := .ref (a 53)) (C := RX7) (T := TX7) (N := 12) hx hb hts inX7 hown hK hP 0 rfl rfl 7 (by decide) (hts _ tw_312) (fun _ h9 => h9) rfl dX7_thought_37 ?_
      refine ro_i (D := D) (va_runV (As := [.ref (a 4), .ref (a 4), .ref (a 53)]) (rest := []) ⟨hx, hb, hml, hown, hts⟩ ((y_thoughtOf1 l D k st lo (a 64) (a 65) (a 66) (a 67) wt wc (a 4) (a 5) (a 6) (a 7) (a 8) n0 see0 tm0 g0 ff0 fp0 (a 53) (a 54) (a 55) cc rz ro sd fr (by first | assumption | omega) (by first | assumption | omega) hro (hok 0 (by omega))) H.size) (cwV 3 hts (gV tw_765 tw_766 tw_767 tw_83 tw_768) rfl rfl rfl (by decide +kernel) ⟨Nat.le_of_ble_eq_true rfl, Nat.le_of_ble_eq_true rfl⟩) (pV hS hAlo hlo hP hK hDL hZ [15, 2, 3, 4, 5, 14] (by decide) rfl (ci := 2) (q := (RX2, TX2, 5)) (q0 := 0) rfl rfl) rfl rfl hl.1 rfl (lv_room (Nat.le_of_ble_eq_true rfl)) dX7_thought_40 ⟨Nat.le_of_ble_eq_true rfl, Nat.le_of_ble_eq_true rfl⟩) hS hA hP (fun r_3 H locs hw_3 hP hS => ?_)
      try dsimp only at hw_3
      exact W.iret (v := r_3) hx hb hr (fun t ht hW => ⟨⟨r_3, (), rfl, th_at (s := 0) (t := 0) (by omega) (by omega) (show 0 < n0 by omega) (show 0 < n0 by omega) hw_3, trivial⟩, hS.F ht⟩) hS.2.2 dX7_thought_43
    · refine lv_if_ne (tgt := 20) hx hb dX7_thought_13 (by decide) (fun _ => ?_) (fun h => absurd h (by decide))
      refine lv_aload_n hx hb dX7_thought_20 rfl (lv_at hl 0 rfl) ?_
      refine va_get (D := D) (ci := 7) (v := .ref (a 64)) (C := RX7) (T := TX7) (N := 12) hx hb hts inX7 hown hK hP 0 rfl rfl 10 (by decide) (hts _ tw_315) (fun _ h9 => h9) rfl dX7_thought_21 ?_
      refine lv_aload_n hx hb dX7_thought_24 rfl (lv_at hl 0 rfl) ?_
      refine va_get (D := D) (ci := 7) (v := .ref (a 3)) (C := RX7) (T := TX7) (N := 12) hx hb hts inX7 hown hK hP 0 rfl rfl 1 (by decide) (hts _ tw_306) (fun _ h9 => h9) rfl dX7_thought_25 ?_
      refine lv_iload_n hx hb dX7_thought_28 rfl (lv_at hl 1 rfl) ?_
      refine va_aldq hx hb hK hP 1 3 rfl rfl (by unfold vp_in; decide) dX7_thought_29 ?_
      refine lv_tr (y := .ref (a 4)) rfl ?_
      refine lv_aload_n hx hb dX7_thought_30 rfl (lv_at hl 0 rfl) ?_
      refine va_get (D := D) (ci := 7) (v := .ref (a 3)) (C := RX7) (T := TX7) (N := 12) hx hb hts inX7 hown hK hP 0 rfl rfl 1 (by decide) (hts _ tw_306) (fun _ h9 => h9) rfl dX7_thought_31 ?_
      refine lv_iload_n hx hb dX7_thought_34 rfl (lv_at hl 2 rfl) ?_
      refine va_aldq hx hb hK hP 1 3 rfl rfl (by unfold vp_in; decide) dX7_thought_35 ?_
      refine lv_tr (y := .ref (a 9)) rfl ?_
      refine lv_aload_n hx hb dX7_thought_36 rfl (lv_at hl 0 rfl) ?_
      refine va_get (D := D) (ci := 7) (v := .ref (a 53)) (C := RX7) (T := TX7) (N := 12) hx hb hts inX7 hown hK hP 0 rfl rfl 7 (by decide) (hts _ tw_312) (fun _ h9 => h9) rfl dX7_thought_37 ?_
      refine ro_i (D := D) (va_runV (As := [.ref (a 4), .ref (a 9), .ref (a 53)]) (rest := []) ⟨hx, hb, hml, hown, hts⟩ ((y_thoughtOf l D k st lo (a 64) (a 65) (a 66) (a 67) wt wc (a 4) (a 5) (a 6) (a 7) (a 8) n0 see0 tm0 g0 ff0 fp0 (a 9) (a 10) (a 11) (a 12) (a 13) n1 see1 tm1 g1 ff1 fp1 (a 53) (a 54) (a 55) cc rz ro sd fr (by first | assumption | omega) (by first | assumption | omega) (by first | assumption | omega) hro (hok 0 (by omega)) (hok 1 (by omega))) H.size) (cwV 3 hts (gV tw_765 tw_766 tw_767 tw_83 tw_768) rfl rfl rfl (by decide +kernel) ⟨Nat.le_of_ble_eq_true rfl, Nat.le_of_ble_eq_true rfl⟩) (pV hS hAlo hlo hP hK hDL hZ [15, 2, 3, 4, 5, 6, 7, 8, 9, 14] (by decide +kernel) rfl (ci := 2) (q := (RX2, TX2, 5)) (q0 := 0) rfl rfl) rfl rfl hl.1 rfl (lv_room (Nat.le_of_ble_eq_true rfl)) dX7_thought_40 ⟨Nat.le_of_ble_eq_true rfl, Nat.le_of_ble_eq_true rfl⟩) hS hA hP (fun r_4 H locs hw_4 hP hS => ?_)
      try dsimp only at hw_4
      exact W.iret (v := r_4) hx hb hr (fun t ht hW => ⟨⟨r_4, (), rfl, th_at (s := 0) (t := 1) (by omega) (by omega) (show 0 < n0 by omega) (show 0 < n1 by omega) hw_4, trivial⟩, hS.F ht⟩) hS.2.2 dX7_thought_43
    · refine lv_if_ne (tgt := 20) hx hb dX7_thought_13 (by decide) (fun _ => ?_) (fun h => absurd h (by decide))
      refine lv_aload_n hx hb dX7_thought_20 rfl (lv_at hl 0 rfl) ?_
      refine va_get (D := D) (ci := 7) (v := .ref (a 64)) (C := RX7) (T := TX7) (N := 12) hx hb hts inX7 hown hK hP 0 rfl rfl 10 (by decide) (hts _ tw_315) (fun _ h9 => h9) rfl dX7_thought_21 ?_
      refine lv_aload_n hx hb dX7_thought_24 rfl (lv_at hl 0 rfl) ?_
      refine va_get (D := D) (ci := 7) (v := .ref (a 3)) (C := RX7) (T := TX7) (N := 12) hx hb hts inX7 hown hK hP 0 rfl rfl 1 (by decide) (hts _ tw_306) (fun _ h9 => h9) rfl dX7_thought_25 ?_
      refine lv_iload_n hx hb dX7_thought_28 rfl (lv_at hl 1 rfl) ?_
      refine va_aldq hx hb hK hP 1 3 rfl rfl (by unfold vp_in; decide) dX7_thought_29 ?_
      refine lv_tr (y := .ref (a 4)) rfl ?_
      refine lv_aload_n hx hb dX7_thought_30 rfl (lv_at hl 0 rfl) ?_
      refine va_get (D := D) (ci := 7) (v := .ref (a 3)) (C := RX7) (T := TX7) (N := 12) hx hb hts inX7 hown hK hP 0 rfl rfl 1 (by decide) (hts _ tw_306) (fun _ h9 => h9) rfl dX7_thought_31 ?_
      refine lv_iload_n hx hb dX7_thought_34 rfl (lv_at hl 2 rfl) ?_
      refine va_aldq hx hb hK hP 1 3 rfl rfl (by unfold vp_in; decide) dX7_thought_35 ?_
      refine lv_tr (y := .ref (a 14)) rfl ?_
      refine lv_aload_n hx hb dX7_thought_36 rfl (lv_at hl 0 rfl) ?_
      refine va_get (D := D) (ci := 7) (v := .ref (a 53)) (C := RX7) (T := TX7) (N := 12) hx hb hts inX7 hown hK hP 0 rfl rfl 7 (by decide) (hts _ tw_312) (fun _ h9 => h9) rfl dX7_thought_37 ?_
      refine ro_i (D := D) (va_runV (As := [.ref (a 4), .ref (a 14), .ref (a 53)]) (rest := []) ⟨hx, hb, hml, hown, hts⟩ ((y_thoughtOf l D k st lo (a 64) (a 65) (a 66) (a 67) wt wc (a 4) (a 5) (a 6) (a 7) (a 8) n0 see0 tm0 g0 ff0 fp0 (a 14) (a 15) (a 16) (a 17) (a 18) n2 see2 tm2 g2 ff2 fp2 (a 53) (a 54) (a 55) cc rz ro sd fr (by first | assumption | omega) (by first | assumption | omega) (by first | assumption | omega) hro (hok 0 (by omega)) (hok 2 (by omega))) H.size) (cwV 3 hts (gV tw_765 tw_766 tw_767 tw_83 tw_768) rfl rfl rfl (by decide +kernel) ⟨Nat.le_of_ble_eq_true rfl, Nat.le_of_ble_eq_true rfl⟩) (pV hS hAlo hlo hP hK hDL hZ [15, 2, 3, 4, 5, 10, 11, 12, 13, 14] (by decide +kernel) rfl (ci := 2) (q := (RX2, TX2, 5)) (q0 := 0) rfl rfl) rfl rfl hl.1 rfl (lv_room (Nat.le_of_ble_eq_true rfl)) dX7_thought_40 ⟨Nat.le_of_ble_eq_true rfl, Nat.le_of_ble_eq_true rfl⟩) hS hA hP (fun r_5 H locs hw_5 hP hS => ?_)
      try dsimp only at hw_5
      exact W.iret (v := r_5) hx hb hr (fun t ht hW => ⟨⟨r_5, (), rfl, th_at (s := 0) (t := 2) (by omega) (by omega) (show 0 < n0 by omega) (show 0 < n2 by omega) hw_5, trivial⟩, hS.F ht⟩) hS.2.2 dX7_thought_43
    · refine lv_if_ne (tgt := 20) hx hb dX7_thought_13 (by decide) (fun h => absurd (by decide) h) (fun _ => ?_)
      refine lv_sipush (v := (-1001)) hx hb dX7_thought_16 (by decide) ?_
      exact W.iret (v := (-1001)) hx hb hr (fun t ht hW => ⟨⟨(-1001), (), rfl, th_no1 (fun s h1 h2 h3 => hw_2 s h1 h2 (by rw [d3_n] at h3; exact h3)), trivial⟩, hS.F ht⟩) hS.2.2 dX7_thought_19
  · refine lv_if_eq (tgt := 16) hx hb dX7_thought_5 (by decide) (fun h => absurd h (by decide)) (fun _ => ?_)
    refine lv_aload_n hx hb dX7_thought_8 rfl (lv_at hl 0 rfl) ?_
    refine lv_iload_n hx hb dX7_thought_9 rfl (lv_at hl 2 rfl) ?_
    refine ro_i (D := D) (va_runV (As := [.int p1]) (rest := []) ⟨hx, hb, hml, hown, hts⟩ ((y_isStreet l D k st lo a rk lfa n0 see0 tm0 g0 n1 see1 tm1 g1 n2 see2 tm2 g2 p1 (by first | assumption | omega) (by first | assumption | omega) (by first | assumption | omega)) H.size) (cwV 1 hts (gV tw_589 tw_591 tw_8 tw_79 tw_592) rfl rfl rfl (by decide +kernel) ⟨Nat.le_of_ble_eq_true rfl, Nat.le_of_ble_eq_true rfl⟩) (pV hS hAlo hlo hP hK hDL hZ [0, 1, 2, 3, 6, 7, 10, 11] (by decide) rfl (ci := 7) (q := (RX7, TX7, 12)) (q0 := 0) rfl rfl) rfl rfl hl.1 rfl (lv_room (Nat.le_of_ble_eq_true rfl)) dX7_thought_10 ⟨Nat.le_of_ble_eq_true rfl, Nat.le_of_ble_eq_true rfl⟩) hS hA hP (fun r_6 H locs hw_6 hP hS => ?_)
    try dsimp only at hw_6
    rcases hw_6 with ⟨rfl, ⟨rfl, hw_6⟩ | ⟨rfl, hw_6⟩ | ⟨rfl, hw_6⟩⟩ | ⟨rfl, hw_6⟩
    · refine lv_if_ne (tgt := 20) hx hb dX7_thought_13 (by decide) (fun _ => ?_) (fun h => absurd h (by decide))
      refine lv_aload_n hx hb dX7_thought_20 rfl (lv_at hl 0 rfl) ?_
      refine va_get (D := D) (ci := 7) (v := .ref (a 64)) (C := RX7) (T := TX7) (N := 12) hx hb hts inX7 hown hK hP 0 rfl rfl 10 (by decide) (hts _ tw_315) (fun _ h9 => h9) rfl dX7_thought_21 ?_
      refine lv_aload_n hx hb dX7_thought_24 rfl (lv_at hl 0 rfl) ?_
      refine va_get (D := D) (ci := 7) (v := .ref (a 3)) (C := RX7) (T := TX7) (N := 12) hx hb hts inX7 hown hK hP 0 rfl rfl 1 (by decide) (hts _ tw_306) (fun _ h9 => h9) rfl dX7_thought_25 ?_
      refine lv_iload_n hx hb dX7_thought_28 rfl (lv_at hl 1 rfl) ?_
      refine va_aldq hx hb hK hP 1 3 rfl rfl (by unfold vp_in; decide) dX7_thought_29 ?_
      refine lv_tr (y := .ref (a 9)) rfl ?_
      refine lv_aload_n hx hb dX7_thought_30 rfl (lv_at hl 0 rfl) ?_
      refine va_get (D := D) (ci := 7) (v := .ref (a 3)) (C := RX7) (T := TX7) (N := 12) hx hb hts inX7 hown hK hP 0 rfl rfl 1 (by decide) (hts _ tw_306) (fun _ h9 => h9) rfl dX7_thought_31 ?_
      refine lv_iload_n hx hb dX7_thought_34 rfl (lv_at hl 2 rfl) ?_
      refine va_aldq hx hb hK hP 1 3 rfl rfl (by unfold vp_in; decide) dX7_thought_35 ?_
      refine lv_tr (y := .ref (a 4)) rfl ?_
      refine lv_aload_n hx hb dX7_thought_36 rfl (lv_at hl 0 rfl) ?_
      refine va_get (D := D) (ci := 7) (v := .ref (a 53)) (C := RX7) (T := TX7) (N := 12) hx hb hts inX7 hown hK hP 0 rfl rfl 7 (by decide) (hts _ tw_312) (fun _ h9 => h9) rfl dX7_thought_37 ?_
      refine ro_i (D := D) (va_runV (As := [.ref (a 9), .ref (a 4), .ref (a 53)]) (rest := []) ⟨hx, hb, hml, hown, hts⟩ ((y_thoughtOf l D k st lo (a 64) (a 65) (a 66) (a 67) wt wc (a 9) (a 10) (a 11) (a 12) (a 13) n1 see1 tm1 g1 ff1 fp1 (a 4) (a 5) (a 6) (a 7) (a 8) n0 see0 tm0 g0 ff0 fp0 (a 53) (a 54) (a 55) cc rz ro sd fr (by first | assumption | omega) (by first | assumption | omega) (by first | assumption | omega) hro (hok 1 (by omega)) (hok 0 (by omega))) H.size) (cwV 3 hts (gV tw_765 tw_766 tw_767 tw_83 tw_768) rfl rfl rfl (by decide +kernel) ⟨Nat.le_of_ble_eq_true rfl, Nat.le_of_ble_eq_true rfl⟩) (pV hS hAlo hlo hP hK hDL hZ [15, 6, 7, 8, 9, 2, 3, 4, 5, 14] (by decide +kernel) rfl (ci := 2) (q := (RX2, TX2, 5)) (q0 := 0) rfl rfl) rfl rfl hl.1 rfl (lv_room (Nat.le_of_ble_eq_true rfl)) dX7_thought_40 ⟨Nat.le_of_ble_eq_true rfl, Nat.le_of_ble_eq_true rfl⟩) hS hA hP (fun r_7 H locs hw_7 hP hS => ?_)
      try dsimp only at hw_7
      exact W.iret (v := r_7) hx hb hr (fun t ht hW => ⟨⟨r_7, (), rfl, th_at (s := 1) (t := 0) (by omega) (by omega) (show 0 < n1 by omega) (show 0 < n0 by omega) hw_7, trivial⟩, hS.F ht⟩) hS.2.2 dX7_thought_43
    · refine lv_if_ne (tgt := 20) hx hb dX7_thought_13 (by decide) (fun _ => ?_) (fun h => absurd h (by decide))
      refine lv_aload_n hx hb dX7_thought_20 rfl (lv_at hl 0 rfl) ?_
      refine va_get (D := D) (ci := 7) (v := .ref (a 64)) (C := RX7) (T := TX7) (N := 12) hx hb hts inX7 hown hK hP 0 rfl rfl 10 (by decide) (hts _ tw_315) (fun _ h9 => h9) rfl dX7_thought_21 ?_
      refine lv_aload_n hx hb dX7_thought_24 rfl (lv_at hl 0 rfl) ?_
      refine va_get (D := D) (ci := 7) (v := .ref (a 3)) (C := RX7) (T := TX7) (N := 12) hx hb hts inX7 hown hK hP 0 rfl rfl 1 (by decide) (hts _ tw_306) (fun _ h9 => h9) rfl dX7_thought_25 ?_
      refine lv_iload_n hx hb dX7_thought_28 rfl (lv_at hl 1 rfl) ?_
      refine va_aldq hx hb hK hP 1 3 rfl rfl (by unfold vp_in; decide) dX7_thought_29 ?_
      refine lv_tr (y := .ref (a 9)) rfl ?_
      refine lv_aload_n hx hb dX7_thought_30 rfl (lv_at hl 0 rfl) ?_
      refine va_get (D := D) (ci := 7) (v := .ref (a 3)) (C := RX7) (T := TX7) (N := 12) hx hb hts inX7 hown hK hP 0 rfl rfl 1 (by decide) (hts _ tw_306) (fun _ h9 => h9) rfl dX7_thought_31 ?_
      refine lv_iload_n hx hb dX7_thought_34 rfl (lv_at hl 2 rfl) ?_
      refine va_aldq hx hb hK hP 1 3 rfl rfl (by unfold vp_in; decide) dX7_thought_35 ?_
      refine lv_tr (y := .ref (a 9)) rfl ?_
      refine lv_aload_n hx hb dX7_thought_36 rfl (lv_at hl 0 rfl) ?_
      refine va_get (D := D) (ci := 7) (v := .ref (a 53)) (C := RX7) (T := TX7) (N := 12) hx hb hts inX7 hown hK hP 0 rfl rfl 7 (by decide) (hts _ tw_312) (fun _ h9 => h9) rfl dX7_thought_37 ?_
      refine ro_i (D := D) (va_runV (As := [.ref (a 9), .ref (a 9), .ref (a 53)]) (rest := []) ⟨hx, hb, hml, hown, hts⟩ ((y_thoughtOf1 l D k st lo (a 64) (a 65) (a 66) (a 67) wt wc (a 9) (a 10) (a 11) (a 12) (a 13) n1 see1 tm1 g1 ff1 fp1 (a 53) (a 54) (a 55) cc rz ro sd fr (by first | assumption | omega) (by first | assumption | omega) hro (hok 1 (by omega))) H.size) (cwV 3 hts (gV tw_765 tw_766 tw_767 tw_83 tw_768) rfl rfl rfl (by decide +kernel) ⟨Nat.le_of_ble_eq_true rfl, Nat.le_of_ble_eq_true rfl⟩) (pV hS hAlo hlo hP hK hDL hZ [15, 6, 7, 8, 9, 14] (by decide) rfl (ci := 2) (q := (RX2, TX2, 5)) (q0 := 0) rfl rfl) rfl rfl hl.1 rfl (lv_room (Nat.le_of_ble_eq_true rfl)) dX7_thought_40 ⟨Nat.le_of_ble_eq_true rfl, Nat.le_of_ble_eq_true rfl⟩) hS hA hP (fun r_8 H locs hw_8 hP hS => ?_)
      try dsimp only at hw_8
      exact W.iret (v := r_8) hx hb hr (fun t ht hW => ⟨⟨r_8, (), rfl, th_at (s := 1) (t := 1) (by omega) (by omega) (show 0 < n1 by omega) (show 0 < n1 by omega) hw_8, trivial⟩, hS.F ht⟩) hS.2.2 dX7_thought_43
    · refine lv_if_ne (tgt := 20) hx hb dX7_thought_13 (by decide) (fun _ => ?_) (fun h => absurd h (by decide))
      refine lv_aload_n hx hb dX7_thought_20 rfl (lv_at hl 0 rfl) ?_
      refine va_get (D := D) (ci := 7) (v := .ref (a 64)) (C := RX7) (T := TX7) (N := 12) hx hb hts inX7 hown hK hP 0 rfl rfl 10 (by decide) (hts _ tw_315) (fun _ h9 => h9) rfl dX7_thought_21 ?_
      refine lv_aload_n hx hb dX7_thought_24 rfl (lv_at hl 0 rfl) ?_
      refine va_get (D := D) (ci := 7) (v := .ref (a 3)) (C := RX7) (T := TX7) (N := 12) hx hb hts inX7 hown hK hP 0 rfl rfl 1 (by decide) (hts _ tw_306) (fun _ h9 => h9) rfl dX7_thought_25 ?_
      refine lv_iload_n hx hb dX7_thought_28 rfl (lv_at hl 1 rfl) ?_
      refine va_aldq hx hb hK hP 1 3 rfl rfl (by unfold vp_in; decide) dX7_thought_29 ?_
      refine lv_tr (y := .ref (a 9)) rfl ?_
      refine lv_aload_n hx hb dX7_thought_30 rfl (lv_at hl 0 rfl) ?_
      refine va_get (D := D) (ci := 7) (v := .ref (a 3)) (C := RX7) (T := TX7) (N := 12) hx hb hts inX7 hown hK hP 0 rfl rfl 1 (by decide) (hts _ tw_306) (fun _ h9 => h9) rfl dX7_thought_31 ?_
      refine lv_iload_n hx hb dX7_thought_34 rfl (lv_at hl 2 rfl) ?_
      refine va_aldq hx hb hK hP 1 3 rfl rfl (by unfold vp_in; decide) dX7_thought_35 ?_
      refine lv_tr (y := .ref (a 14)) rfl ?_
      refine lv_aload_n hx hb dX7_thought_36 rfl (lv_at hl 0 rfl) ?_
      refine va_get (D := D) (ci := 7) (v := .ref (a 53)) (C := RX7) (T := TX7) (N := 12) hx hb hts inX7 hown hK hP 0 rfl rfl 7 (by decide) (hts _ tw_312) (fun _ h9 => h9) rfl dX7_thought_37 ?_
      refine ro_i (D := D) (va_runV (As := [.ref (a 9), .ref (a 14), .ref (a 53)]) (rest := []) ⟨hx, hb, hml, hown, hts⟩ ((y_thoughtOf l D k st lo (a 64) (a 65) (a 66) (a 67) wt wc (a 9) (a 10) (a 11) (a 12) (a 13) n1 see1 tm1 g1 ff1 fp1 (a 14) (a 15) (a 16) (a 17) (a 18) n2 see2 tm2 g2 ff2 fp2 (a 53) (a 54) (a 55) cc rz ro sd fr (by first | assumption | omega) (by first | assumption | omega) (by first | assumption | omega) hro (hok 1 (by omega)) (hok 2 (by omega))) H.size) (cwV 3 hts (gV tw_765 tw_766 tw_767 tw_83 tw_768) rfl rfl rfl (by decide +kernel) ⟨Nat.le_of_ble_eq_true rfl, Nat.le_of_ble_eq_true rfl⟩) (pV hS hAlo hlo hP hK hDL hZ [15, 6, 7, 8, 9, 10, 11, 12, 13, 14] (by decide +kernel) rfl (ci := 2) (q := (RX2, TX2, 5)) (q0 := 0) rfl rfl) rfl rfl hl.1 rfl (lv_room (Nat.le_of_ble_eq_true rfl)) dX7_thought_40 ⟨Nat.le_of_ble_eq_true rfl, Nat.le_of_ble_eq_true rfl⟩) hS hA hP (fun r_9 H locs hw_9 hP hS => ?_)
      try dsimp only at hw_9
      exact W.iret (v := r_9) hx hb hr (fun t ht hW => ⟨⟨r_9, (), rfl, th_at (s := 1) (t := 2) (by omega) (by omega) (show 0 < n1 by omega) (show 0 < n2 by omega) hw_9, trivial⟩, hS.F ht⟩) hS.2.2 dX7_thought_43
    · refine lv_if_ne (tgt := 20) hx hb dX7_thought_13 (by decide) (fun h => absurd (by decide) h) (fun _ => ?_)
      refine lv_sipush (v := (-1001)) hx hb dX7_thought_16 (by decide) ?_
      exact W.iret (v := (-1001)) hx hb hr (fun t ht hW => ⟨⟨(-1001), (), rfl, th_no1 (fun s h1 h2 h3 => hw_6 s h1 h2 (by rw [d3_n] at h3; exact h3)), trivial⟩, hS.F ht⟩) hS.2.2 dX7_thought_19
  · refine lv_if_eq (tgt := 16) hx hb dX7_thought_5 (by decide) (fun h => absurd h (by decide)) (fun _ => ?_)
    refine lv_aload_n hx hb dX7_thought_8 rfl (lv_at hl 0 rfl) ?_
    refine lv_iload_n hx hb dX7_thought_9 rfl (lv_at hl 2 rfl) ?_
    refine ro_i (D := D) (va_runV (As := [.int p1]) (rest := []) ⟨hx, hb, hml, hown, hts⟩ ((y_isStreet l D k st lo a rk lfa n0 see0 tm0 g0 n1 see1 tm1 g1 n2 see2 tm2 g2 p1 (by first | assumption | omega) (by first | assumption | omega) (by first | assumption | omega)) H.size) (cwV 1 hts (gV tw_589 tw_591 tw_8 tw_79 tw_592) rfl rfl rfl (by decide +kernel) ⟨Nat.le_of_ble_eq_true rfl, Nat.le_of_ble_eq_true rfl⟩) (pV hS hAlo hlo hP hK hDL hZ [0, 1, 2, 3, 6, 7, 10, 11] (by decide) rfl (ci := 7) (q := (RX7, TX7, 12)) (q0 := 0) rfl rfl) rfl rfl hl.1 rfl (lv_room (Nat.le_of_ble_eq_true rfl)) dX7_thought_10 ⟨Nat.le_of_ble_eq_true rfl, Nat.le_of_ble_eq_true rfl⟩) hS hA hP (fun r_10 H locs hw_10 hP hS => ?_)
    try dsimp only at hw_10
    rcases hw_10 with ⟨rfl, ⟨rfl, hw_10⟩ | ⟨rfl, hw_10⟩ | ⟨rfl, hw_10⟩⟩ | ⟨rfl, hw_10⟩
    · refine lv_if_ne (tgt := 20) hx hb dX7_thought_13 (by decide) (fun _ => ?_) (fun h => absurd h (by decide))
      refine lv_aload_n hx hb dX7_thought_20 rfl (lv_at hl 0 rfl) ?_
      refine va_get (D := D) (ci := 7) (v := .ref (a 64)) (C := RX7) (T := TX7) (N := 12) hx hb hts inX7 hown hK hP 0 rfl rfl 10 (by decide) (hts _ tw_315) (fun _ h9 => h9) rfl dX7_thought_21 ?_
      refine lv_aload_n hx hb dX7_thought_24 rfl (lv_at hl 0 rfl) ?_
      refine va_get (D := D) (ci := 7) (v := .ref (a 3)) (C := RX7) (T := TX7) (N := 12) hx hb hts inX7 hown hK hP 0 rfl rfl 1 (by decide) (hts _ tw_306) (fun _ h9 => h9) rfl dX7_thought_25 ?_
      refine lv_iload_n hx hb dX7_thought_28 rfl (lv_at hl 1 rfl) ?_
      refine va_aldq hx hb hK hP 1 3 rfl rfl (by unfold vp_in; decide) dX7_thought_29 ?_
      refine lv_tr (y := .ref (a 14)) rfl ?_
      refine lv_aload_n hx hb dX7_thought_30 rfl (lv_at hl 0 rfl) ?_
      refine va_get (D := D) (ci := 7) (v := .ref (a 3)) (C := RX7) (T := TX7) (N := 12) hx hb hts inX7 hown hK hP 0 rfl rfl 1 (by decide) (hts _ tw_306) (fun _ h9 => h9) rfl dX7_thought_31 ?_
      refine lv_iload_n hx hb dX7_thought_34 rfl (lv_at hl 2 rfl) ?_
      refine va_aldq hx hb hK hP 1 3 rfl rfl (by unfold vp_in; decide) dX7_thought_35 ?_
      refine lv_tr (y := .ref (a 4)) rfl ?_
      refine lv_aload_n hx hb dX7_thought_36 rfl (lv_at hl 0 rfl) ?_
      refine va_get (D := D) (ci := 7) (v := .ref (a 53)) (C := RX7) (T := TX7) (N := 12) hx hb hts inX7 hown hK hP 0 rfl rfl 7 (by decide) (hts _ tw_312) (fun _ h9 => h9) rfl dX7_thought_37 ?_
      refine ro_i (D := D) (va_runV (As := [.ref (a 14), .ref (a 4), .ref (a 53)]) (rest := []) ⟨hx, hb, hml, hown, hts⟩ ((y_thoughtOf l D k st lo (a 64) (a 65) (a 66) (a 67) wt wc (a 14) (a 15) (a 16) (a 17) (a 18) n2 see2 tm2 g2 ff2 fp2 (a 4) (a 5) (a 6) (a 7) (a 8) n0 see0 tm0 g0 ff0 fp0 (a 53) (a 54) (a 55) cc rz ro sd fr (by first | assumption | omega) (by first | assumption | omega) (by first | assumption | omega) hro (hok 2 (by omega)) (hok 0 (by omega))) H.size) (cwV 3 hts (gV tw_765 tw_766 tw_767 tw_83 tw_768) rfl rfl rfl (by decide +kernel) ⟨Nat.le_of_ble_eq_true rfl, Nat.le_of_ble_eq_true rfl⟩) (pV hS hAlo hlo hP hK hDL hZ [15, 10, 11, 12, 13, 2, 3, 4, 5, 14] (by decide +kernel) rfl (ci := 2) (q := (RX2, TX2, 5)) (q0 := 0) rfl rfl) rfl rfl hl.1 rfl (lv_room (Nat.le_of_ble_eq_true rfl)) dX7_thought_40 ⟨Nat.le_of_ble_eq_true rfl, Nat.le_of_ble_eq_true rfl⟩) hS hA hP (fun r_11 H locs hw_11 hP hS => ?_)
      try dsimp only at hw_11
      exact W.iret (v := r_11) hx hb hr (fun t ht hW => ⟨⟨r_11, (), rfl, th_at (s := 2) (t := 0) (by omega) (by omega) (show 0 < n2 by omega) (show 0 < n0 by omega) hw_11, trivial⟩, hS.F ht⟩) hS.2.2 dX7_thought_43
    · refine lv_if_ne (tgt := 20) hx hb dX7_thought_13 (by decide) (fun _ => ?_) (fun h => absurd h (by decide))
      refine lv_aload_n hx hb dX7_thought_20 rfl (lv_at hl 0 rfl) ?_
      refine va_get (D := D) (ci := 7) (v := .ref (a 64)) (C := RX7) (T := TX7) (N := 12) hx hb hts inX7 hown hK hP 0 rfl rfl 10 (by decide) (hts _ tw_315) (fun _ h9 => h9) rfl dX7_thought_21 ?_
      refine lv_aload_n hx hb dX7_thought_24 rfl (lv_at hl 0 rfl) ?_
      refine va_get (D := D) (ci := 7) (v := .ref (a 3)) (C := RX7) (T := TX7) (N := 12) hx hb hts inX7 hown hK hP 0 rfl rfl 1 (by decide) (hts _ tw_306) (fun _ h9 => h9) rfl dX7_thought_25 ?_
      refine lv_iload_n hx hb dX7_thought_28 rfl (lv_at hl 1 rfl) ?_
      refine va_aldq hx hb hK hP 1 3 rfl rfl (by unfold vp_in; decide) dX7_thought_29 ?_
      refine lv_tr (y := .ref (a 14)) rfl ?_
      refine lv_aload_n hx hb dX7_thought_30 rfl (lv_at hl 0 rfl) ?_
      refine va_get (D := D) (ci := 7) (v := .ref (a 3)) (C := RX7) (T := TX7) (N := 12) hx hb hts inX7 hown hK hP 0 rfl rfl 1 (by decide) (hts _ tw_306) (fun _ h9 => h9) rfl dX7_thought_31 ?_
      refine lv_iload_n hx hb dX7_thought_34 rfl (lv_at hl 2 rfl) ?_
      refine va_aldq hx hb hK hP 1 3 rfl rfl (by unfold vp_in; decide) dX7_thought_35 ?_
      refine lv_tr (y := .ref (a 9)) rfl ?_
      refine lv_aload_n hx hb dX7_thought_36 rfl (lv_at hl 0 rfl) ?_
      refine va_get (D := D) (ci := 7) (v := .ref (a 53)) (C := RX7) (T := TX7) (N := 12) hx hb hts inX7 hown hK hP 0 rfl rfl 7 (by decide) (hts _ tw_312) (fun _ h9 => h9) rfl dX7_thought_37 ?_
      refine ro_i (D := D) (va_runV (As := [.ref (a 14), .ref (a 9), .ref (a 53)]) (rest := []) ⟨hx, hb, hml, hown, hts⟩ ((y_thoughtOf l D k st lo (a 64) (a 65) (a 66) (a 67) wt wc (a 14) (a 15) (a 16) (a 17) (a 18) n2 see2 tm2 g2 ff2 fp2 (a 9) (a 10) (a 11) (a 12) (a 13) n1 see1 tm1 g1 ff1 fp1 (a 53) (a 54) (a 55) cc rz ro sd fr (by first | assumption | omega) (by first | assumption | omega) (by first | assumption | omega) hro (hok 2 (by omega)) (hok 1 (by omega))) H.size) (cwV 3 hts (gV tw_765 tw_766 tw_767 tw_83 tw_768) rfl rfl rfl (by decide +kernel) ⟨Nat.le_of_ble_eq_true rfl, Nat.le_of_ble_eq_true rfl⟩) (pV hS hAlo hlo hP hK hDL hZ [15, 10, 11, 12, 13, 6, 7, 8, 9, 14] (by decide +kernel) rfl (ci := 2) (q := (RX2, TX2, 5)) (q0 := 0) rfl rfl) rfl rfl hl.1 rfl (lv_room (Nat.le_of_ble_eq_true rfl)) dX7_thought_40 ⟨Nat.le_of_ble_eq_true rfl, Nat.le_of_ble_eq_true rfl⟩) hS hA hP (fun r_12 H locs hw_12 hP hS => ?_)
      try dsimp only at hw_12
      exact W.iret (v := r_12) hx hb hr (fun t ht hW => ⟨⟨r_12, (), rfl, th_at (s := 2) (t := 1) (by omega) (by omega) (show 0 < n2 by omega) (show 0 < n1 by omega) hw_12, trivial⟩, hS.F ht⟩) hS.2.2 dX7_thought_43
    · refine lv_if_ne (tgt := 20) hx hb dX7_thought_13 (by decide) (fun _ => ?_) (fun h => absurd h (by decide))
      refine lv_aload_n hx hb dX7_thought_20 rfl (lv_at hl 0 rfl) ?_
      refine va_get (D := D) (ci := 7) (v := .ref (a 64)) (C := RX7) (T := TX7) (N := 12) hx hb hts inX7 hown hK hP 0 rfl rfl 10 (by decide) (hts _ tw_315) (fun _ h9 => h9) rfl dX7_thought_21 ?_
      refine lv_aload_n hx hb dX7_thought_24 rfl (lv_at hl 0 rfl) ?_
      refine va_get (D := D) (ci := 7) (v := .ref (a 3)) (C := RX7) (T := TX7) (N := 12) hx hb hts inX7 hown hK hP 0 rfl rfl 1 (by decide) (hts _ tw_306) (fun _ h9 => h9) rfl dX7_thought_25 ?_
      refine lv_iload_n hx hb dX7_thought_28 rfl (lv_at hl 1 rfl) ?_
      refine va_aldq hx hb hK hP 1 3 rfl rfl (by unfold vp_in; decide) dX7_thought_29 ?_
      refine lv_tr (y := .ref (a 14)) rfl ?_
      refine lv_aload_n hx hb dX7_thought_30 rfl (lv_at hl 0 rfl) ?_
      refine va_get (D := D) (ci := 7) (v := .ref (a 3)) (C := RX7) (T := TX7) (N := 12) hx hb hts inX7 hown hK hP 0 rfl rfl 1 (by decide) (hts _ tw_306) (fun _ h9 => h9) rfl dX7_thought_31 ?_
      refine lv_iload_n hx hb dX7_thought_34 rfl (lv_at hl 2 rfl) ?_
      refine va_aldq hx hb hK hP 1 3 rfl rfl (by unfold vp_in; decide) dX7_thought_35 ?_
      refine lv_tr (y := .ref (a 14)) rfl ?_
      refine lv_aload_n hx hb dX7_thought_36 rfl (lv_at hl 0 rfl) ?_
      refine va_get (D := D) (ci := 7) (v := .ref (a 53)) (C := RX7) (T := TX7) (N := 12) hx hb hts inX7 hown hK hP 0 rfl rfl 7 (by decide) (hts _ tw_312) (fun _ h9 => h9) rfl dX7_thought_37 ?_
      refine ro_i (D := D) (va_runV (As := [.ref (a 14), .ref (a 14), .ref (a 53)]) (rest := []) ⟨hx, hb, hml, hown, hts⟩ ((y_thoughtOf1 l D k st lo (a 64) (a 65) (a 66) (a 67) wt wc (a 14) (a 15) (a 16) (a 17) (a 18) n2 see2 tm2 g2 ff2 fp2 (a 53) (a 54) (a 55) cc rz ro sd fr (by first | assumption | omega) (by first | assumption | omega) hro (hok 2 (by omega))) H.size) (cwV 3 hts (gV tw_765 tw_766 tw_767 tw_83 tw_768) rfl rfl rfl (by decide +kernel) ⟨Nat.le_of_ble_eq_true rfl, Nat.le_of_ble_eq_true rfl⟩) (pV hS hAlo hlo hP hK hDL hZ [15, 10, 11, 12, 13, 14] (by decide) rfl (ci := 2) (q := (RX2, TX2, 5)) (q0 := 0) rfl rfl) rfl rfl hl.1 rfl (lv_room (Nat.le_of_ble_eq_true rfl)) dX7_thought_40 ⟨Nat.le_of_ble_eq_true rfl, Nat.le_of_ble_eq_true rfl⟩) hS hA hP (fun r_13 H locs hw_13 hP hS => ?_)
      try dsimp only at hw_13
      exact W.iret (v := r_13) hx hb hr (fun t ht hW => ⟨⟨r_13, (), rfl, th_at (s := 2) (t := 2) (by omega) (by omega) (show 0 < n2 by omega) (show 0 < n2 by omega) hw_13, trivial⟩, hS.F ht⟩) hS.2.2 dX7_thought_43
    · refine lv_if_ne (tgt := 20) hx hb dX7_thought_13 (by decide) (fun h => absurd (by decide) h) (fun _ => ?_)
      refine lv_sipush (v := (-1001)) hx hb dX7_thought_16 (by decide) ?_
      exact W.iret (v := (-1001)) hx hb hr (fun t ht hW => ⟨⟨(-1001), (), rfl, th_no1 (fun s h1 h2 h3 => hw_10 s h1 h2 (by rw [d3_n] at h3; exact h3)), trivial⟩, hS.F ht⟩) hS.2.2 dX7_thought_19
  · refine lv_if_eq (tgt := 16) hx hb dX7_thought_5 (by decide) (fun _ => ?_) (fun h => absurd (by decide) h)
    refine lv_sipush (v := (-1001)) hx hb dX7_thought_16 (by decide) ?_
    exact W.iret (v := (-1001)) hx hb hr (fun t ht hW => ⟨⟨(-1001), (), rfl, th_no0 (fun s h1 h2 h3 => hw_1 s h1 h2 (by rw [d3_n] at h3; exact h3)), trivial⟩, hS.F ht⟩) hS.2.2 dX7_thought_19


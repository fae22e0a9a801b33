theorem f_glueP21 : True := trivial
/-! the boy who knows: the least so far (0: the end, b + 1: door b) -/
def boL (d : SDt) (E : Int32) (b : Nat) : Int32 := match b with | 0 => E | b + 1 => pTake d 0 b
def boV (d : SDt) (E : Int32) : Nat → Nat → Nat → Int32
  | 0, b, _ => boL d E b
  | m + 1, b, a => pMix (pChance d (d.1 - (m + 1)) (nI a)) (boV d E m (if boL d E (d.1 - (m + 1) + 1) < boL d E b then d.1 - (m + 1) + 1 else b) 1) (boV d E m b 0)
theorem bo_v {d : SDt} {E x c f o : Int32} {i b a : Nat} (hi : i < d.1) (hc : c = pChance d i (nI a)) (hf : f = boV d E (d.1 - (i + 1)) (if boL d E (i + 1) < boL d E b then i + 1 else b) 1) (ho : o = boV d E (d.1 - (i + 1)) b 0) (hx : x = pMix c f o) : x = boV d E (d.1 - i) b a := by
  rw [show d.1 - i = (d.1 - (i + 1)) + 1 by omega]
  show x = pMix (pChance d (d.1 - (d.1 - (i + 1) + 1)) (nI a)) (boV d E (d.1 - (i + 1)) (if boL d E (d.1 - (d.1 - (i + 1) + 1) + 1) < boL d E b then d.1 - (d.1 - (i + 1) + 1) + 1 else b) 1) (boV d E (d.1 - (i + 1)) b 0)
  rw [show d.1 - (d.1 - (i + 1) + 1) = i by omega, hx, hc, hf, ho]
theorem bo_st {d : SDt} {E x : Int32} {m m2 a i be : Nat} {f : Nat → Int32} (h1 : ∀ b, b < be → f b = boV d E m b a) (h2 : ∀ b, be ≤ b → b < i + 2 → f b = boV d E m2 b a) (hx : x = boV d E m be a) : (∀ b, b < be + 1 → upd f be x b = boV d E m b a) ∧ ∀ b, be + 1 ≤ b → b < i + 2 → upd f be x b = boV d E m2 b a := by
  refine ⟨fun b hb => ?_, fun b hb hb2 => ?_⟩
  · by_cases e : b = be
    · rw [e, pk_us]
      exact hx
    · rw [pk_un e]
      exact h1 b (by omega)
  · rw [pk_un (by omega)]
    exact h2 b (by omega) hb2
def bph (d : SDt) (E : Int32) (L : Nat) : Nat := if L < d.1 ∧ pTake d 0 L < E then L + 1 else 0
theorem bph_1 {d : SDt} {E : Int32} {L : Nat} (h1 : L < d.1) (h2 : pTake d 0 L < E) : bph d E L = L + 1 := if_pos ⟨h1, h2⟩
theorem bph_0 {d : SDt} {E : Int32} {L : Nat} (h : ¬ (L < d.1 ∧ pTake d 0 L < E)) : bph d E L = 0 := if_neg h
theorem i_lt {a b c : Int32} (h : a < b) (k : b < c) : a < c := Int32.lt_iff_toInt_lt.mpr (by have := Int32.lt_iff_toInt_lt.mp h; have := Int32.lt_iff_toInt_lt.mp k; omega)
theorem bph_y {d : SDt} {E : Int32} {i L : Nat} (hi : i < d.1) (h : ¬ L < d.1 ∨ pTake d 0 i < pTake d 0 L) : bph d E i = (if boL d E (i + 1) < boL d E (bph d E L) then i + 1 else bph d E L) := by
  by_cases c : L < d.1 ∧ pTake d 0 L < E
  · have h2 := h.resolve_left (fun q => q c.1)
    rw [bph_1 c.1 c.2]
    show bph d E i = (if pTake d 0 i < pTake d 0 L then i + 1 else L + 1)
    rw [if_pos h2, bph_1 hi (i_lt h2 c.2)]
  · rw [bph_0 c]
    show bph d E i = (if pTake d 0 i < E then i + 1 else 0)
    unfold bph
    by_cases q : pTake d 0 i < E
    · rw [if_pos ⟨hi, q⟩, if_pos q]
    · rw [if_neg (fun z => q z.2), if_neg q]
theorem bph_n {d : SDt} {E : Int32} {i L : Nat} (hL : L < d.1) (h : ¬ pTake d 0 i < pTake d 0 L) : bph d E L = (if boL d E (i + 1) < boL d E (bph d E L) then i + 1 else bph d E L) := by
  by_cases c : L < d.1 ∧ pTake d 0 L < E
  · rw [bph_1 c.1 c.2]
    show L + 1 = (if pTake d 0 i < pTake d 0 L then i + 1 else L + 1)
    rw [if_neg h]
  · rw [bph_0 c]
    show 0 = (if pTake d 0 i < E then i + 1 else 0)
    have c2 : ¬ pTake d 0 L < E := fun q => c ⟨hL, q⟩
    rw [if_neg]
    rw [Int32.lt_iff_toInt_lt] at h c2 ⊢
    omega
theorem bo_0 {d : SDt} {E x : Int32} {L a : Nat} (h : x = boL d E (bph d E L)) : x = boV d E 0 (bph d E L) a := h
def boA (d : SDt) (r : Int32) : Prop := r = boV d (wayE d 0) d.1 0 0


set_option maxHeartbeats 4000000 in
set_option maxRecDepth 100000 in
theorem y_boyOf (l : Launch) (D : va_G) (k : Nat → ClassId) (st : Nat → Nat) (lo : Nat) (y0 : Nat) (y1 : Nat) (y2 : Nat) (y3 : Nat) (wt : Int32) (wc : Int32) (ya : Nat → Int32) (yb : Nat → Int32) (yd : Nat → Int32) (h0 : Nat) (h1 : Nat) (h2 : Nat) (h3 : Nat) (h4 : Nat) (n : Nat) (see : Nat) (tm : Nat) (g : Nat → Int32) (ff : Nat → Int32) (fp : Nat → Int32) (fl : Nat → Int32) (p1 : Int32) (hn : n ≤ 24) (hl9 : ∀ r, r < 4 → fl r = pLate (sdX n see tm g ff fp) r) (hok9 : okD (sdX n see tm g ff fp)) : CWi l D k st lo yX2_boyOf cX2_boyOf 8 (some .int) ({ frames := 2, cells := 0, slots := 0, locals := 83 }) 0 0 [.ref y0, .ref h0, .int p1] [(y0, .inr (2, (fX2 y1 y2 y3 wt wc))), (aI k y1 25 ya), (aI k y2 25 yb), (aI k y3 25 yd), (h0, .inr (5, (fX5 h1 h2 h3 h4))), (aI k h1 10 (vv n see tm g)), (aI k h2 24 ff), (aI k h3 24 fp), (aI k h4 4 fl)] (fun (r : Int32) (u : (Nat → Int32) × (Nat → Int32) × (Nat → Int32)) => match u with | (ya_, yb_, yd_) => r = boV (sdX n see tm g ff fp) p1 (n) 0 0) (fun (u : (Nat → Int32) × (Nat → Int32) × (Nat → Int32)) => match u with | (ya_, yb_, yd_) => [(y0, .inr (2, (fX2 y1 y2 y3 wt wc))), (aI k y1 25 ya_), (aI k y2 25 yb_), (aI k y3 25 yd_), (h0, .inr (5, (fX5 h1 h2 h3 h4))), (aI k h1 10 (vv n see tm g)), (aI k h2 24 ff), (aI k h3 24 fp), (aI k h4 4 fl)]) := by
  intro sz
  refine Met.ofW (cc := cX2_boyOf) (maxL := 8) (ret := (some .int)) (by decide) rfl ?_
  intro p e s m args below meth c s₁ B hml hv
  obtain ⟨rfl, hsz, hlo, hP, hK, hDL, hZ⟩ := hv
  have hx := B.exec
  have hb := B.bytes
  have hr := B.returns
  have hts := WS_ts B.pre
  have hown : s.vm.findClass RX2 = some m.cls := findClass_of_methodNamed B.named
  have hlocks := B.notSynchronized
  subst hsz
  have hD := hDL.self (sz := s.heap.size)
  have hAlo := A_lo hDL hlo
  generalize hAe : va_A [(y0, .inr (2, (fX2 y1 y2 y3 wt wc))), (aI k y1 25 ya), (aI k y2 25 yb), (aI k y3 25 yd), (h0, .inr (5, (fX5 h1 h2 h3 h4))), (aI k h1 10 (vv n see tm g)), (aI k h2 24 ff), (aI k h3 24 fp), (aI k h4 4 fl)] s.heap.size = A at hD hAlo ⊢
  have hA : ∀ q : Nat, s.heap.size ≤ q → A q := fun q h => by rw [← hAe]; exact Or.inr h
  have hS : va_S A s.heap s.heap [] := va_S.rf
  have hl := lv_entry ([.ref y0, .ref h0, .int p1]) (n := 8) (Nat.le_of_ble_eq_true rfl)
  rw [lg_entry_eq]
  generalize (lg_sl ([.ref y0, .ref h0, .int p1]) ++ List.replicate (8 - (lg_sl ([.ref y0, .ref h0, .int p1])).length) Slot.unset).toArray = ls at hl ⊢
  have hl : lv_has ls 8 [(0, .ref y0), (1, .ref h0), (2, .int p1)] := hl
  refine lv_aload_n hx hb dX2_boyOf_0 rfl (lv_at hl 1 rfl) ?_
  refine ro_i (D := D) (va_runV (As := []) (rest := []) ⟨hx, hb, hml, hown, hts⟩ ((x_doors l D k st lo h0 h1 h2 h3 h4 n see tm g) s.heap.size) (cwV 0 hts (gV tw_723 tw_478 tw_479 tw_81 tw_480) rfl rfl rfl (by decide +kernel) ⟨Nat.le_of_ble_eq_true rfl, Nat.le_of_ble_eq_true rfl⟩) (pV hS hAlo hlo hP hK (va_Dlo hD hAlo) hZ [4, 5] (by decide) rfl (ci := 5) (q := (RX5, TX5, 4)) (q0 := 0) rfl rfl) rfl rfl hl.1 rfl (lv_room (Nat.le_of_ble_eq_true rfl)) dX2_boyOf_1 ⟨Nat.le_of_ble_eq_true rfl, Nat.le_of_ble_eq_true rfl⟩) hS hA hP (fun r_1 H locs hw_1 hP hS => ?_)
  try dsimp only at hw_1
  subst hw_1
  refine lv_istore_n (lv' := [(3, .int (nI n)), (0, .ref y0), (1, .ref h0), (2, .int p1)]) hx hb dX2_boyOf_4 rfl hl (by decide) rfl (fun ls hl => ?_)
  refine lv_aload_n hx hb dX2_boyOf_5 rfl (lv_at hl 1 rfl) ?_
  refine va_get (D := D) (ci := 2) (v := .ref y3) (C := RX2) (T := TX2) (N := 5) hx hb hts inX2 hown hK hP 0 rfl rfl 2 (by decide) (hts _ tw_212) (fun _ h9 => h9) rfl dX2_boyOf_6 ?_
  refine lv_iconst (v := 0) hx hb dX2_boyOf_9 (by decide) ?_
  refine lv_iload_n hx hb dX2_boyOf_10 rfl (lv_at hl 3 rfl) ?_
  refine va_iast hx hb hK hP hD hS 3 1 rfl rfl (by unfold vp_in; decide) dX2_boyOf_11 (fun H locs hP hD hS => ?_)
  replace hP : va_P D classes [(y0, .inr (2, (fX2 y1 y2 y3 wt wc))), (aI k y1 25 ya), (aI k y2 25 yb), (aI k y3 25 (upd yd (Int32.toNatClampNeg 0) p1)), (h0, .inr (5, (fX5 h1 h2 h3 h4))), (aI k h1 10 (vv n see tm g)), (aI k h2 24 ff), (aI k h3 24 fp), (aI k h4 4 fl)] H := hP
  replace hD : va_D A [(y0, .inr (2, (fX2 y1 y2 y3 wt wc))), (aI k y1 25 ya), (aI k y2 25 yb), (aI k y3 25 (upd yd (Int32.toNatClampNeg 0) p1)), (h0, .inr (5, (fX5 h1 h2 h3 h4))), (aI k h1 10 (vv n see tm g)), (aI k h2 24 ff), (aI k h3 24 fp), (aI k h4 4 fl)] := hD
  replace hP : va_P D classes [(y0, .inr (2, (fX2 y1 y2 y3 wt wc))), (aI k y1 25 ya), (aI k y2 25 yb), (aI k y3 25 (upd yd 0 p1)), (h0, .inr (5, (fX5 h1 h2 h3 h4))), (aI k h1 10 (vv n see tm g)), (aI k h2 24 ff), (aI k h3 24 fp), (aI k h4 4 fl)] H := hP
  replace hD : va_D A [(y0, .inr (2, (fX2 y1 y2 y3 wt wc))), (aI k y1 25 ya), (aI k y2 25 yb), (aI k y3 25 (upd yd 0 p1)), (h0, .inr (5, (fX5 h1 h2 h3 h4))), (aI k h1 10 (vv n see tm g)), (aI k h2 24 ff), (aI k h3 24 fp), (aI k h4 4 fl)] := hD
  refine lv_iconst (v := 0) hx hb dX2_boyOf_12 (by decide) ?_
  refine lv_istore (lv' := [(4, .int 0), (3, .int (nI n)), (0, .ref y0), (1, .ref h0), (2, .int p1)]) hx hb dX2_boyOf_13 hl (by decide) rfl (fun ls hl => ?_)
  refine W_loop (σ := Nat × (Nat → Int32)) (fun (n_ : Nat) (x_ : Nat × (Nat → Int32)) (H : Heap) (locs : List Loc) (ls : Array Slot) => match x_ with | (ii_3, yd2_3) => n_ = n - ii_3 ∧ (ii_3 ≤ n ∧ ∀ b, b < ii_3 + 1 → yd2_3 b = boL (sdX n see tm g ff fp) p1 b) ∧ va_P D classes [(y0, .inr (2, (fX2 y1 y2 y3 wt wc))), (aI k y1 25 ya), (aI k y2 25 yb), (aI k y3 25 yd2_3), (h0, .inr (5, (fX5 h1 h2 h3 h4))), (aI k h1 10 (vv n see tm g)), (aI k h2 24 ff), (aI k h3 24 fp), (aI k h4 4 fl)] H ∧ va_D A [(y0, .inr (2, (fX2 y1 y2 y3 wt wc))), (aI k y1 25 ya), (aI k y2 25 yb), (aI k y3 25 yd2_3), (h0, .inr (5, (fX5 h1 h2 h3 h4))), (aI k h1 10 (vv n see tm g)), (aI k h2 24 ff), (aI k h3 24 fp), (aI k h4 4 fl)] ∧ va_S A s.heap H locs ∧ lv_has ls 8 [(4, .int (nI ii_3)), (3, .int (nI n)), (0, .ref y0), (1, .ref h0), (2, .int p1)]) (fun n_3 x_3 H locs ls hI ih_3 => ?_) _ (0, (upd yd 0 p1)) ⟨rfl, ⟨by omega, fun b hb => by rw [show b = 0 by omega, pk_us]; rfl⟩, hP, hD, hS, (lv_sub hl [0, 1, 2, 3, 4] rfl)⟩
  obtain ⟨ii_3, yd2_3⟩ := x_3
  obtain ⟨hm_3, hv_3, hP, hD, hS, hl⟩ := hI
  subst hm_3
  refine lv_iload hx hb dX2_boyOf_15 (lv_at hl 0 rfl) ?_
  refine lv_iload_n hx hb dX2_boyOf_17 rfl (lv_at hl 1 rfl) ?_
  refine lv_icmp_ge (tgt := 43) hx hb dX2_boyOf_18 (by decide) (fun c_4 => ?_) (fun c_4 => ?_)
  · have c_4 := (nI_leI (a := n) (b := ii_3) (by omega) (by omega)).mp c_4
    have hLe_9 : ∀ b, b < n + 1 → yd2_3 b = boL (sdX n see tm g ff fp) p1 b := fun b hb => hv_3.2 b (by omega)
    refine lv_iconst (v := 0) hx hb dX2_boyOf_43 (by decide) ?_
    refine lv_istore (lv' := [(4, .int 0), (3, .int (nI n)), (0, .ref y0), (1, .ref h0), (2, .int p1)]) hx hb dX2_boyOf_44 hl (by decide) rfl (fun ls hl => ?_)
    refine W_loop (σ := Nat × (Nat → Int32) × (Nat → Int32)) (fun (n_ : Nat) (x_ : Nat × (Nat → Int32) × (Nat → Int32)) (H : Heap) (locs : List Loc) (ls : Array Slot) => match x_ with | (ii_5, ya2_5, yb2_5) => n_ = n + 1 - ii_5 ∧ (ii_5 ≤ n + 1 ∧ (∀ b, b < ii_5 → ya2_5 b = boL (sdX n see tm g ff fp) p1 b) ∧ (∀ b, b < ii_5 → yb2_5 b = boL (sdX n see tm g ff fp) p1 b)) ∧ va_P D classes [(y0, .inr (2, (fX2 y1 y2 y3 wt wc))), (aI k y1 25 ya2_5), (aI k y2 25 yb2_5), (aI k y3 25 yd2_3), (h0, .inr (5, (fX5 h1 h2 h3 h4))), (aI k h1 10 (vv n see tm g)), (aI k h2 24 ff), (aI k h3 24 fp), (aI k h4 4 fl)] H ∧ va_D A [(y0, .inr (2, (fX2 y1 y2 y3 wt wc))), (aI k y1 25 ya2_5), (aI k y2 25 yb2_5), (aI k y3 25 yd2_3), (h0, .inr (5, (fX5 h1 h2 h3 h4))), (aI k h1 10 (vv n see tm g)), (aI k h2 24 ff), (aI k h3 24 fp), (aI k h4 4 fl)] ∧ va_S A s.heap H locs ∧ lv_has ls 8 [(4, .int (nI ii_5)), (3, .int (nI n)), (0, .ref y0), (1, .ref h0), (2, .int p1)]) (fun n_5 x_5 H locs ls hI ih_5 => ?_) _ (0, ya, yb) ⟨rfl, ⟨by omega, fun b h => absurd h (Nat.not_lt_zero b), fun b h => absurd h (Nat.not_lt_zero b)⟩, hP, hD, hS, (lv_sub hl [0, 1, 2, 3, 4] rfl)⟩
    obtain ⟨ii_5, ya2_5, yb2_5⟩ := x_5
    obtain ⟨hm_5, hv_5, hP, hD, hS, hl⟩ := hI
    subst hm_5
    refine lv_iload hx hb dX2_boyOf_46 (lv_at hl 0 rfl) ?_
    refine lv_iload_n hx hb dX2_boyOf_48 rfl (lv_at hl 1 rfl) ?_
    refine lv_icmp_gt (tgt := 86) hx hb dX2_boyOf_49 (by decide) (fun c_6 => ?_) (fun c_6 => ?_)
    · have c_6 := (nI_ltI (a := n) (b := ii_5) (by omega) (by omega)).mp c_6
      refine lv_iload_n hx hb dX2_boyOf_86 rfl (lv_at hl 1 rfl) ?_
      refine lv_iconst (v := 1) hx hb dX2_boyOf_87 (by decide) ?_
      refine lv_isub hx hb dX2_boyOf_88 ?_
      refine lv_ti (y := (nI n - 1)) rfl ?_
      refine lv_istore (lv' := [(4, .int (nI n - 1)), (3, .int (nI n)), (0, .ref y0), (1, .ref h0), (2, .int p1)]) hx hb dX2_boyOf_89 hl (by decide) rfl (fun ls hl => ?_)
      refine W_loop (σ := Nat × (Nat → Int32) × (Nat → Int32)) (fun (n_ : Nat) (x_ : Nat × (Nat → Int32) × (Nat → Int32)) (H : Heap) (locs : List Loc) (ls : Array Slot) => match x_ with | (q_7, ya2_7, yb2_7) => n_ = 2 * q_7 ∧ (q_7 ≤ n ∧ (∀ b, b < q_7 + 1 → ya2_7 b = boV (sdX n see tm g ff fp) p1 (n - q_7) b 1) ∧ (∀ b, b < q_7 + 1 → yb2_7 b = boV (sdX n see tm g ff fp) p1 (n - q_7) b 0)) ∧ va_P D classes [(y0, .inr (2, (fX2 y1 y2 y3 wt wc))), (aI k y1 25 ya2_7), (aI k y2 25 yb2_7), (aI k y3 25 yd2_3), (h0, .inr (5, (fX5 h1 h2 h3 h4))), (aI k h1 10 (vv n see tm g)), (aI k h2 24 ff), (aI k h3 24 fp), (aI k h4 4 fl)] H ∧ va_D A [(y0, .inr (2, (fX2 y1 y2 y3 wt wc))), (aI k y1 25 ya2_7), (aI k y2 25 yb2_7), (aI k y3 25 yd2_3), (h0, .inr (5, (fX5 h1 h2 h3 h4))), (aI k h1 10 (vv n see tm g)), (aI k h2 24 ff), (aI k h3 24 fp), (aI k h4 4 fl)] ∧ va_S A s.heap H locs ∧ lv_has ls 8 [(4, .int (nI q_7 - 1)), (3, .int (nI n)), (0, .ref y0), (1, .ref h0), (2, .int p1)]) (fun n_7 x_7 H locs ls hI ih_7 => ?_) _ (n, ya2_5, yb2_5) ⟨rfl, ⟨by omega, fun b hb => by rw [Nat.sub_self]; exact hv_5.2.1 b (by omega), fun b hb => by rw [Nat.sub_self]; exact hv_5.2.2 b (by omega)⟩, hP, hD, hS, (lv_sub hl [0, 1, 2, 3, 4] rfl)⟩
      obtain ⟨q_7, ya2_7, yb2_7⟩ := x_7
      obtain ⟨hm_7, hv_7, hP, hD, hS, hl⟩ := hI
      subst hm_7
      rcases q_7 with _ | q_7
      · rw [dn0] at hl
        refine lv_iload hx hb dX2_boyOf_91 (lv_at hl 0 rfl) ?_
        refine lv_if_lt (tgt := 204) hx hb dX2_boyOf_93 (by decide) (fun _ => ?_) (fun h => absurd (by decide) h)
        refine lv_aload_n hx hb dX2_boyOf_204 rfl (lv_at hl 2 rfl) ?_
        refine va_get (D := D) (ci := 2) (v := .ref y2) (C := RX2) (T := TX2) (N := 5) hx hb hts inX2 hown hK hP 0 rfl rfl 1 (by decide) (hts _ tw_211) (fun _ h9 => h9) rfl dX2_boyOf_205 ?_
        refine lv_iconst (v := 0) hx hb dX2_boyOf_208 (by decide) ?_
        refine va_iald hx hb hK hP 2 1 rfl rfl (by unfold vp_in; decide) dX2_boyOf_209 ?_
        refine lv_ti (y := (yb2_7 0)) (by rfl) ?_
        have hP9 := hP.sub (ws' := [(y0, .inr (2, (fX2 y1 y2 y3 wt wc))), (aI k y1 25 ya2_7), (aI k y2 25 yb2_7), (aI k y3 25 yd2_3), (h0, .inr (5, (fX5 h1 h2 h3 h4))), (aI k h1 10 (vv n see tm g)), (aI k h2 24 ff), (aI k h3 24 fp), (aI k h4 4 fl)]) [0, 1, 2, 3, 4, 5, 6, 7, 8] rfl
        have hD9 := hD.sub (ws' := [(y0, .inr (2, (fX2 y1 y2 y3 wt wc))), (aI k y1 25 ya2_7), (aI k y2 25 yb2_7), (aI k y3 25 yd2_3), (h0, .inr (5, (fX5 h1 h2 h3 h4))), (aI k h1 10 (vv n see tm g)), (aI k h2 24 ff), (aI k h3 24 fp), (aI k h4 4 fl)]) [0, 1, 2, 3, 4, 5, 6, 7, 8] (by decide +kernel) rfl
        exact W.iret (v := (yb2_7 0)) hx hb hr (fun t ht hW => ⟨⟨(yb2_7 0), (ya2_7, yb2_7, yd2_3), rfl, hv_7.2.2 0 (by omega), by rw [ht]; exact hP9, hD9⟩, hS.F ht⟩) hS.2.2 dX2_boyOf_210
      · rw [nI_pred] at hl
        refine lv_iload hx hb dX2_boyOf_91 (lv_at hl 0 rfl) ?_
        refine lv_if_lt (tgt := 204) hx hb dX2_boyOf_93 (by decide) (fun h => absurd h (nI_pos0 (by omega))) (fun _ => ?_)
        refine lv_iconst (v := 0) hx hb dX2_boyOf_96 (by decide) ?_
        refine lv_istore (lv' := [(5, .int 0), (4, .int (nI q_7)), (3, .int (nI n)), (0, .ref y0), (1, .ref h0), (2, .int p1)]) hx hb dX2_boyOf_97 hl (by decide) rfl (fun ls hl => ?_)
        refine W_loop (σ := Nat × (Nat → Int32) × (Nat → Int32)) (fun (n_ : Nat) (x_ : Nat × (Nat → Int32) × (Nat → Int32)) (H : Heap) (locs : List Loc) (ls : Array Slot) => match x_ with | (be_8, ya3_8, yb3_8) => n_ = q_7 + 1 - be_8 ∧ (be_8 ≤ q_7 + 1 ∧ (∀ b, b < be_8 → ya3_8 b = boV (sdX n see tm g ff fp) p1 (n - q_7) b 1) ∧ (∀ b, b < be_8 → yb3_8 b = boV (sdX n see tm g ff fp) p1 (n - q_7) b 0) ∧ (∀ b, be_8 ≤ b → b < q_7 + 2 → ya3_8 b = boV (sdX n see tm g ff fp) p1 (n - (q_7 + 1)) b 1) ∧ (∀ b, be_8 ≤ b → b < q_7 + 2 → yb3_8 b = boV (sdX n see tm g ff fp) p1 (n - (q_7 + 1)) b 0)) ∧ va_P D classes [(y0, .inr (2, (fX2 y1 y2 y3 wt wc))), (aI k y1 25 ya3_8), (aI k y2 25 yb3_8), (aI k y3 25 yd2_3), (h0, .inr (5, (fX5 h1 h2 h3 h4))), (aI k h1 10 (vv n see tm g)), (aI k h2 24 ff), (aI k h3 24 fp), (aI k h4 4 fl)] H ∧ va_D A [(y0, .inr (2, (fX2 y1 y2 y3 wt wc))), (aI k y1 25 ya3_8), (aI k y2 25 yb3_8), (aI k y3 25 yd2_3), (h0, .inr (5, (fX5 h1 h2 h3 h4))), (aI k h1 10 (vv n see tm g)), (aI k h2 24 ff), (aI k h3 24 fp), (aI k h4 4 fl)] ∧ va_S A s.heap H locs ∧ lv_has ls 8 [(5, .int (nI be_8)), (4, .int (nI q_7)), (3, .int (nI n)), (0, .ref y0), (1, .ref h0), (2, .int p1)]) (fun n_8 x_8 H locs ls hI ih_8 => ?_) _ (0, ya2_7, yb2_7) ⟨rfl, ⟨by omega, fun b h => absurd h (Nat.not_lt_zero b), fun b h => absurd h (Nat.not_lt_zero b), fun b _ h => hv_7.2.1 b (by omega), fun b _ h => hv_7.2.2 b (by omega)⟩, hP, hD, hS, (lv_sub hl [0, 1, 2, 3, 4, 5] rfl)⟩
        obtain ⟨be_8, ya3_8, yb3_8⟩ := x_8
        obtain ⟨hm_8, hv_8, hP, hD, hS, hl⟩ := hI
        subst hm_8
        refine lv_iload hx hb dX2_boyOf_99 (lv_at hl 0 rfl) ?_
        refine lv_iload hx hb dX2_boyOf_101 (lv_at hl 1 rfl) ?_
        refine lv_icmp_gt (tgt := 198) hx hb dX2_boyOf_103 (by decide) (fun c_9 => ?_) (fun c_9 => ?_)
        · have c_9 := (nI_ltI (a := q_7) (b := be_8) (by omega) (by omega)).mp c_9
          refine lv_iinc (v := (nI q_7 - 1)) (lv' := [(4, .int (nI q_7 - 1)), (5, .int (nI be_8)), (3, .int (nI n)), (0, .ref y0), (1, .ref h0), (2, .int p1)]) hx hb dX2_boyOf_198 hl (k := 1) rfl (dn1 _) (by decide) rfl (fun ls hl => ?_)
          refine lv_goto (tgt := 91) hx hb dX2_boyOf_201 (by decide) ?_
          exact ih_7 _ (q_7, ya3_8, yb3_8) _ _ _ (by omega) ⟨rfl, ⟨by omega, fun b hb => hv_8.2.1 b (by omega), fun b hb => hv_8.2.2.1 b (by omega)⟩, hP, hD, hS, (lv_sub hl [0, 2, 3, 4, 5] rfl)⟩
        · have c_9 : ¬ (q_7 < be_8) := fun h => c_9 ((nI_ltI (a := q_7) (b := be_8) (by omega) (by omega)).mpr h)
          refine lv_aload_n hx hb dX2_boyOf_106 rfl (lv_at hl 3 rfl) ?_
          refine va_get (D := D) (ci := 2) (v := .ref y1) (C := RX2) (T := TX2) (N := 5) hx hb hts inX2 hown hK hP 0 rfl rfl 0 (by decide) (hts _ tw_210) (fun _ h9 => h9) rfl dX2_boyOf_107 ?_
          refine lv_aload_n hx hb dX2_boyOf_110 rfl (lv_at hl 3 rfl) ?_
          refine va_get (D := D) (ci := 2) (v := .ref y3) (C := RX2) (T := TX2) (N := 5) hx hb hts inX2 hown hK hP 0 rfl rfl 2 (by decide) (hts _ tw_212) (fun _ h9 => h9) rfl dX2_boyOf_111 ?_
          refine lv_iload hx hb dX2_boyOf_114 (lv_at hl 1 rfl) ?_
          refine lv_iconst (v := 1) hx hb dX2_boyOf_116 (by decide) ?_
          refine lv_iadd hx hb dX2_boyOf_117 ?_
          refine lv_ti (y := (nI (q_7 + 1))) (nI_add q_7 1) ?_
          refine va_iald hx hb hK hP 3 1 rfl rfl (vp_in_nI (by omega) (by decide)) dX2_boyOf_118 ?_
          refine lv_ti (y := (yd2_3 (q_7 + 1))) (by rw [nI_clamp (by omega)]) ?_
          refine lv_aload_n hx hb dX2_boyOf_119 rfl (lv_at hl 3 rfl) ?_
          refine va_get (D := D) (ci := 2) (v := .ref y3) (C := RX2) (T := TX2) (N := 5) hx hb hts inX2 hown hK hP 0 rfl rfl 2 (by decide) (hts _ tw_212) (fun _ h9 => h9) rfl dX2_boyOf_120 ?_
          refine lv_iload hx hb dX2_boyOf_123 (lv_at hl 0 rfl) ?_
          refine va_iald hx hb hK hP 3 1 rfl rfl (vp_in_nI (by omega) (by decide)) dX2_boyOf_125 ?_
          refine lv_ti (y := (yd2_3 be_8)) (by rw [nI_clamp (by omega)]) ?_
          refine lv_icmp_ge (tgt := 136) hx hb dX2_boyOf_126 (by decide) (fun c_10 => ?_) (fun c_10 => ?_)
          · refine lv_iload hx hb dX2_boyOf_136 (lv_at hl 0 rfl) ?_
            refine va_iald hx hb hK hP 1 1 rfl rfl (vp_in_nI (by omega) (by decide)) dX2_boyOf_138 ?_
            refine lv_ti (y := (ya3_8 be_8)) (by rw [nI_clamp (by omega)]) ?_
            refine lv_istore (lv' := [(6, .int (ya3_8 be_8)), (5, .int (nI be_8)), (4, .int (nI q_7)), (3, .int (nI n)), (0, .ref y0), (1, .ref h0), (2, .int p1)]) hx hb dX2_boyOf_139 hl (by decide) rfl (fun ls hl => ?_)
            refine lv_aload_n hx hb dX2_boyOf_141 rfl (lv_at hl 4 rfl) ?_
            refine va_get (D := D) (ci := 2) (v := .ref y2) (C := RX2) (T := TX2) (N := 5) hx hb hts inX2 hown hK hP 0 rfl rfl 1 (by decide) (hts _ tw_211) (fun _ h9 => h9) rfl dX2_boyOf_142 ?_
            refine lv_iload hx hb dX2_boyOf_145 (lv_at hl 1 rfl) ?_
            refine va_iald hx hb hK hP 2 1 rfl rfl (vp_in_nI (by omega) (by decide)) dX2_boyOf_147 ?_
            refine lv_ti (y := (yb3_8 be_8)) (by rw [nI_clamp (by omega)]) ?_
            refine lv_istore (lv' := [(7, .int (yb3_8 be_8)), (6, .int (ya3_8 be_8)), (5, .int (nI be_8)), (4, .int (nI q_7)), (3, .int (nI n)), (0, .ref y0), (1, .ref h0), (2, .int p1)]) hx hb dX2_boyOf_148 hl (by decide) rfl (fun ls hl => ?_)
            refine lv_aload_n hx hb dX2_boyOf_150 rfl (lv_at hl 5 rfl) ?_
            refine va_get (D := D) (ci := 2) (v := .ref y1) (C := RX2) (T := TX2) (N := 5) hx hb hts inX2 hown hK hP 0 rfl rfl 0 (by decide) (hts _ tw_210) (fun _ h9 => h9) rfl dX2_boyOf_151 ?_
            refine lv_iload hx hb dX2_boyOf_154 (lv_at hl 2 rfl) ?_
            refine lv_aload_n hx hb dX2_boyOf_156 rfl (lv_at hl 6 rfl) ?_
            refine lv_iload hx hb dX2_boyOf_157 (lv_at hl 3 rfl) ?_
            refine lv_iconst (v := 1) hx hb dX2_boyOf_159 (by decide) ?_
            refine ro_i (D := D) (va_runV (As := [.int (nI q_7), .int 1]) (rest := [.int (nI be_8), .ref y1]) ⟨hx, hb, hml, hown, hts⟩ ((y_chanceOf l D k st lo h0 h1 h2 h3 h4 n see tm g ff q_7 1 (by first | assumption | omega)) H.size) (cwV 2 hts (gV tw_733 tw_565 tw_566 tw_81 tw_567) rfl rfl rfl (by decide +kernel) ⟨Nat.le_of_ble_eq_true rfl, Nat.le_of_ble_eq_true rfl⟩) (pV hS hAlo hlo hP hK (va_Dlo hD hAlo) hZ [4, 5, 6] (by decide) rfl (ci := 5) (q := (RX5, TX5, 4)) (q0 := 0) rfl rfl) rfl rfl hl.1 rfl (lv_room (Nat.le_of_ble_eq_true rfl)) dX2_boyOf_160 ⟨Nat.le_of_ble_eq_true rfl, Nat.le_of_ble_eq_true rfl⟩) hS hA hP (fun r_11 H locs hw_11 hP hS => ?_)
            try dsimp only at hw_11
            refine lv_iload hx hb dX2_boyOf_163 (lv_at hl 1 rfl) ?_
            refine lv_iload hx hb dX2_boyOf_165 (lv_at hl 0 rfl) ?_
            refine ro_i (D := D) (va_runSN (As := [.int r_11, .int (ya3_8 be_8), .int (yb3_8 be_8)]) (rest := [.int (nI be_8), .ref y1]) ⟨hx, hb, hml, hown, hts⟩ ((y_mixed l D k st lo r_11 (ya3_8 be_8) (yb3_8 be_8)) H.size) ⟨va_cnB 3 hts (gLW tw_570) rfl rfl rfl (hZ.2.2.2.2.2.2.2.2.1.1 (RX2, 78, yX7_mixed, RX7) (List.mem_of_getElem? (i := 6) rfl)) (hts _ tw_79) (by decide +kernel) ⟨Nat.le_of_ble_eq_true rfl, Nat.le_of_ble_eq_true rfl⟩, hts _ tw_569, trivial⟩ (pS hS hAlo hlo hP hK (va_Dlo hD hAlo) hZ [] (by decide) rfl) rfl rfl hl.1 rfl (lv_room (Nat.le_of_ble_eq_true rfl)) dX2_boyOf_167 ⟨Nat.le_of_ble_eq_true rfl, Nat.le_of_ble_eq_true rfl⟩) hS hA hP (fun r_12 H locs hw_12 hP hS => ?_)
            try dsimp only at hw_12
            refine va_iast hx hb hK hP hD hS 1 1 rfl rfl (vp_in_nI (by omega) (by decide)) dX2_boyOf_170 (fun H locs hP hD hS => ?_)
            replace hP : va_P D classes [(y0, .inr (2, (fX2 y1 y2 y3 wt wc))), (aI k y1 25 (upd ya3_8 (Int32.toNatClampNeg (nI be_8)) r_12)), (aI k y2 25 yb3_8), (aI k y3 25 yd2_3), (h0, .inr (5, (fX5 h1 h2 h3 h4))), (aI k h1 10 (vv n see tm g)), (aI k h2 24 ff), (aI k h3 24 fp), (aI k h4 4 fl)] H := hP
            replace hD : va_D A [(y0, .inr (2, (fX2 y1 y2 y3 wt wc))), (aI k y1 25 (upd ya3_8 (Int32.toNatClampNeg (nI be_8)) r_12)), (aI k y2 25 yb3_8), (aI k y3 25 yd2_3), (h0, .inr (5, (fX5 h1 h2 h3 h4))), (aI k h1 10 (vv n see tm g)), (aI k h2 24 ff), (aI k h3 24 fp), (aI k h4 4 fl)] := hD
            rw [nI_clamp (n := be_8) (by omega)] at hP hD
            replace hP : va_P D classes [(y0, .inr (2, (fX2 y1 y2 y3 wt wc))), (aI k y1 25 (upd ya3_8 be_8 r_12)), (aI k y2 25 yb3_8), (aI k y3 25 yd2_3), (h0, .inr (5, (fX5 h1 h2 h3 h4))), (aI k h1 10 (vv n see tm g)), (aI k h2 24 ff), (aI k h3 24 fp), (aI k h4 4 fl)] H := hP
            replace hD : va_D A [(y0, .inr (2, (fX2 y1 y2 y3 wt wc))), (aI k y1 25 (upd ya3_8 be_8 r_12)), (aI k y2 25 yb3_8), (aI k y3 25 yd2_3), (h0, .inr (5, (fX5 h1 h2 h3 h4))), (aI k h1 10 (vv n see tm g)), (aI k h2 24 ff), (aI k h3 24 fp), (aI k h4 4 fl)] := hD
            refine lv_aload_n hx hb dX2_boyOf_171 rfl (lv_at hl 5 rfl) ?_
            refine va_get (D := D) (ci := 2) (v := .ref y2) (C := RX2) (T := TX2) (N := 5) hx hb hts inX2 hown hK hP 0 rfl rfl 1 (by decide) (hts _ tw_211) (fun _ h9 => h9) rfl dX2_boyOf_172 ?_
            refine lv_iload hx hb dX2_boyOf_175 (lv_at hl 2 rfl) ?_
            refine lv_aload_n hx hb dX2_boyOf_177 rfl (lv_at hl 6 rfl) ?_
            refine lv_iload hx hb dX2_boyOf_178 (lv_at hl 3 rfl) ?_
            refine lv_iconst (v := 0) hx hb dX2_boyOf_180 (by decide) ?_
            refine ro_i (D := D) (va_runV (As := [.int (nI q_7), .int 0]) (rest := [.int (nI be_8), .ref y2]) ⟨hx, hb, hml, hown, hts⟩ ((y_chanceOf l D k st lo h0 h1 h2 h3 h4 n see tm g ff q_7 0 (by first | assumption | omega)) H.size) (cwV 2 hts (gV tw_733 tw_565 tw_566 tw_81 tw_567) rfl rfl rfl (by decide +kernel) ⟨Nat.le_of_ble_eq_true rfl, Nat.le_of_ble_eq_true rfl⟩) (pV hS hAlo hlo hP hK (va_Dlo hD hAlo) hZ [4, 5, 6] (by decide) rfl (ci := 5) (q := (RX5, TX5, 4)) (q0 := 0) rfl rfl) rfl rfl hl.1 rfl (lv_room (Nat.le_of_ble_eq_true rfl)) dX2_boyOf_181 ⟨Nat.le_of_ble_eq_true rfl, Nat.le_of_ble_eq_true rfl⟩) hS hA hP (fun r_14 H locs hw_14 hP hS => ?_)
            try dsimp only at hw_14
            refine lv_iload hx hb dX2_boyOf_184 (lv_at hl 1 rfl) ?_
            refine lv_iload hx hb dX2_boyOf_186 (lv_at hl 0 rfl) ?_
            refine ro_i (D := D) (va_runSN (As := [.int r_14, .int (ya3_8 be_8), .int (yb3_8 be_8)]) (rest := [.int (nI be_8), .ref y2]) ⟨hx, hb, hml, hown, hts⟩ ((y_mixed l D k st lo r_14 (ya3_8 be_8) (yb3_8 be_8)) H.size) ⟨va_cnB 3 hts (gLW tw_570) rfl rfl rfl (hZ.2.2.2.2.2.2.2.2.1.1 (RX2, 78, yX7_mixed, RX7) (List.mem_of_getElem? (i := 6) rfl)) (hts _ tw_79) (by decide +kernel) ⟨Nat.le_of_ble_eq_true rfl, Nat.le_of_ble_eq_true rfl⟩, hts _ tw_569, trivial⟩ (pS hS hAlo hlo hP hK (va_Dlo hD hAlo) hZ [] (by decide) rfl) rfl rfl hl.1 rfl (lv_room (Nat.le_of_ble_eq_true rfl)) dX2_boyOf_188 ⟨Nat.le_of_ble_eq_true rfl, Nat.le_of_ble_eq_true rfl⟩) hS hA hP (fun r_15 H locs hw_15 hP hS => ?_)
            try dsimp only at hw_15
            refine va_iast hx hb hK hP hD hS 2 1 rfl rfl (vp_in_nI (by omega) (by decide)) dX2_boyOf_191 (fun H locs hP hD hS => ?_)
            replace hP : va_P D classes [(y0, .inr (2, (fX2 y1 y2 y3 wt wc))), (aI k y1 25 (upd ya3_8 be_8 r_12)), (aI k y2 25 (upd yb3_8 (Int32.toNatClampNeg (nI be_8)) r_15)), (aI k y3 25 yd2_3), (h0, .inr (5, (fX5 h1 h2 h3 h4))), (aI k h1 10 (vv n see tm g)), (aI k h2 24 ff), (aI k h3 24 fp), (aI k h4 4 fl)] H := hP
            replace hD : va_D A [(y0, .inr (2, (fX2 y1 y2 y3 wt wc))), (aI k y1 25 (upd ya3_8 be_8 r_12)), (aI k y2 25 (upd yb3_8 (Int32.toNatClampNeg (nI be_8)) r_15)), (aI k y3 25 yd2_3), (h0, .inr (5, (fX5 h1 h2 h3 h4))), (aI k h1 10 (vv n see tm g)), (aI k h2 24 ff), (aI k h3 24 fp), (aI k h4 4 fl)] := hD
            rw [nI_clamp (n := be_8) (by omega)] at hP hD
            replace hP : va_P D classes [(y0, .inr (2, (fX2 y1 y2 y3 wt wc))), (aI k y1 25 (upd ya3_8 be_8 r_12)), (aI k y2 25 (upd yb3_8 be_8 r_15)), (aI k y3 25 yd2_3), (h0, .inr (5, (fX5 h1 h2 h3 h4))), (aI k h1 10 (vv n see tm g)), (aI k h2 24 ff), (aI k h3 24 fp), (aI k h4 4 fl)] H := hP
            replace hD : va_D A [(y0, .inr (2, (fX2 y1 y2 y3 wt wc))), (aI k y1 25 (upd ya3_8 be_8 r_12)), (aI k y2 25 (upd yb3_8 be_8 r_15)), (aI k y3 25 yd2_3), (h0, .inr (5, (fX5 h1 h2 h3 h4))), (aI k h1 10 (vv n see tm g)), (aI k h2 24 ff), (aI k h3 24 fp), (aI k h4 4 fl)] := hD
            refine lv_iinc (v := (nI (be_8 + 1))) (lv' := [(5, .int (nI (be_8 + 1))), (7, .int (yb3_8 be_8)), (6, .int (ya3_8 be_8)), (4, .int (nI q_7)), (3, .int (nI n)), (0, .ref y0), (1, .ref h0), (2, .int p1)]) hx hb dX2_boyOf_192 hl (k := 2) rfl (nI_add be_8 1) (by decide) rfl (fun ls hl => ?_)
            refine lv_goto (tgt := 99) hx hb dX2_boyOf_195 (by decide) ?_
            have ha_8 := bo_v (d := (sdX n see tm g ff fp)) (E := p1) (b := be_8) (a := 1) (show q_7 < n by omega) (show _ = pChance (sdX n see tm g ff fp) q_7 (nI 1) from hw_11.trans (xChance (show q_7 < n by omega) (okX hok9 (show q_7 < n by omega)))) (by rw [if_neg (show ¬ boL (sdX n see tm g ff fp) p1 (q_7 + 1) < boL (sdX n see tm g ff fp) p1 be_8 from (by rw [← hLe_9 (q_7 + 1) (by omega), ← hLe_9 be_8 (by omega)]; exact Int32.not_lt.mpr c_10))]; exact hv_8.2.2.2.1 _ (by omega) (by omega)) (hv_8.2.2.2.2 be_8 (by omega) (by omega)) (hw_12.trans (mix_same (by rw [hw_11, xChance (see := see) (tm := tm) (fp := fp) (show q_7 < n by omega) (okX hok9 (show q_7 < n by omega))]; exact pCh_in)))
            have hb_8 := bo_v (d := (sdX n see tm g ff fp)) (E := p1) (b := be_8) (a := 0) (show q_7 < n by omega) (show _ = pChance (sdX n see tm g ff fp) q_7 (nI 0) from hw_14.trans (xChance (show q_7 < n by omega) (okX hok9 (show q_7 < n by omega)))) (by rw [if_neg (show ¬ boL (sdX n see tm g ff fp) p1 (q_7 + 1) < boL (sdX n see tm g ff fp) p1 be_8 from (by rw [← hLe_9 (q_7 + 1) (by omega), ← hLe_9 be_8 (by omega)]; exact Int32.not_lt.mpr c_10))]; exact hv_8.2.2.2.1 _ (by omega) (by omega)) (hv_8.2.2.2.2 be_8 (by omega) (by omega)) (hw_15.trans (mix_same (by rw [hw_14, xChance (see := see) (tm := tm) (fp := fp) (show q_7 < n by omega) (okX hok9 (show q_7 < n by omega))]; exact pCh_in)))
            have hsa_8 := bo_st (i := q_7) hv_8.2.1 hv_8.2.2.2.1 ha_8
            have hsb_8 := bo_st (i := q_7) hv_8.2.2.1 hv_8.2.2.2.2 hb_8
            exact ih_8 _ (be_8 + 1, (upd ya3_8 be_8 r_12), (upd yb3_8 be_8 r_15)) _ _ _ (by omega) ⟨rfl, ⟨by omega, hsa_8.1, hsb_8.1, hsa_8.2, hsb_8.2⟩, hP, hD, hS, (lv_sub hl [0, 3, 4, 5, 6, 7] rfl)⟩
          · refine lv_iload hx hb dX2_boyOf_129 (lv_at hl 1 rfl) ?_
            refine lv_iconst (v := 1) hx hb dX2_boyOf_131 (by decide) ?_
            refine lv_iadd hx hb dX2_boyOf_132 ?_
            refine lv_ti (y := (nI (q_7 + 1))) (nI_add q_7 1) ?_
            refine lv_goto (tgt := 138) hx hb dX2_boyOf_133 (by decide) ?_
            refine va_iald hx hb hK hP 1 1 rfl rfl (vp_in_nI (by omega) (by decide)) dX2_boyOf_138 ?_
            refine lv_ti (y := (ya3_8 (q_7 + 1))) (by rw [nI_clamp (by omega)]) ?_
            refine lv_istore (lv' := [(6, .int (ya3_8 (q_7 + 1))), (5, .int (nI be_8)), (4, .int (nI q_7)), (3, .int (nI n)), (0, .ref y0), (1, .ref h0), (2, .int p1)]) hx hb dX2_boyOf_139 hl (by decide) rfl (fun ls hl => ?_)
            refine lv_aload_n hx hb dX2_boyOf_141 rfl (lv_at hl 4 rfl) ?_
            refine va_get (D := D) (ci := 2) (v := .ref y2) (C := RX2) (T := TX2) (N := 5) hx hb hts inX2 hown hK hP 0 rfl rfl 1 (by decide) (hts _ tw_211) (fun _ h9 => h9) rfl dX2_boyOf_142 ?_
            refine lv_iload hx hb dX2_boyOf_145 (lv_at hl 1 rfl) ?_
            refine va_iald hx hb hK hP 2 1 rfl rfl (vp_in_nI (by omega) (by decide)) dX2_boyOf_147 ?_
            refine lv_ti (y := (yb3_8 be_8)) (by rw [nI_clamp (by omega)]) ?_
            refine lv_istore (lv' := [(7, .int (yb3_8 be_8)), (6, .int (ya3_8 (q_7 + 1))), (5, .int (nI be_8)), (4, .int (nI q_7)), (3, .int (nI n)), (0, .ref y0), (1, .ref h0), (2, .int p1)]) hx hb dX2_boyOf_148 hl (by decide) rfl (fun ls hl => ?_)
            refine lv_aload_n hx hb dX2_boyOf_150 rfl (lv_at hl 5 rfl) ?_
            refine va_get (D := D) (ci := 2) (v := .ref y1) (C := RX2) (T := TX2) (N := 5) hx hb hts inX2 hown hK hP 0 rfl rfl 0 (by decide) (hts _ tw_210) (fun _ h9 => h9) rfl dX2_boyOf_151 ?_
            refine lv_iload hx hb dX2_boyOf_154 (lv_at hl 2 rfl) ?_
            refine lv_aload_n hx hb dX2_boyOf_156 rfl (lv_at hl 6 rfl) ?_
            refine lv_iload hx hb dX2_boyOf_157 (lv_at hl 3 rfl) ?_
            refine lv_iconst (v := 1) hx hb dX2_boyOf_159 (by decide) ?_
            refine ro_i (D := D) (va_runV (As := [.int (nI q_7), .int 1]) (rest := [.int (nI be_8), .ref y1]) ⟨hx, hb, hml, hown, hts⟩ ((y_chanceOf l D k st lo h0 h1 h2 h3 h4 n see tm g ff q_7 1 (by first | assumption | omega)) H.size) (cwV 2 hts (gV tw_733 tw_565 tw_566 tw_81 tw_567) rfl rfl rfl (by decide +kernel) ⟨Nat.le_of_ble_eq_true rfl, Nat.le_of_ble_eq_true rfl⟩) (pV hS hAlo hlo hP hK (va_Dlo hD hAlo) hZ [4, 5, 6] (by decide) rfl (ci := 5) (q := (RX5, TX5, 4)) (q0 := 0) rfl rfl) rfl rfl hl.1 rfl (lv_room (Nat.le_of_ble_eq_true rfl)) dX2_boyOf_160 ⟨Nat.le_of_ble_eq_true rfl, Nat.le_of_ble_eq_true rfl⟩) hS hA hP (fun r_17 H locs hw_17 hP hS => ?_)
            try dsimp only at hw_17
            refine lv_iload hx hb dX2_boyOf_163 (lv_at hl 1 rfl) ?_
            refine lv_iload hx hb dX2_boyOf_165 (lv_at hl 0 rfl) ?_
            refine ro_i (D := D) (va_runSN (As := [.int r_17, .int (ya3_8 (q_7 + 1)), .int (yb3_8 be_8)]) (rest := [.int (nI be_8), .ref y1]) ⟨hx, hb, hml, hown, hts⟩ ((y_mixed l D k st lo r_17 (ya3_8 (q_7 + 1)) (yb3_8 be_8)) H.size) ⟨va_cnB 3 hts (gLW tw_570) rfl rfl rfl (hZ.2.2.2.2.2.2.2.2.1.1 (RX2, 78, yX7_mixed, RX7) (List.mem_of_getElem? (i := 6) rfl)) (hts _ tw_79) (by decide +kernel) ⟨Nat.le_of_ble_eq_true rfl, Nat.le_of_ble_eq_true rfl⟩, hts _ tw_569, trivial⟩ (pS hS hAlo hlo hP hK (va_Dlo hD hAlo) hZ [] (by decide) rfl) rfl rfl hl.1 rfl (lv_room (Nat.le_of_ble_eq_true rfl)) dX2_boyOf_167 ⟨Nat.le_of_ble_eq_true rfl, Nat.le_of_ble_eq_true rfl⟩) hS hA hP (fun r_18 H locs hw_18 hP hS => ?_)
            try dsimp only at hw_18
            refine va_iast hx hb hK hP hD hS 1 1 rfl rfl (vp_in_nI (by omega) (by decide)) dX2_boyOf_170 (fun H locs hP hD hS => ?_)
            replace hP : va_P D classes [(y0, .inr (2, (fX2 y1 y2 y3 wt wc))), (aI k y1 25 (upd ya3_8 (Int32.toNatClampNeg (nI be_8)) r_18)), (aI k y2 25 yb3_8), (aI k y3 25 yd2_3), (h0, .inr (5, (fX5 h1 h2 h3 h4))), (aI k h1 10 (vv n see tm g)), (aI k h2 24 ff), (aI k h3 24 fp), (aI k h4 4 fl)] H := hP
            replace hD : va_D A [(y0, .inr (2, (fX2 y1 y2 y3 wt wc))), (aI k y1 25 (upd ya3_8 (Int32.toNatClampNeg (nI be_8)) r_18)), (aI k y2 25 yb3_8), (aI k y3 25 yd2_3), (h0, .inr (5, (fX5 h1 h2 h3 h4))), (aI k h1 10 (vv n see tm g)), (aI k h2 24 ff), (aI k h3 24 fp), (aI k h4 4 fl)] := hD
            rw [nI_clamp (n := be_8) (by omega)] at hP hD
            replace hP : va_P D classes [(y0, .inr (2, (fX2 y1 y2 y3 wt wc))), (aI k y1 25 (upd ya3_8 be_8 r_18)), (aI k y2 25 yb3_8), (aI k y3 25 yd2_3), (h0, .inr (5, (fX5 h1 h2 h3 h4))), (aI k h1 10 (vv n see tm g)), (aI k h2 24 ff), (aI k h3 24 fp), (aI k h4 4 fl)] H := hP
            replace hD : va_D A [(y0, .inr (2, (fX2 y1 y2 y3 wt wc))), (aI k y1 25 (upd ya3_8 be_8 r_18)), (aI k y2 25 yb3_8), (aI k y3 25 yd2_3), (h0, .inr (5, (fX5 h1 h2 h3 h4))), (aI k h1 10 (vv n see tm g)), (aI k h2 24 ff), (aI k h3 24 fp), (aI k h4 4 fl)] := hD
            refine lv_aload_n hx hb dX2_boyOf_171 rfl (lv_at hl 5 rfl) ?_
            refine va_get (D := D) (ci := 2) (v := .ref y2) (C := RX2) (T := TX2) (N := 5) hx hb hts inX2 hown hK hP 0 rfl rfl 1 (by decide) (hts _ tw_211) (fun _ h9 => h9) rfl dX2_boyOf_172 ?_
            refine lv_iload hx hb dX2_boyOf_175 (lv_at hl 2 rfl) ?_
            refine lv_aload_n hx hb dX2_boyOf_177 rfl (lv_at hl 6 rfl) ?_
            refine lv_iload hx hb dX2_boyOf_178 (lv_at hl 3 rfl) ?_
            refine lv_iconst (v := 0) hx hb dX2_boyOf_180 (by decide) ?_
            refine ro_i (D := D) (va_runV (As := [.int (nI q_7), .int 0]) (rest := [.int (nI be_8), .ref y2]) ⟨hx, hb, hml, hown, hts⟩ ((y_chanceOf l D k st lo h0 h1 h2 h3 h4 n see tm g ff q_7 0 (by first | assumption | omega)) H.size) (cwV 2 hts (gV tw_733 tw_565 tw_566 tw_81 tw_567) rfl rfl rfl (by decide +kernel) ⟨Nat.le_of_ble_eq_true rfl, Nat.le_of_ble_eq_true rfl⟩) (pV hS hAlo hlo hP hK (va_Dlo hD hAlo) hZ [4, 5, 6] (by decide) rfl (ci := 5) (q := (RX5, TX5, 4)) (q0 := 0) rfl rfl) rfl rfl hl.1 rfl (lv_room (Nat.le_of_ble_eq_true rfl)) dX2_boyOf_181 ⟨Nat.le_of_ble_eq_true rfl, Nat.le_of_ble_eq_true rfl⟩) hS hA hP (fun r_20 H locs hw_20 hP hS => ?_)
            try dsimp only at hw_20
            refine lv_iload hx hb dX2_boyOf_184 (lv_at hl 1 rfl) ?_
            refine lv_iload hx hb dX2_boyOf_186 (lv_at hl 0 rfl) ?_
            refine ro_i (D := D) (va_runSN (As := [.int r_20, .int (ya3_8 (q_7 + 1)), .int (yb3_8 be_8)]) (rest := [.int (nI be_8), .ref y2]) ⟨hx, hb, hml, hown, hts⟩ ((y_mixed l D k st lo r_20 (ya3_8 (q_7 + 1)) (yb3_8 be_8)) H.size) ⟨va_cnB 3 hts (gLW tw_570) rfl rfl rfl (hZ.2.2.2.2.2.2.2.2.1.1 (RX2, 78, yX7_mixed, RX7) (List.mem_of_getElem? (i := 6) rfl)) (hts _ tw_79) (by decide +kernel) ⟨Nat.le_of_ble_eq_true rfl, Nat.le_of_ble_eq_true rfl⟩, hts _ tw_569, trivial⟩ (pS hS hAlo hlo hP hK (va_Dlo hD hAlo) hZ [] (by decide) rfl) rfl rfl hl.1 rfl (lv_room (Nat.le_of_ble_eq_true rfl)) dX2_boyOf_188 ⟨Nat.le_of_ble_eq_true rfl, Nat.le_of_ble_eq_true rfl⟩) hS hA hP (fun r_21 H locs hw_21 hP hS => ?_)
            try dsimp only at hw_21
            refine va_iast hx hb hK hP hD hS 2 1 rfl rfl (vp_in_nI (by omega) (by decide)) dX2_boyOf_191 (fun H locs hP hD hS => ?_)
            replace hP : va_P D classes [(y0, .inr (2, (fX2 y1 y2 y3 wt wc))), (aI k y1 25 (upd ya3_8 be_8 r_18)), (aI k y2 25 (upd yb3_8 (Int32.toNatClampNeg (nI be_8)) r_21)), (aI k y3 25 yd2_3), (h0, .inr (5, (fX5 h1 h2 h3 h4))), (aI k h1 10 (vv n see tm g)), (aI k h2 24 ff), (aI k h3 24 fp), (aI k h4 4 fl)] H := hP
            replace hD : va_D A [(y0, .inr (2, (fX2 y1 y2 y3 wt wc))), (aI k y1 25 (upd ya3_8 be_8 r_18)), (aI k y2 25 (upd yb3_8 (Int32.toNatClampNeg (nI be_8)) r_21)), (aI k y3 25 yd2_3), (h0, .inr (5, (fX5 h1 h2 h3 h4))), (aI k h1 10 (vv n see tm g)), (aI k h2 24 ff), (aI k h3 24 fp), (aI k h4 4 fl)] := hD
            rw [nI_clamp (n := be_8) (by omega)] at hP hD
            replace hP : va_P D classes [(y0, .inr (2, (fX2 y1 y2 y3 wt wc))), (aI k y1 25 (upd ya3_8 be_8 r_18)), (aI k y2 25 (upd yb3_8 be_8 r_21)), (aI k y3 25 yd2_3), (h0, .inr (5, (fX5 h1 h2 h3 h4))), (aI k h1 10 (vv n see tm g)), (aI k h2 24 ff), (aI k h3 24 fp), (aI k h4 4 fl)] H := hP
            replace hD : va_D A [(y0, .inr (2, (fX2 y1 y2 y3 wt wc))), (aI k y1 25 (upd ya3_8 be_8 r_18)), (aI k y2 25 (upd yb3_8 be_8 r_21)), (aI k y3 25 yd2_3), (h0, .inr (5, (fX5 h1 h2 h3 h4))), (aI k h1 10 (vv n see tm g)), (aI k h2 24 ff), (aI k h3 24 fp), (aI k h4 4 fl)] := hD
            refine lv_iinc (v := (nI (be_8 + 1))) (lv' := [(5, .int (nI (be_8 + 1))), (7, .int (yb3_8 be_8)), (6, .int (ya3_8 (q_7 + 1))), (4, .int (nI q_7)), (3, .int (nI n)), (0, .ref y0), (1, .ref h0), (2, .int p1)]) hx hb dX2_boyOf_192 hl (k := 2) rfl (nI_add be_8 1) (by decide) rfl (fun ls hl => ?_)
            refine lv_goto (tgt := 99) hx hb dX2_boyOf_195 (by decide) ?_
            have ha_8 := bo_v (d := (sdX n see tm g ff fp)) (E := p1) (b := be_8) (a := 1) (show q_7 < n by omega) (show _ = pChance (sdX n see tm g ff fp) q_7 (nI 1) from hw_17.trans (xChance (show q_7 < n by omega) (okX hok9 (show q_7 < n by omega)))) (by rw [if_pos (show boL (sdX n see tm g ff fp) p1 (q_7 + 1) < boL (sdX n see tm g ff fp) p1 be_8 from (by rw [← hLe_9 (q_7 + 1) (by omega), ← hLe_9 be_8 (by omega)]; exact Int32.not_le.mp c_10))]; exact hv_8.2.2.2.1 _ (by omega) (by omega)) (hv_8.2.2.2.2 be_8 (by omega) (by omega)) (hw_18.trans (mix_same (by rw [hw_17, xChance (see := see) (tm := tm) (fp := fp) (show q_7 < n by omega) (okX hok9 (show q_7 < n by omega))]; exact pCh_in)))
            have hb_8 := bo_v (d := (sdX n see tm g ff fp)) (E := p1) (b := be_8) (a := 0) (show q_7 < n by omega) (show _ = pChance (sdX n see tm g ff fp) q_7 (nI 0) from hw_20.trans (xChance (show q_7 < n by omega) (okX hok9 (show q_7 < n by omega)))) (by rw [if_pos (show boL (sdX n see tm g ff fp) p1 (q_7 + 1) < boL (sdX n see tm g ff fp) p1 be_8 from (by rw [← hLe_9 (q_7 + 1) (by omega), ← hLe_9 be_8 (by omega)]; exact Int32.not_le.mp c_10))]; exact hv_8.2.2.2.1 _ (by omega) (by omega)) (hv_8.2.2.2.2 be_8 (by omega) (by omega)) (hw_21.trans (mix_same (by rw [hw_20, xChance (see := see) (tm := tm) (fp := fp) (show q_7 < n by omega) (okX hok9 (show q_7 < n by omega))]; exact pCh_in)))
            have hsa_8 := bo_st (i := q_7) hv_8.2.1 hv_8.2.2.2.1 ha_8
            have hsb_8 := bo_st (i := q_7) hv_8.2.2.1 hv_8.2.2.2.2 hb_8
            exact ih_8 _ (be_8 + 1, (upd ya3_8 be_8 r_18), (upd yb3_8 be_8 r_21)) _ _ _ (by omega) ⟨rfl, ⟨by omega, hsa_8.1, hsb_8.1, hsa_8.2, hsb_8.2⟩, hP, hD, hS, (lv_sub hl [0, 3, 4, 5, 6, 7] rfl)⟩
    · have c_6 : ¬ (n < ii_5) := fun h => c_6 ((nI_ltI (a := n) (b := ii_5) (by omega) (by omega)).mpr h)
      refine lv_aload_n hx hb dX2_boyOf_52 rfl (lv_at hl 2 rfl) ?_
      refine va_get (D := D) (ci := 2) (v := .ref y1) (C := RX2) (T := TX2) (N := 5) hx hb hts inX2 hown hK hP 0 rfl rfl 0 (by decide) (hts _ tw_210) (fun _ h9 => h9) rfl dX2_boyOf_53 ?_
      refine lv_iload hx hb dX2_boyOf_56 (lv_at hl 0 rfl) ?_
      refine lv_aload_n hx hb dX2_boyOf_58 rfl (lv_at hl 2 rfl) ?_
      refine va_get (D := D) (ci := 2) (v := .ref y3) (C := RX2) (T := TX2) (N := 5) hx hb hts inX2 hown hK hP 0 rfl rfl 2 (by decide) (hts _ tw_212) (fun _ h9 => h9) rfl dX2_boyOf_59 ?_
      refine lv_iload hx hb dX2_boyOf_62 (lv_at hl 0 rfl) ?_
      refine va_iald hx hb hK hP 3 1 rfl rfl (vp_in_nI (by omega) (by decide)) dX2_boyOf_64 ?_
      refine lv_ti (y := (yd2_3 ii_5)) (by rw [nI_clamp (by omega)]) ?_
      refine va_iast hx hb hK hP hD hS 1 1 rfl rfl (vp_in_nI (by omega) (by decide)) dX2_boyOf_65 (fun H locs hP hD hS => ?_)
      replace hP : va_P D classes [(y0, .inr (2, (fX2 y1 y2 y3 wt wc))), (aI k y1 25 (upd ya2_5 (Int32.toNatClampNeg (nI ii_5)) (yd2_3 ii_5))), (aI k y2 25 yb2_5), (aI k y3 25 yd2_3), (h0, .inr (5, (fX5 h1 h2 h3 h4))), (aI k h1 10 (vv n see tm g)), (aI k h2 24 ff), (aI k h3 24 fp), (aI k h4 4 fl)] H := hP
      replace hD : va_D A [(y0, .inr (2, (fX2 y1 y2 y3 wt wc))), (aI k y1 25 (upd ya2_5 (Int32.toNatClampNeg (nI ii_5)) (yd2_3 ii_5))), (aI k y2 25 yb2_5), (aI k y3 25 yd2_3), (h0, .inr (5, (fX5 h1 h2 h3 h4))), (aI k h1 10 (vv n see tm g)), (aI k h2 24 ff), (aI k h3 24 fp), (aI k h4 4 fl)] := hD
      rw [nI_clamp (n := ii_5) (by omega)] at hP hD
      replace hP : va_P D classes [(y0, .inr (2, (fX2 y1 y2 y3 wt wc))), (aI k y1 25 (upd ya2_5 ii_5 (yd2_3 ii_5))), (aI k y2 25 yb2_5), (aI k y3 25 yd2_3), (h0, .inr (5, (fX5 h1 h2 h3 h4))), (aI k h1 10 (vv n see tm g)), (aI k h2 24 ff), (aI k h3 24 fp), (aI k h4 4 fl)] H := hP
      replace hD : va_D A [(y0, .inr (2, (fX2 y1 y2 y3 wt wc))), (aI k y1 25 (upd ya2_5 ii_5 (yd2_3 ii_5))), (aI k y2 25 yb2_5), (aI k y3 25 yd2_3), (h0, .inr (5, (fX5 h1 h2 h3 h4))), (aI k h1 10 (vv n see tm g)), (aI k h2 24 ff), (aI k h3 24 fp), (aI k h4 4 fl)] := hD
      refine lv_aload_n hx hb dX2_boyOf_66 rfl (lv_at hl 2 rfl) ?_
      refine va_get (D := D) (ci := 2) (v := .ref y2) (C := RX2) (T := TX2) (N := 5) hx hb hts inX2 hown hK hP 0 rfl rfl 1 (by decide) (hts _ tw_211) (fun _ h9 => h9) rfl dX2_boyOf_67 ?_
      refine lv_iload hx hb dX2_boyOf_70 (lv_at hl 0 rfl) ?_
      refine lv_aload_n hx hb dX2_boyOf_72 rfl (lv_at hl 2 rfl) ?_
      refine va_get (D := D) (ci := 2) (v := .ref y3) (C := RX2) (T := TX2) (N := 5) hx hb hts inX2 hown hK hP 0 rfl rfl 2 (by decide) (hts _ tw_212) (fun _ h9 => h9) rfl dX2_boyOf_73 ?_
      refine lv_iload hx hb dX2_boyOf_76 (lv_at hl 0 rfl) ?_
      refine va_iald hx hb hK hP 3 1 rfl rfl (vp_in_nI (by omega) (by decide)) dX2_boyOf_78 ?_
      refine lv_ti (y := (yd2_3 ii_5)) (by rw [nI_clamp (by omega)]) ?_
      refine va_iast hx hb hK hP hD hS 2 1 rfl rfl (vp_in_nI (by omega) (by decide)) dX2_boyOf_79 (fun H locs hP hD hS => ?_)
      replace hP : va_P D classes [(y0, .inr (2, (fX2 y1 y2 y3 wt wc))), (aI k y1 25 (upd ya2_5 ii_5 (yd2_3 ii_5))), (aI k y2 25 (upd yb2_5 (Int32.toNatClampNeg (nI ii_5)) (yd2_3 ii_5))), (aI k y3 25 yd2_3), (h0, .inr (5, (fX5 h1 h2 h3 h4))), (aI k h1 10 (vv n see tm g)), (aI k h2 24 ff), (aI k h3 24 fp), (aI k h4 4 fl)] H := hP
      replace hD : va_D A [(y0, .inr (2, (fX2 y1 y2 y3 wt wc))), (aI k y1 25 (upd ya2_5 ii_5 (yd2_3 ii_5))), (aI k y2 25 (upd yb2_5 (Int32.toNatClampNeg (nI ii_5)) (yd2_3 ii_5))), (aI k y3 25 yd2_3), (h0, .inr (5, (fX5 h1 h2 h3 h4))), (aI k h1 10 (vv n see tm g)), (aI k h2 24 ff), (aI k h3 24 fp), (aI k h4 4 fl)] := hD
      rw [nI_clamp (n := ii_5) (by omega)] at hP hD
      replace hP : va_P D classes [(y0, .inr (2, (fX2 y1 y2 y3 wt wc))), (aI k y1 25 (upd ya2_5 ii_5 (yd2_3 ii_5))), (aI k y2 25 (upd yb2_5 ii_5 (yd2_3 ii_5))), (aI k y3 25 yd2_3), (h0, .inr (5, (fX5 h1 h2 h3 h4))), (aI k h1 10 (vv n see tm g)), (aI k h2 24 ff), (aI k h3 24 fp), (aI k h4 4 fl)] H := hP
      replace hD : va_D A [(y0, .inr (2, (fX2 y1 y2 y3 wt wc))), (aI k y1 25 (upd ya2_5 ii_5 (yd2_3 ii_5))), (aI k y2 25 (upd yb2_5 ii_5 (yd2_3 ii_5))), (aI k y3 25 yd2_3), (h0, .inr (5, (fX5 h1 h2 h3 h4))), (aI k h1 10 (vv n see tm g)), (aI k h2 24 ff), (aI k h3 24 fp), (aI k h4 4 fl)] := hD
      refine lv_iinc (v := (nI (ii_5 + 1))) (lv' := [(4, .int (nI (ii_5 + 1))), (3, .int (nI n)), (0, .ref y0), (1, .ref h0), (2, .int p1)]) hx hb dX2_boyOf_80 hl (k := 0) rfl (nI_add ii_5 1) (by decide) rfl (fun ls hl => ?_)
      refine lv_goto (tgt := 46) hx hb dX2_boyOf_83 (by decide) ?_
      exact ih_5 _ (ii_5 + 1, (upd ya2_5 ii_5 (yd2_3 ii_5)), (upd yb2_5 ii_5 (yd2_3 ii_5))) _ _ _ (by omega) ⟨rfl, ⟨by omega, la_upd hv_5.2.1 (hLe_9 _ (by omega)), la_upd hv_5.2.2 (hLe_9 _ (by omega))⟩, hP, hD, hS, (lv_sub hl [0, 1, 2, 3, 4] rfl)⟩
  · have c_4 : ¬ (n ≤ ii_3) := fun h => c_4 ((nI_leI (a := n) (b := ii_3) (by omega) (by omega)).mpr h)
    refine lv_aload_n hx hb dX2_boyOf_21 rfl (lv_at hl 2 rfl) ?_
    refine va_get (D := D) (ci := 2) (v := .ref y3) (C := RX2) (T := TX2) (N := 5) hx hb hts inX2 hown hK hP 0 rfl rfl 2 (by decide) (hts _ tw_212) (fun _ h9 => h9) rfl dX2_boyOf_22 ?_
    refine lv_iload hx hb dX2_boyOf_25 (lv_at hl 0 rfl) ?_
    refine lv_iconst (v := 1) hx hb dX2_boyOf_27 (by decide) ?_
    refine lv_iadd hx hb dX2_boyOf_28 ?_
    refine lv_ti (y := (nI (ii_3 + 1))) (nI_add ii_3 1) ?_
    refine lv_aload_n hx hb dX2_boyOf_29 rfl (lv_at hl 3 rfl) ?_
    refine lv_iconst (v := 0) hx hb dX2_boyOf_30 (by decide) ?_
    refine lv_iload hx hb dX2_boyOf_31 (lv_at hl 0 rfl) ?_
    refine ro_i (D := D) (va_runV (As := [.int 0, .int (nI ii_3)]) (rest := [.int (nI (ii_3 + 1)), .ref y3]) ⟨hx, hb, hml, hown, hts⟩ ((y_takingOf l D k st lo h0 h1 h2 h3 h4 n see tm g fp fl 0 ii_3 (by first | assumption | omega) (by first | assumption | omega)) H.size) (cwV 2 hts (gV tw_728 tw_557 tw_558 tw_81 tw_559) rfl rfl rfl (by decide +kernel) ⟨Nat.le_of_ble_eq_true rfl, Nat.le_of_ble_eq_true rfl⟩) (pV hS hAlo hlo hP hK (va_Dlo hD hAlo) hZ [4, 5, 7, 8] (by decide) rfl (ci := 5) (q := (RX5, TX5, 4)) (q0 := 0) rfl rfl) rfl rfl hl.1 rfl (lv_room (Nat.le_of_ble_eq_true rfl)) dX2_boyOf_33 ⟨Nat.le_of_ble_eq_true rfl, Nat.le_of_ble_eq_true rfl⟩) hS hA hP (fun r_25 H locs hw_25 hP hS => ?_)
    try dsimp only at hw_25
    refine va_iast hx hb hK hP hD hS 3 1 rfl rfl (vp_in_nI (by omega) (by decide)) dX2_boyOf_36 (fun H locs hP hD hS => ?_)
    replace hP : va_P D classes [(y0, .inr (2, (fX2 y1 y2 y3 wt wc))), (aI k y1 25 ya), (aI k y2 25 yb), (aI k y3 25 (upd yd2_3 (Int32.toNatClampNeg (nI (ii_3 + 1))) r_25)), (h0, .inr (5, (fX5 h1 h2 h3 h4))), (aI k h1 10 (vv n see tm g)), (aI k h2 24 ff), (aI k h3 24 fp), (aI k h4 4 fl)] H := hP
    replace hD : va_D A [(y0, .inr (2, (fX2 y1 y2 y3 wt wc))), (aI k y1 25 ya), (aI k y2 25 yb), (aI k y3 25 (upd yd2_3 (Int32.toNatClampNeg (nI (ii_3 + 1))) r_25)), (h0, .inr (5, (fX5 h1 h2 h3 h4))), (aI k h1 10 (vv n see tm g)), (aI k h2 24 ff), (aI k h3 24 fp), (aI k h4 4 fl)] := hD
    rw [nI_clamp (n := (ii_3 + 1)) (by omega)] at hP hD
    replace hP : va_P D classes [(y0, .inr (2, (fX2 y1 y2 y3 wt wc))), (aI k y1 25 ya), (aI k y2 25 yb), (aI k y3 25 (upd yd2_3 (ii_3 + 1) r_25)), (h0, .inr (5, (fX5 h1 h2 h3 h4))), (aI k h1 10 (vv n see tm g)), (aI k h2 24 ff), (aI k h3 24 fp), (aI k h4 4 fl)] H := hP
    replace hD : va_D A [(y0, .inr (2, (fX2 y1 y2 y3 wt wc))), (aI k y1 25 ya), (aI k y2 25 yb), (aI k y3 25 (upd yd2_3 (ii_3 + 1) r_25)), (h0, .inr (5, (fX5 h1 h2 h3 h4))), (aI k h1 10 (vv n see tm g)), (aI k h2 24 ff), (aI k h3 24 fp), (aI k h4 4 fl)] := hD
    refine lv_iinc (v := (nI (ii_3 + 1))) (lv' := [(4, .int (nI (ii_3 + 1))), (3, .int (nI n)), (0, .ref y0), (1, .ref h0), (2, .int p1)]) hx hb dX2_boyOf_37 hl (k := 0) rfl (nI_add ii_3 1) (by decide) rfl (fun ls hl => ?_)
    refine lv_goto (tgt := 15) hx hb dX2_boyOf_40 (by decide) ?_
    exact ih_3 _ (ii_3 + 1, (upd yd2_3 (ii_3 + 1) r_25)) _ _ _ (by omega) ⟨rfl, ⟨by omega, la_upd hv_3.2 (hw_25.trans (xTake (by omega) (hl9 0 (by omega))))⟩, hP, hD, hS, (lv_sub hl [0, 1, 2, 3, 4] rfl)⟩


set_option maxHeartbeats 4000000 in
set_option maxRecDepth 100000 in
theorem y_boy (l : Launch) (D : va_G) (k : Nat → ClassId) (st : Nat → Nat) (lo : Nat) (a : Nat → Nat) (rk : Nat) (lfa : Int32) (n0 : Nat) (see0 : Nat) (tm0 : Nat) (g0 : Nat → Int32) (ff0 : Nat → Int32) (fp0 : Nat → Int32) (fl0 : Nat → Int32) (n1 : Nat) (see1 : Nat) (tm1 : Nat) (g1 : Nat → Int32) (ff1 : Nat → Int32) (fp1 : Nat → Int32) (fl1 : Nat → Int32) (n2 : Nat) (see2 : Nat) (tm2 : Nat) (g2 : Nat → Int32) (ff2 : Nat → Int32) (fp2 : Nat → Int32) (fl2 : Nat → Int32) (on0 : Nat → Int32) (sr0 : Nat → Int32) (en0 : Nat → Int32) (on1 : Nat → Int32) (sr1 : Nat → Int32) (en1 : Nat → Int32) (on2 : Nat → Int32) (sr2 : Nat → Int32) (en2 : Nat → Int32) (wt : Int32) (wc : Int32) (ya : Nat → Int32) (yb : Nat → Int32) (yd : Nat → Int32) (p0 : Int32) (hn0 : n0 ≤ 24) (hse0 : see0 ≤ 2) (htm0 : tm0 ≤ 3) (hn1 : n1 ≤ 24) (hse1 : see1 ≤ 2) (htm1 : tm1 ≤ 3) (hn2 : n2 ≤ 24) (hse2 : see2 ≤ 2) (htm2 : tm2 ≤ 3) (hlt : ltP (d3 fl0 fl1 fl2) (d3 (sdX n0 see0 tm0 g0 ff0 fp0) (sdX n1 see1 tm1 g1 ff1 fp1) (sdX n2 see2 tm2 g2 ff2 fp2))) (hwy : wy3 (d3 (sdX n0 see0 tm0 g0 ff0 fp0) (sdX n1 see1 tm1 g1 ff1 fp1) (sdX n2 see2 tm2 g2 ff2 fp2)) (d3 on0 on1 on2) (d3 sr0 sr1 sr2) (d3 en0 en1 en2)) (hok : ∀ i, i < 3 → okD ((d3 (sdX n0 see0 tm0 g0 ff0 fp0) (sdX n1 see1 tm1 g1 ff1 fp1) (sdX n2 see2 tm2 g2 ff2 fp2)) i)) : CWi l D k st lo yX7_boy cX7_boy 2 (some .int) ({ frames := 3, cells := 0, slots := 0, locals := 110 }) 0 0 [.ref (a 0), .int p0] [((a 0), .inr (7, (fX7 (a 1) (a 3) (a 19) (a 35) (a 40) (nI rk) lfa (a 53) (a 56) (a 63) (a 64) (a 68)))), ((a 3), .inl (k 3, 3, .inr (.inr (.inr (.inr (a3 (a 4) (a 9) (a 14))))))), ((a 19), .inl (k 4, 3, .inr (.inr (.inr (.inr (a3 (a 20) (a 25) (a 30))))))), ((a 4), .inr (5, (fX5 (a 5) (a 6) (a 7) (a 8)))), (aI k (a 5) 10 (vv n0 see0 tm0 g0)), (aI k (a 6) 24 ff0), (aI k (a 7) 24 fp0), (aI k (a 8) 4 fl0), ((a 9), .inr (5, (fX5 (a 10) (a 11) (a 12) (a 13)))), (aI k (a 10) 10 (vv n1 see1 tm1 g1)), (aI k (a 11) 24 ff1), (aI k (a 12) 24 fp1), (aI k (a 13) 4 fl1), ((a 14), .inr (5, (fX5 (a 15) (a 16) (a 17) (a 18)))), (aI k (a 15) 10 (vv n2 see2 tm2 g2)), (aI k (a 16) 24 ff2), (aI k (a 17) 24 fp2), (aI k (a 18) 4 fl2), ((a 20), .inr (0, (fX0 (a 4) (a 21) (a 22) (a 23) (a 24)))), (aI k (a 21) 768 on0), (aI k (a 22) 4 sr0), (aI k (a 23) 4 en0), ((a 25), .inr (0, (fX0 (a 9) (a 26) (a 27) (a 28) (a 29)))), (aI k (a 26) 768 on1), (aI k (a 27) 4 sr1), (aI k (a 28) 4 en1), ((a 30), .inr (0, (fX0 (a 14) (a 31) (a 32) (a 33) (a 34)))), (aI k (a 31) 768 on2), (aI k (a 32) 4 sr2), (aI k (a 33) 4 en2), ((a 64), .inr (2, (fX2 (a 65) (a 66) (a 67) wt wc))), (aI k (a 65) 25 ya), (aI k (a 66) 25 yb), (aI k (a 67) 25 yd)] (fun (r : Int32) (u : (Nat → Int32) × (Nat → Int32) × (Nat → Int32)) => match u with | (ya_, yb_, yd_) => tqP (d3 (sdX n0 see0 tm0 g0 ff0 fp0) (sdX n1 see1 tm1 g1 ff1 fp1) (sdX n2 see2 tm2 g2 ff2 fp2)) p0 boA r) (fun (u : (Nat → Int32) × (Nat → Int32) × (Nat → Int32)) => match u with | (ya_, yb_, yd_) => [((a 0), .inr (7, (fX7 (a 1) (a 3) (a 19) (a 35) (a 40) (nI rk) lfa (a 53) (a 56) (a 63) (a 64) (a 68)))), ((a 3), .inl (k 3, 3, .inr (.inr (.inr (.inr (a3 (a 4) (a 9) (a 14))))))), ((a 19), .inl (k 4, 3, .inr (.inr (.inr (.inr (a3 (a 20) (a 25) (a 30))))))), ((a 4), .inr (5, (fX5 (a 5) (a 6) (a 7) (a 8)))), (aI k (a 5) 10 (vv n0 see0 tm0 g0)), (aI k (a 6) 24 ff0), (aI k (a 7) 24 fp0), (aI k (a 8) 4 fl0), ((a 9), .inr (5, (fX5 (a 10) (a 11) (a 12) (a 13)))), (aI k (a 10) 10 (vv n1 see1 tm1 g1)), (aI k (a 11) 24 ff1), (aI k (a 12) 24 fp1), (aI k (a 13) 4 fl1), ((a 14), .inr (5, (fX5 (a 15) (a 16) (a 17) (a 18)))), (aI k (a 15) 10 (vv n2 see2 tm2 g2)), (aI k (a 16) 24 ff2), (aI k (a 17) 24 fp2), (aI k (a 18) 4 fl2), ((a 20), .inr (0, (fX0 (a 4) (a 21) (a 22) (a 23) (a 24)))), (aI k (a 21) 768 on0), (aI k (a 22) 4 sr0), (aI k (a 23) 4 en0), ((a 25), .inr (0, (fX0 (a 9) (a 26) (a 27) (a 28) (a 29)))), (aI k (a 26) 768 on1), (aI k (a 27) 4 sr1), (aI k (a 28) 4 en1), ((a 30), .inr (0, (fX0 (a 14) (a 31) (a 32) (a 33) (a 34)))), (aI k (a 31) 768 on2), (aI k (a 32) 4 sr2), (aI k (a 33) 4 en2), ((a 64), .inr (2, (fX2 (a 65) (a 66) (a 67) wt wc))), (aI k (a 65) 25 ya_), (aI k (a 66) 25 yb_), (aI k (a 67) 25 yd_)]) := by
  intro sz
  refine Met.ofW (cc := cX7_boy) (maxL := 2) (ret := (some .int)) (by decide) rfl ?_
  intro p e s m args below meth c s₁ B hml hv
  obtain ⟨rfl, hsz, hlo, hP, hK, hDL, hZ⟩ := hv
  have hx := B.exec
  have hb := B.bytes
  have hr := B.returns
  have hts := WS_ts B.pre
  have hown : s.vm.findClass RX7 = some m.cls := findClass_of_methodNamed B.named
  have hlocks := B.notSynchronized
  subst hsz
  have hD := hDL.self (sz := s.heap.size)
  have hAlo := A_lo hDL hlo
  generalize hAe : va_A [((a 0), .inr (7, (fX7 (a 1) (a 3) (a 19) (a 35) (a 40) (nI rk) lfa (a 53) (a 56) (a 63) (a 64) (a 68)))), ((a 3), .inl (k 3, 3, .inr (.inr (.inr (.inr (a3 (a 4) (a 9) (a 14))))))), ((a 19), .inl (k 4, 3, .inr (.inr (.inr (.inr (a3 (a 20) (a 25) (a 30))))))), ((a 4), .inr (5, (fX5 (a 5) (a 6) (a 7) (a 8)))), (aI k (a 5) 10 (vv n0 see0 tm0 g0)), (aI k (a 6) 24 ff0), (aI k (a 7) 24 fp0), (aI k (a 8) 4 fl0), ((a 9), .inr (5, (fX5 (a 10) (a 11) (a 12) (a 13)))), (aI k (a 10) 10 (vv n1 see1 tm1 g1)), (aI k (a 11) 24 ff1), (aI k (a 12) 24 fp1), (aI k (a 13) 4 fl1), ((a 14), .inr (5, (fX5 (a 15) (a 16) (a 17) (a 18)))), (aI k (a 15) 10 (vv n2 see2 tm2 g2)), (aI k (a 16) 24 ff2), (aI k (a 17) 24 fp2), (aI k (a 18) 4 fl2), ((a 20), .inr (0, (fX0 (a 4) (a 21) (a 22) (a 23) (a 24)))), (aI k (a 21) 768 on0), (aI k (a 22) 4 sr0), (aI k (a 23) 4 en0), ((a 25), .inr (0, (fX0 (a 9) (a 26) (a 27) (a 28) (a 29)))), (aI k (a 26) 768 on1), (aI k (a 27) 4 sr1), (aI k (a 28) 4 en1), ((a 30), .inr (0, (fX0 (a 14) (a 31) (a 32) (a 33) (a 34)))), (aI k (a 31) 768 on2), (aI k (a 32) 4 sr2), (aI k (a 33) 4 en2), ((a 64), .inr (2, (fX2 (a 65) (a 66) (a 67) wt wc))), (aI k (a 65) 25 ya), (aI k (a 66) 25 yb), (aI k (a 67) 25 yd)] s.heap.size = A at hD hAlo ⊢
  have hA : ∀ q : Nat, s.heap.size ≤ q → A q := fun q h => by rw [← hAe]; exact Or.inr h
  have hS : va_S A s.heap s.heap [] := va_S.rf
  have hl := lv_entry ([.ref (a 0), .int p0]) (n := 2) (Nat.le_of_ble_eq_true rfl)
  rw [lg_entry_eq]
  generalize (lg_sl ([.ref (a 0), .int p0]) ++ List.replicate (2 - (lg_sl ([.ref (a 0), .int p0])).length) Slot.unset).toArray = ls at hl ⊢
  have hl : lv_has ls 2 [(0, .ref (a 0)), (1, .int p0)] := hl
  refine lv_aload_n hx hb dX7_boy_0 rfl (lv_at hl 0 rfl) ?_
  refine lv_iload_n hx hb dX7_boy_1 rfl (lv_at hl 1 rfl) ?_
  refine ro_i (D := D) (va_runV (As := [.int p0]) (rest := []) ⟨hx, hb, hml, hown, hts⟩ ((y_isStreet l D k st lo a rk lfa n0 see0 tm0 g0 n1 see1 tm1 g1 n2 see2 tm2 g2 p0 (by first | assumption | omega) (by first | assumption | omega) (by first | assumption | omega)) s.heap.size) (cwV 1 hts (gV tw_589 tw_591 tw_8 tw_79 tw_592) rfl rfl rfl (by decide +kernel) ⟨Nat.le_of_ble_eq_true rfl, Nat.le_of_ble_eq_true rfl⟩) (pV hS hAlo hlo hP hK (va_Dlo hD hAlo) hZ [0, 1, 3, 4, 8, 9, 13, 14] (by decide) rfl (ci := 7) (q := (RX7, TX7, 12)) (q0 := 0) rfl rfl) rfl rfl hl.1 rfl (lv_room (Nat.le_of_ble_eq_true rfl)) dX7_boy_2 ⟨Nat.le_of_ble_eq_true rfl, Nat.le_of_ble_eq_true rfl⟩) hS hA hP (fun r_1 H locs hw_1 hP hS => ?_)
  try dsimp only at hw_1
  rcases hw_1 with ⟨rfl, ⟨rfl, hw_1⟩ | ⟨rfl, hw_1⟩ | ⟨rfl, hw_1⟩⟩ | ⟨rfl, hw_1⟩
  · refine lv_if_eq (tgt := 35) hx hb dX7_boy_5 (by decide) (fun h => absurd h (by decide)) (fun _ => ?_)
    refine lv_aload_n hx hb dX7_boy_8 rfl (lv_at hl 0 rfl) ?_
    refine va_get (D := D) (ci := 7) (v := .ref (a 64)) (C := RX7) (T := TX7) (N := 12) hx hb hts inX7 hown hK hP 0 rfl rfl 10 (by decide) (hts _ tw_315) (fun _ h9 => h9) rfl dX7_boy_9 ?_
    refine lv_aload_n hx hb dX7_boy_12 rfl (lv_at hl 0 rfl) ?_
    refine va_get (D := D) (ci := 7) (v := .ref (a 3)) (C := RX7) (T := TX7) (N := 12) hx hb hts inX7 hown hK hP 0 rfl rfl 1 (by decide) (hts _ tw_306) (fun _ h9 => h9) rfl dX7_boy_13 ?_
    refine lv_iload_n hx hb dX7_boy_16 rfl (lv_at hl 1 rfl) ?_
    refine va_aldq hx hb hK hP 1 3 rfl rfl (by unfold vp_in; decide) dX7_boy_17 ?_
    refine lv_tr (y := .ref (a 4)) rfl ?_
    refine lv_aload_n hx hb dX7_boy_18 rfl (lv_at hl 0 rfl) ?_
    refine va_get (D := D) (ci := 7) (v := .ref (a 19)) (C := RX7) (T := TX7) (N := 12) hx hb hts inX7 hown hK hP 0 rfl rfl 2 (by decide) (hts _ tw_307) (fun _ h9 => h9) rfl dX7_boy_19 ?_
    refine lv_iload_n hx hb dX7_boy_22 rfl (lv_at hl 1 rfl) ?_
    refine va_aldq hx hb hK hP 2 4 rfl rfl (by unfold vp_in; decide) dX7_boy_23 ?_
    refine lv_tr (y := .ref (a 20)) rfl ?_
    refine va_get (D := D) (ci := 0) (v := .ref (a 23)) (C := RX0) (T := TX0) (N := 5) hx hb hts inX0 hown hK hP 18 rfl rfl 3 (by decide) (hts _ tw_271) (fun _ h9 => h9) rfl dX7_boy_24 ?_
    refine lv_iconst (v := 0) hx hb dX7_boy_27 (by decide) ?_
    refine va_iald hx hb hK hP 21 1 rfl rfl (by unfold vp_in; decide) dX7_boy_28 ?_
    refine lv_ti (y := (en0 0)) (by rfl) ?_
    refine rw_i (D := D) (wr := [((a 0), .inr (7, (fX7 (a 1) (a 3) (a 19) (a 35) (a 40) (nI rk) lfa (a 53) (a 56) (a 63) (a 64) (a 68)))), ((a 3), .inl (k 3, 3, .inr (.inr (.inr (.inr (a3 (a 4) (a 9) (a 14))))))), ((a 19), .inl (k 4, 3, .inr (.inr (.inr (.inr (a3 (a 20) (a 25) (a 30))))))), ((a 9), .inr (5, (fX5 (a 10) (a 11) (a 12) (a 13)))), (aI k (a 10) 10 (vv n1 see1 tm1 g1)), (aI k (a 11) 24 ff1), (aI k (a 12) 24 fp1), (aI k (a 13) 4 fl1), ((a 14), .inr (5, (fX5 (a 15) (a 16) (a 17) (a 18)))), (aI k (a 15) 10 (vv n2 see2 tm2 g2)), (aI k (a 16) 24 ff2), (aI k (a 17) 24 fp2), (aI k (a 18) 4 fl2), ((a 20), .inr (0, (fX0 (a 4) (a 21) (a 22) (a 23) (a 24)))), (aI k (a 21) 768 on0), (aI k (a 22) 4 sr0), (aI k (a 23) 4 en0), ((a 25), .inr (0, (fX0 (a 9) (a 26) (a 27) (a 28) (a 29)))), (aI k (a 26) 768 on1), (aI k (a 27) 4 sr1), (aI k (a 28) 4 en1), ((a 30), .inr (0, (fX0 (a 14) (a 31) (a 32) (a 33) (a 34)))), (aI k (a 31) 768 on2), (aI k (a 32) 4 sr2), (aI k (a 33) 4 en2)]) (va_runV (As := [.ref (a 4), .int (en0 0)]) (rest := []) ⟨hx, hb, hml, hown, hts⟩ ((y_boyOf l D k st lo (a 64) (a 65) (a 66) (a 67) wt wc ya yb yd (a 4) (a 5) (a 6) (a 7) (a 8) n0 see0 tm0 g0 ff0 fp0 fl0 (en0 0) (by first | assumption | omega) (hlt 0 (by omega)) (hok 0 (by omega))) H.size) (cwV 2 hts (gV tw_792 tw_793 tw_794 tw_83 tw_795) rfl rfl rfl (by decide +kernel) ⟨Nat.le_of_ble_eq_true rfl, Nat.le_of_ble_eq_true rfl⟩) (pV hS hAlo hlo hP hK (va_Dlo hD hAlo) hZ [30, 31, 32, 33, 3, 4, 5, 6, 7] (by decide +kernel) rfl (ci := 2) (q := (RX2, TX2, 5)) (q0 := 0) rfl rfl) rfl rfl hl.1 rfl (lv_room (Nat.le_of_ble_eq_true rfl)) dX7_boy_29 ⟨Nat.le_of_ble_eq_true rfl, Nat.le_of_ble_eq_true rfl⟩) hS hA hP hD [30, 31, 32, 33, 3, 4, 5, 6, 7] [0, 1, 2, 8, 9, 10, 11, 12, 13, 14, 15, 16, 17, 18, 19, 20, 21, 22, 23, 24, 25, 26, 27, 28, 29] rfl rfl (by decide +kernel) (by decide +kernel) (fun r_2 u H locs hw_2 hP hD hS => ?_)
    obtain ⟨ya__2, yb__2, yd__2⟩ := u
    replace hP : va_P D classes [((a 0), .inr (7, (fX7 (a 1) (a 3) (a 19) (a 35) (a 40) (nI rk) lfa (a 53) (a 56) (a 63) (a 64) (a 68)))), ((a 3), .inl (k 3, 3, .inr (.inr (.inr (.inr (a3 (a 4) (a 9) (a 14))))))), ((a 19), .inl (k 4, 3, .inr (.inr (.inr (.inr (a3 (a 20) (a 25) (a 30))))))), ((a 9), .inr (5, (fX5 (a 10) (a 11) (a 12) (a 13)))), (aI k (a 10) 10 (vv n1 see1 tm1 g1)), (aI k (a 11) 24 ff1), (aI k (a 12) 24 fp1), (aI k (a 13) 4 fl1), ((a 14), .inr (5, (fX5 (a 15) (a 16) (a 17) (a 18)))), (aI k (a 15) 10 (vv n2 see2 tm2 g2)), (aI k (a 16) 24 ff2), (aI k (a 17) 24 fp2), (aI k (a 18) 4 fl2), ((a 20), .inr (0, (fX0 (a 4) (a 21) (a 22) (a 23) (a 24)))), (aI k (a 21) 768 on0), (aI k (a 22) 4 sr0), (aI k (a 23) 4 en0), ((a 25), .inr (0, (fX0 (a 9) (a 26) (a 27) (a 28) (a 29)))), (aI k (a 26) 768 on1), (aI k (a 27) 4 sr1), (aI k (a 28) 4 en1), ((a 30), .inr (0, (fX0 (a 14) (a 31) (a 32) (a 33) (a 34)))), (aI k (a 31) 768 on2), (aI k (a 32) 4 sr2), (aI k (a 33) 4 en2), ((a 64), .inr (2, (fX2 (a 65) (a 66) (a 67) wt wc))), (aI k (a 65) 25 ya__2), (aI k (a 66) 25 yb__2), (aI k (a 67) 25 yd__2), ((a 4), .inr (5, (fX5 (a 5) (a 6) (a 7) (a 8)))), (aI k (a 5) 10 (vv n0 see0 tm0 g0)), (aI k (a 6) 24 ff0), (aI k (a 7) 24 fp0), (aI k (a 8) 4 fl0)] H := hP
    replace hD : va_D A [((a 0), .inr (7, (fX7 (a 1) (a 3) (a 19) (a 35) (a 40) (nI rk) lfa (a 53) (a 56) (a 63) (a 64) (a 68)))), ((a 3), .inl (k 3, 3, .inr (.inr (.inr (.inr (a3 (a 4) (a 9) (a 14))))))), ((a 19), .inl (k 4, 3, .inr (.inr (.inr (.inr (a3 (a 20) (a 25) (a 30))))))), ((a 9), .inr (5, (fX5 (a 10) (a 11) (a 12) (a 13)))), (aI k (a 10) 10 (vv n1 see1 tm1 g1)), (aI k (a 11) 24 ff1), (aI k (a 12) 24 fp1), (aI k (a 13) 4 fl1), ((a 14), .inr (5, (fX5 (a 15) (a 16) (a 17) (a 18)))), (aI k (a 15) 10 (vv n2 see2 tm2 g2)), (aI k (a 16) 24 ff2), (aI k (a 17) 24 fp2), (aI k (a 18) 4 fl2), ((a 20), .inr (0, (fX0 (a 4) (a 21) (a 22) (a 23) (a 24)))), (aI k (a 21) 768 on0), (aI k (a 22) 4 sr0), (aI k (a 23) 4 en0), ((a 25), .inr (0, (fX0 (a 9) (a 26) (a 27) (a 28) (a 29)))), (aI k (a 26) 768 on1), (aI k (a 27) 4 sr1), (aI k (a 28) 4 en1), ((a 30), .inr (0, (fX0 (a 14) (a 31) (a 32) (a 33) (a 34)))), (aI k (a 31) 768 on2), (aI k (a 32) 4 sr2), (aI k (a 33) 4 en2), ((a 64), .inr (2, (fX2 (a 65) (a 66) (a 67) wt wc))), (aI k (a 65) 25 ya__2), (aI k (a 66) 25 yb__2), (aI k (a 67) 25 yd__2), ((a 4), .inr (5, (fX5 (a 5) (a 6) (a 7) (a 8)))), (aI k (a 5) 10 (vv n0 see0 tm0 g0)), (aI k (a 6) 24 ff0), (aI k (a 7) 24 fp0), (aI k (a 8) 4 fl0)] := hD
    try dsimp only at hw_2
    refine lv_goto (tgt := 38) hx hb dX7_boy_32 (by decide) ?_
    have hP9 := hP.sub (ws' := [((a 0), .inr (7, (fX7 (a 1) (a 3) (a 19) (a 35) (a 40) (nI rk) lfa (a 53) (a 56) (a 63) (a 64) (a 68)))), ((a 3), .inl (k 3, 3, .inr (.inr (.inr (.inr (a3 (a 4) (a 9) (a 14))))))), ((a 19), .inl (k 4, 3, .inr (.inr (.inr (.inr (a3 (a 20) (a 25) (a 30))))))), ((a 4), .inr (5, (fX5 (a 5) (a 6) (a 7) (a 8)))), (aI k (a 5) 10 (vv n0 see0 tm0 g0)), (aI k (a 6) 24 ff0), (aI k (a 7) 24 fp0), (aI k (a 8) 4 fl0), ((a 9), .inr (5, (fX5 (a 10) (a 11) (a 12) (a 13)))), (aI k (a 10) 10 (vv n1 see1 tm1 g1)), (aI k (a 11) 24 ff1), (aI k (a 12) 24 fp1), (aI k (a 13) 4 fl1), ((a 14), .inr (5, (fX5 (a 15) (a 16) (a 17) (a 18)))), (aI k (a 15) 10 (vv n2 see2 tm2 g2)), (aI k (a 16) 24 ff2), (aI k (a 17) 24 fp2), (aI k (a 18) 4 fl2), ((a 20), .inr (0, (fX0 (a 4) (a 21) (a 22) (a 23) (a 24)))), (aI k (a 21) 768 on0), (aI k (a 22) 4 sr0), (aI k (a 23) 4 en0), ((a 25), .inr (0, (fX0 (a 9) (a 26) (a 27) (a 28) (a 29)))), (aI k (a 26) 768 on1), (aI k (a 27) 4 sr1), (aI k (a 28) 4 en1), ((a 30), .inr (0, (fX0 (a 14) (a 31) (a 32) (a 33) (a 34)))), (aI k (a 31) 768 on2), (aI k (a 32) 4 sr2), (aI k (a 33) 4 en2), ((a 64), .inr (2, (fX2 (a 65) (a 66) (a 67) wt wc))), (aI k (a 65) 25 ya__2), (aI k (a 66) 25 yb__2), (aI k (a 67) 25 yd__2)]) [0, 1, 2, 29, 30, 31, 32, 33, 3, 4, 5, 6, 7, 8, 9, 10, 11, 12, 13, 14, 15, 16, 17, 18, 19, 20, 21, 22, 23, 24, 25, 26, 27, 28] rfl
    have hD9 := hD.sub (ws' := [((a 0), .inr (7, (fX7 (a 1) (a 3) (a 19) (a 35) (a 40) (nI rk) lfa (a 53) (a 56) (a 63) (a 64) (a 68)))), ((a 3), .inl (k 3, 3, .inr (.inr (.inr (.inr (a3 (a 4) (a 9) (a 14))))))), ((a 19), .inl (k 4, 3, .inr (.inr (.inr (.inr (a3 (a 20) (a 25) (a 30))))))), ((a 4), .inr (5, (fX5 (a 5) (a 6) (a 7) (a 8)))), (aI k (a 5) 10 (vv n0 see0 tm0 g0)), (aI k (a 6) 24 ff0), (aI k (a 7) 24 fp0), (aI k (a 8) 4 fl0), ((a 9), .inr (5, (fX5 (a 10) (a 11) (a 12) (a 13)))), (aI k (a 10) 10 (vv n1 see1 tm1 g1)), (aI k (a 11) 24 ff1), (aI k (a 12) 24 fp1), (aI k (a 13) 4 fl1), ((a 14), .inr (5, (fX5 (a 15) (a 16) (a 17) (a 18)))), (aI k (a 15) 10 (vv n2 see2 tm2 g2)), (aI k (a 16) 24 ff2), (aI k (a 17) 24 fp2), (aI k (a 18) 4 fl2), ((a 20), .inr (0, (fX0 (a 4) (a 21) (a 22) (a 23) (a 24)))), (aI k (a 21) 768 on0), (aI k (a 22) 4 sr0), (aI k (a 23) 4 en0), ((a 25), .inr (0, (fX0 (a 9) (a 26) (a 27) (a 28) (a 29)))), (aI k (a 26) 768 on1), (aI k (a 27) 4 sr1), (aI k (a 28) 4 en1), ((a 30), .inr (0, (fX0 (a 14) (a 31) (a 32) (a 33) (a 34)))), (aI k (a 31) 768 on2), (aI k (a 32) 4 sr2), (aI k (a 33) 4 en2), ((a 64), .inr (2, (fX2 (a 65) (a 66) (a 67) wt wc))), (aI k (a 65) 25 ya__2), (aI k (a 66) 25 yb__2), (aI k (a 67) 25 yd__2)]) [0, 1, 2, 29, 30, 31, 32, 33, 3, 4, 5, 6, 7, 8, 9, 10, 11, 12, 13, 14, 15, 16, 17, 18, 19, 20, 21, 22, 23, 24, 25, 26, 27, 28] (by decide +kernel) rfl
    exact W.iret (v := r_2) hx hb hr (fun t ht hW => ⟨⟨r_2, (ya__2, yb__2, yd__2), rfl, tq_at (s := 0) (by omega) (show 0 < n0 by omega) (show boA (sdX n0 see0 tm0 g0 ff0 fp0) _ from hw_2.trans (congrArg (fun z => boV (sdX n0 see0 tm0 g0 ff0 fp0) z n0 0 0) (show en0 0 = wayE (sdX n0 see0 tm0 g0 ff0 fp0) 0 from ((hwy 0 (by omega) (show 0 < n0 by omega)) 0 (Nat.zero_le _) (Nat.zero_le _)).1))), by rw [ht]; exact hP9, hD9⟩, hS.F ht⟩) hS.2.2 dX7_boy_38
  · refine lv_if_eq (tgt := 35) hx hb dX7_boy_5 (by decide) (fun h => absurd h (by decide)) (fun _ => ?_)
    refine lv_aload_n hx hb dX7_boy_8 rfl (lv_at hl 0 rfl) ?_
    refine va_get (D := D) (ci := 7) (v := .ref (a 64)) (C := RX7) (T := TX7) (N := 12) hx hb hts inX7 hown hK hP 0 rfl rfl 10 (by decide) (hts _ tw_315) (fun _ h9 => h9) rfl dX7_boy_9 ?_
    refine lv_aload_n hx hb dX7_boy_12 rfl (lv_at hl 0 rfl) ?_
    refine va_get (D := D) (ci := 7) (v := .ref (a 3)) (C := RX7) (T := TX7) (N := 12) hx hb hts inX7 hown hK hP 0 rfl rfl 1 (by decide) (hts _ tw_306) (fun _ h9 => h9) rfl dX7_boy_13 ?_
    refine lv_iload_n hx hb dX7_boy_16 rfl (lv_at hl 1 rfl) ?_
    refine va_aldq hx hb hK hP 1 3 rfl rfl (by unfold vp_in; decide) dX7_boy_17 ?_
    refine lv_tr (y := .ref (a 9)) rfl ?_
    refine lv_aload_n hx hb dX7_boy_18 rfl (lv_at hl 0 rfl) ?_
    refine va_get (D := D) (ci := 7) (v := .ref (a 19)) (C := RX7) (T := TX7) (N := 12) hx hb hts inX7 hown hK hP 0 rfl rfl 2 (by decide) (hts _ tw_307) (fun _ h9 => h9) rfl dX7_boy_19 ?_
    refine lv_iload_n hx hb dX7_boy_22 rfl (lv_at hl 1 rfl) ?_
    refine va_aldq hx hb hK hP 2 4 rfl rfl (by unfold vp_in; decide) dX7_boy_23 ?_
    refine lv_tr (y := .ref (a 25)) rfl ?_
    refine va_get (D := D) (ci := 0) (v := .ref (a 28)) (C := RX0) (T := TX0) (N := 5) hx hb hts inX0 hown hK hP 22 rfl rfl 3 (by decide) (hts _ tw_271) (fun _ h9 => h9) rfl dX7_boy_24 ?_
    refine lv_iconst (v := 0) hx hb dX7_boy_27 (by decide) ?_
    refine va_iald hx hb hK hP 25 1 rfl rfl (by unfold vp_in; decide) dX7_boy_28 ?_
    refine lv_ti (y := (en1 0)) (by rfl) ?_
    refine rw_i (D := D) (wr := [((a 0), .inr (7, (fX7 (a 1) (a 3) (a 19) (a 35) (a 40) (nI rk) lfa (a 53) (a 56) (a 63) (a 64) (a 68)))), ((a 3), .inl (k 3, 3, .inr (.inr (.inr (.inr (a3 (a 4) (a 9) (a 14))))))), ((a 19), .inl (k 4, 3, .inr (.inr (.inr (.inr (a3 (a 20) (a 25) (a 30))))))), ((a 4), .inr (5, (fX5 (a 5) (a 6) (a 7) (a 8)))), (aI k (a 5) 10 (vv n0 see0 tm0 g0)), (aI k (a 6) 24 ff0), (aI k (a 7) 24 fp0), (aI k (a 8) 4 fl0), ((a 14), .inr (5, (fX5 (a 15) (a 16) (a 17) (a 18)))), (aI k (a 15) 10 (vv n2 see2 tm2 g2)), (aI k (a 16) 24 ff2), (aI k (a 17) 24 fp2), (aI k (a 18) 4 fl2), ((a 20), .inr (0, (fX0 (a 4) (a 21) (a 22) (a 23) (a 24)))), (aI k (a 21) 768 on0), (aI k (a 22) 4 sr0), (aI k (a 23) 4 en0), ((a 25), .inr (0, (fX0 (a 9) (a 26) (a 27) (a 28) (a 29)))), (aI k (a 26) 768 on1), (aI k (a 27) 4 sr1), (aI k (a 28) 4 en1), ((a 30), .inr (0, (fX0 (a 14) (a 31) (a 32) (a 33) (a 34)))), (aI k (a 31) 768 on2), (aI k (a 32) 4 sr2), (aI k (a 33) 4 en2)]) (va_runV (As := [.ref (a 9), .int (en1 0)]) (rest := []) ⟨hx, hb, hml, hown, hts⟩ ((y_boyOf l D k st lo (a 64) (a 65) (a 66) (a 67) wt wc ya yb yd (a 9) (a 10) (a 11) (a 12) (a 13) n1 see1 tm1 g1 ff1 fp1 fl1 (en1 0) (by first | assumption | omega) (hlt 1 (by omega)) (hok 1 (by omega))) H.size) (cwV 2 hts (gV tw_792 tw_793 tw_794 tw_83 tw_795) rfl rfl rfl (by decide +kernel) ⟨Nat.le_of_ble_eq_true rfl, Nat.le_of_ble_eq_true rfl⟩) (pV hS hAlo hlo hP hK (va_Dlo hD hAlo) hZ [30, 31, 32, 33, 8, 9, 10, 11, 12] (by decide +kernel) rfl (ci := 2) (q := (RX2, TX2, 5)) (q0 := 0) rfl rfl) rfl rfl hl.1 rfl (lv_room (Nat.le_of_ble_eq_true rfl)) dX7_boy_29 ⟨Nat.le_of_ble_eq_true rfl, Nat.le_of_ble_eq_true rfl⟩) hS hA hP hD [30, 31, 32, 33, 8, 9, 10, 11, 12] [0, 1, 2, 3, 4, 5, 6, 7, 13, 14, 15, 16, 17, 18, 19, 20, 21, 22, 23, 24, 25, 26, 27, 28, 29] rfl rfl (by decide +kernel) (by decide +kernel) (fun r_3 u H locs hw_3 hP hD hS => ?_)
    obtain ⟨ya__3, yb__3, yd__3⟩ := u
    replace hP : va_P D classes [((a 0), .inr (7, (fX7 (a 1) (a 3) (a 19) (a 35) (a 40) (nI rk) lfa (a 53) (a 56) (a 63) (a 64) (a 68)))), ((a 3), .inl (k 3, 3, .inr (.inr (.inr (.inr (a3 (a 4) (a 9) (a 14))))))), ((a 19), .inl (k 4, 3, .inr (.inr (.inr (.inr (a3 (a 20) (a 25) (a 30))))))), ((a 4), .inr (5, (fX5 (a 5) (a 6) (a 7) (a 8)))), (aI k (a 5) 10 (vv n0 see0 tm0 g0)), (aI k (a 6) 24 ff0), (aI k (a 7) 24 fp0), (aI k (a 8) 4 fl0), ((a 14), .inr (5, (fX5 (a 15) (a 16) (a 17) (a 18)))), (aI k (a 15) 10 (vv n2 see2 tm2 g2)), (aI k (a 16) 24 ff2), (aI k (a 17) 24 fp2), (aI k (a 18) 4 fl2), ((a 20), .inr (0, (fX0 (a 4) (a 21) (a 22) (a 23) (a 24)))), (aI k (a 21) 768 on0), (aI k (a 22) 4 sr0), (aI k (a 23) 4 en0), ((a 25), .inr (0, (fX0 (a 9) (a 26) (a 27) (a 28) (a 29)))), (aI k (a 26) 768 on1), (aI k (a 27) 4 sr1), (aI k (a 28) 4 en1), ((a 30), .inr (0, (fX0 (a 14) (a 31) (a 32) (a 33) (a 34)))), (aI k (a 31) 768 on2), (aI k (a 32) 4 sr2), (aI k (a 33) 4 en2), ((a 64), .inr (2, (fX2 (a 65) (a 66) (a 67) wt wc))), (aI k (a 65) 25 ya__3), (aI k (a 66) 25 yb__3), (aI k (a 67) 25 yd__3), ((a 9), .inr (5, (fX5 (a 10) (a 11) (a 12) (a 13)))), (aI k (a 10) 10 (vv n1 see1 tm1 g1)), (aI k (a 11) 24 ff1), (aI k (a 12) 24 fp1), (aI k (a 13) 4 fl1)] H := hP
    replace hD : va_D A [((a 0), .inr (7, (fX7 (a 1) (a 3) (a 19) (a 35) (a 40) (nI rk) lfa (a 53) (a 56) (a 63) (a 64) (a 68)))), ((a 3), .inl (k 3, 3, .inr (.inr (.inr (.inr (a3 (a 4) (a 9) (a 14))))))), ((a 19), .inl (k 4, 3, .inr (.inr (.inr (.inr (a3 (a 20) (a 25) (a 30))))))), ((a 4), .inr (5, (fX5 (a 5) (a 6) (a 7) (a 8)))), (aI k (a 5) 10 (vv n0 see0 tm0 g0)), (aI k (a 6) 24 ff0), (aI k (a 7) 24 fp0), (aI k (a 8) 4 fl0), ((a 14), .inr (5, (fX5 (a 15) (a 16) (a 17) (a 18)))), (aI k (a 15) 10 (vv n2 see2 tm2 g2)), (aI k (a 16) 24 ff2), (aI k (a 17) 24 fp2), (aI k (a 18) 4 fl2), ((a 20), .inr (0, (fX0 (a 4) (a 21) (a 22) (a 23) (a 24)))), (aI k (a 21) 768 on0), (aI k (a 22) 4 sr0), (aI k (a 23) 4 en0), ((a 25), .inr (0, (fX0 (a 9) (a 26) (a 27) (a 28) (a 29)))), (aI k (a 26) 768 on1), (aI k (a 27) 4 sr1), (aI k (a 28) 4 en1), ((a 30), .inr (0, (fX0 (a 14) (a 31) (a 32) (a 33) (a 34)))), (aI k (a 31) 768 on2), (aI k (a 32) 4 sr2), (aI k (a 33) 4 en2), ((a 64), .inr (2, (fX2 (a 65) (a 66) (a 67) wt wc))), (aI k (a 65) 25 ya__3), (aI k (a 66) 25 yb__3), (aI k (a 67) 25 yd__3), ((a 9), .inr (5, (fX5 (a 10) (a 11) (a 12) (a 13)))), (aI k (a 10) 10 (vv n1 see1 tm1 g1)), (aI k (a 11) 24 ff1), (aI k (a 12) 24 fp1), (aI k (a 13) 4 fl1)] := hD
    try dsimp only at hw_3
    refine lv_goto (tgt := 38) hx hb dX7_boy_32 (by decide) ?_
    have hP9 := hP.sub (ws' := [((a 0), .inr (7, (fX7 (a 1) (a 3) (a 19) (a 35) (a 40) (nI rk) lfa (a 53) (a 56) (a 63) (a 64) (a 68)))), ((a 3), .inl (k 3, 3, .inr (.inr (.inr (.inr (a3 (a 4) (a 9) (a 14))))))), ((a 19), .inl (k 4, 3, .inr (.inr (.inr (.inr (a3 (a 20) (a 25) (a 30))))))), ((a 4), .inr (5, (fX5 (a 5) (a 6) (a 7) (a 8)))), (aI k (a 5) 10 (vv n0 see0 tm0 g0)), (aI k (a 6) 24 ff0), (aI k (a 7) 24 fp0), (aI k (a 8) 4 fl0), ((a 9), .inr (5, (fX5 (a 10) (a 11) (a 12) (a 13)))), (aI k (a 10) 10 (vv n1 see1 tm1 g1)), (aI k (a 11) 24 ff1), (aI k (a 12) 24 fp1), (aI k (a 13) 4 fl1), ((a 14), .inr (5, (fX5 (a 15) (a 16) (a 17) (a 18)))), (aI k (a 15) 10 (vv n2 see2 tm2 g2)), (aI k (a 16) 24 ff2), (aI k (a 17) 24 fp2), (aI k (a 18) 4 fl2), ((a 20), .inr (0, (fX0 (a 4) (a 21) (a 22) (a 23) (a 24)))), (aI k (a 21) 768 on0), (aI k (a 22) 4 sr0), (aI k (a 23) 4 en0), ((a 25), .inr (0, (fX0 (a 9) (a 26) (a 27) (a 28) (a 29)))), (aI k (a 26) 768 on1), (aI k (a 27) 4 sr1), (aI k (a 28) 4 en1), ((a 30), .inr (0, (fX0 (a 14) (a 31) (a 32) (a 33) (a 34)))), (aI k (a 31) 768 on2), (aI k (a 32) 4 sr2), (aI k (a 33) 4 en2), ((a 64), .inr (2, (fX2 (a 65) (a 66) (a 67) wt wc))), (aI k (a 65) 25 ya__3), (aI k (a 66) 25 yb__3), (aI k (a 67) 25 yd__3)]) [0, 1, 2, 3, 4, 5, 6, 7, 29, 30, 31, 32, 33, 8, 9, 10, 11, 12, 13, 14, 15, 16, 17, 18, 19, 20, 21, 22, 23, 24, 25, 26, 27, 28] rfl
    have hD9 := hD.sub (ws' := [((a 0), .inr (7, (fX7 (a 1) (a 3) (a 19) (a 35) (a 40) (nI rk) lfa (a 53) (a 56) (a 63) (a 64) (a 68)))), ((a 3), .inl (k 3, 3, .inr (.inr (.inr (.inr (a3 (a 4) (a 9) (a 14))))))), ((a 19), .inl (k 4, 3, .inr (.inr (.inr (.inr (a3 (a 20) (a 25) (a 30))))))), ((a 4), .inr (5, (fX5 (a 5) (a 6) (a 7) (a 8)))), (aI k (a 5) 10 (vv n0 see0 tm0 g0)), (aI k (a 6) 24 ff0), (aI k (a 7) 24 fp0), (aI k (a 8) 4 fl0), ((a 9), .inr (5, (fX5 (a 10) (a 11) (a 12) (a 13)))), (aI k (a 10) 10 (vv n1 see1 tm1 g1)), (aI k (a 11) 24 ff1), (aI k (a 12) 24 fp1), (aI k (a 13) 4 fl1), ((a 14), .inr (5, (fX5 (a 15) (a 16) (a 17) (a 18)))), (aI k (a 15) 10 (vv n2 see2 tm2 g2)), (aI k (a 16) 24 ff2), (aI k (a 17) 24 fp2), (aI k (a 18) 4 fl2), ((a 20), .inr (0, (fX0 (a 4) (a 21) (a 22) (a 23) (a 24)))), (aI k (a 21) 768 on0), (aI k (a 22) 4 sr0), (aI k (a 23) 4 en0), ((a 25), .inr (0, (fX0 (a 9) (a 26) (a 27) (a 28) (a 29)))), (aI k (a 26) 768 on1), (aI k (a 27) 4 sr1), (aI k (a 28) 4 en1), ((a 30), .inr (0, (fX0 (a 14) (a 31) (a 32) (a 33) (a 34)))), (aI k (a 31) 768 on2), (aI k (a 32) 4 sr2), (aI k (a 33) 4 en2), ((a 64), .inr (2, (fX2 (a 65) (a 66) (a 67) wt wc))), (aI k (a 65) 25 ya__3), (aI k (a 66) 25 yb__3), (aI k (a 67) 25 yd__3)]) [0, 1, 2, 3, 4, 5, 6, 7, 29, 30, 31, 32, 33, 8, 9, 10, 11, 12, 13, 14, 15, 16, 17, 18, 19, 20, 21, 22, 23, 24, 25, 26, 27, 28] (by decide +kernel) rfl
    exact W.iret (v := r_3) hx hb hr (fun t ht hW => ⟨⟨r_3, (ya__3, yb__3, yd__3), rfl, tq_at (s := 1) (by omega) (show 0 < n1 by omega) (show boA (sdX n1 see1 tm1 g1 ff1 fp1) _ from hw_3.trans (congrArg (fun z => boV (sdX n1 see1 tm1 g1 ff1 fp1) z n1 0 0) (show en1 0 = wayE (sdX n1 see1 tm1 g1 ff1 fp1) 0 from ((hwy 1 (by omega) (show 0 < n1 by omega)) 0 (Nat.zero_le _) (Nat.zero_le _)).1))), by rw [ht]; exact hP9, hD9⟩, hS.F ht⟩) hS.2.2 dX7_boy_38
  · refine lv_if_eq (tgt := 35) hx hb dX7_boy_5 (by decide) (fun h => absurd h (by decide)) (fun _ => ?_)
    refine lv_aload_n hx hb dX7_boy_8 rfl (lv_at hl 0 rfl) ?_
    refine va_get (D := D) (ci := 7) (v := .ref (a 64)) (C := RX7) (T := TX7) (N := 12) hx hb hts inX7 hown hK hP 0 rfl rfl 10 (by decide) (hts _ tw_315) (fun _ h9 => h9) rfl dX7_boy_9 ?_
    refine lv_aload_n hx hb dX7_boy_12 rfl (lv_at hl 0 rfl) ?_
    refine va_get (D := D) (ci := 7) (v := .ref (a 3)) (C := RX7) (T := TX7) (N := 12) hx hb hts inX7 hown hK hP 0 rfl rfl 1 (by decide) (hts _ tw_306) (fun _ h9 => h9) rfl dX7_boy_13 ?_
    refine lv_iload_n hx hb dX7_boy_16 rfl (lv_at hl 1 rfl) ?_
    refine va_aldq hx hb hK hP 1 3 rfl rfl (by unfold vp_in; decide) dX7_boy_17 ?_
    refine lv_tr (y := .ref (a 14)) rfl ?_
    refine lv_aload_n hx hb dX7_boy_18 rfl (lv_at hl 0 rfl) ?_
    refine va_get (D := D) (ci := 7) (v := .ref (a 19)) (C := RX7) (T := TX7) (N := 12) hx hb hts inX7 hown hK hP 0 rfl rfl 2 (by decide) (hts _ tw_307) (fun _ h9 => h9) rfl dX7_boy_19 ?_
    refine lv_iload_n hx hb dX7_boy_22 rfl (lv_at hl 1 rfl) ?_
    refine va_aldq hx hb hK hP 2 4 rfl rfl (by unfold vp_in; decide) dX7_boy_23 ?_
    refine lv_tr (y := .ref (a 30)) rfl ?_
    refine va_get (D := D) (ci := 0) (v := .ref (a 33)) (C := RX0) (T := TX0) (N := 5) hx hb hts inX0 hown hK hP 26 rfl rfl 3 (by decide) (hts _ tw_271) (fun _ h9 => h9) rfl dX7_boy_24 ?_
    refine lv_iconst (v := 0) hx hb dX7_boy_27 (by decide) ?_
    refine va_iald hx hb hK hP 29 1 rfl rfl (by unfold vp_in; decide) dX7_boy_28 ?_
    refine lv_ti (y := (en2 0)) (by rfl) ?_
    refine rw_i (D := D) (wr := [((a 0), .inr (7, (fX7 (a 1) (a 3) (a 19) (a 35) (a 40) (nI rk) lfa (a 53) (a 56) (a 63) (a 64) (a 68)))), ((a 3), .inl (k 3, 3, .inr (.inr (.inr (.inr (a3 (a 4) (a 9) (a 14))))))), ((a 19), .inl (k 4, 3, .inr (.inr (.inr (.inr (a3 (a 20) (a 25) (a 30))))))), ((a 4), .inr (5, (fX5 (a 5) (a 6) (a 7) (a 8)))), (aI k (a 5) 10 (vv n0 see0 tm0 g0)), (aI k (a 6) 24 ff0), (aI k (a 7) 24 fp0), (aI k (a 8) 4 fl0), ((a 9), .inr (5, (fX5 (a 10) (a 11) (a 12) (a 13)))), (aI k (a 10) 10 (vv n1 see1 tm1 g1)), (aI k (a 11) 24 ff1), (aI k (a 12) 24 fp1), (aI k (a 13) 4 fl1), ((a 20), .inr (0, (fX0 (a 4) (a 21) (a 22) (a 23) (a 24)))), (aI k (a 21) 768 on0), (aI k (a 22) 4 sr0), (aI k (a 23) 4 en0), ((a 25), .inr (0, (fX0 (a 9) (a 26) (a 27) (a 28) (a 29)))), (aI k (a 26) 768 on1), (aI k (a 27) 4 sr1), (aI k (a 28) 4 en1), ((a 30), .inr (0, (fX0 (a 14) (a 31) (a 32) (a 33) (a 34)))), (aI k (a 31) 768 on2), (aI k (a 32) 4 sr2), (aI k (a 33) 4 en2)]) (va_runV (As := [.ref (a 14), .int (en2 0)]) (rest := []) ⟨hx, hb, hml, hown, hts⟩ ((y_boyOf l D k st lo (a 64) (a 65) (a 66) (a 67) wt wc ya yb yd (a 14) (a 15) (a 16) (a 17) (a 18) n2 see2 tm2 g2 ff2 fp2 fl2 (en2 0) (by first | assumption | omega) (hlt 2 (by omega)) (hok 2 (by omega))) H.size) (cwV 2 hts (gV tw_792 tw_793 tw_794 tw_83 tw_795) rfl rfl rfl (by decide +kernel) ⟨Nat.le_of_ble_eq_true rfl, Nat.le_of_ble_eq_true rfl⟩) (pV hS hAlo hlo hP hK (va_Dlo hD hAlo) hZ [30, 31, 32, 33, 13, 14, 15, 16, 17] (by decide +kernel) rfl (ci := 2) (q := (RX2, TX2, 5)) (q0 := 0) rfl rfl) rfl rfl hl.1 rfl (lv_room (Nat.le_of_ble_eq_true rfl)) dX7_boy_29 ⟨Nat.le_of_ble_eq_true rfl, Nat.le_of_ble_eq_true rfl⟩) hS hA hP hD [30, 31, 32, 33, 13, 14, 15, 16, 17] [0, 1, 2, 3, 4, 5, 6, 7, 8, 9, 10, 11, 12, 18, 19, 20, 21, 22, 23, 24, 25, 26, 27, 28, 29] rfl rfl (by decide +kernel) (by decide +kernel) (fun r_4 u H locs hw_4 hP hD hS => ?_)
    obtain ⟨ya__4, yb__4, yd__4⟩ := u
    replace hP : va_P D classes [((a 0), .inr (7, (fX7 (a 1) (a 3) (a 19) (a 35) (a 40) (nI rk) lfa (a 53) (a 56) (a 63) (a 64) (a 68)))), ((a 3), .inl (k 3, 3, .inr (.inr (.inr (.inr (a3 (a 4) (a 9) (a 14))))))), ((a 19), .inl (k 4, 3, .inr (.inr (.inr (.inr (a3 (a 20) (a 25) (a 30))))))), ((a 4), .inr (5, (fX5 (a 5) (a 6) (a 7) (a 8)))), (aI k (a 5) 10 (vv n0 see0 tm0 g0)), (aI k (a 6) 24 ff0), (aI k (a 7) 24 fp0), (aI k (a 8) 4 fl0), ((a 9), .inr (5, (fX5 (a 10) (a 11) (a 12) (a 13)))), (aI k (a 10) 10 (vv n1 see1 tm1 g1)), (aI k (a 11) 24 ff1), (aI k (a 12) 24 fp1), (aI k (a 13) 4 fl1), ((a 20), .inr (0, (fX0 (a 4) (a 21) (a 22) (a 23) (a 24)))), (aI k (a 21) 768 on0), (aI k (a 22) 4 sr0), (aI k (a 23) 4 en0), ((a 25), .inr (0, (fX0 (a 9) (a 26) (a 27) (a 28) (a 29)))), (aI k (a 26) 768 on1), (aI k (a 27) 4 sr1), (aI k (a 28) 4 en1), ((a 30), .inr (0, (fX0 (a 14) (a 31) (a 32) (a 33) (a 34)))), (aI k (a 31) 768 on2), (aI k (a 32) 4 sr2), (aI k (a 33) 4 en2), ((a 64), .inr (2, (fX2 (a 65) (a 66) (a 67) wt wc))), (aI k (a 65) 25 ya__4), (aI k (a 66) 25 yb__4), (aI k (a 67) 25 yd__4), ((a 14), .inr (5, (fX5 (a 15) (a 16) (a 17) (a 18)))), (aI k (a 15) 10 (vv n2 see2 tm2 g2)), (aI k (a 16) 24 ff2), (aI k (a 17) 24 fp2), (aI k (a 18) 4 fl2)] H := hP
    replace hD : va_D A [((a 0), .inr (7, (fX7 (a 1) (a 3) (a 19) (a 35) (a 40) (nI rk) lfa (a 53) (a 56) (a 63) (a 64) (a 68)))), ((a 3), .inl (k 3, 3, .inr (.inr (.inr (.inr (a3 (a 4) (a 9) (a 14))))))), ((a 19), .inl (k 4, 3, .inr (.inr (.inr (.inr (a3 (a 20) (a 25) (a 30))))))), ((a 4), .inr (5, (fX5 (a 5) (a 6) (a 7) (a 8)))), (aI k (a 5) 10 (vv n0 see0 tm0 g0)), (aI k (a 6) 24 ff0), (aI k (a 7) 24 fp0), (aI k (a 8) 4 fl0), ((a 9), .inr (5, (fX5 (a 10) (a 11) (a 12) (a 13)))), (aI k (a 10) 10 (vv n1 see1 tm1 g1)), (aI k (a 11) 24 ff1), (aI k (a 12) 24 fp1), (aI k (a 13) 4 fl1), ((a 20), .inr (0, (fX0 (a 4) (a 21) (a 22) (a 23) (a 24)))), (aI k (a 21) 768 on0), (aI k (a 22) 4 sr0), (aI k (a 23) 4 en0), ((a 25), .inr (0, (fX0 (a 9) (a 26) (a 27) (a 28) (a 29)))), (aI k (a 26) 768 on1), (aI k (a 27) 4 sr1), (aI k (a 28) 4 en1), ((a 30), .inr (0, (fX0 (a 14) (a 31) (a 32) (a 33) (a 34)))), (aI k (a 31) 768 on2), (aI k (a 32) 4 sr2), (aI k (a 33) 4 en2), ((a 64), .inr (2, (fX2 (a 65) (a 66) (a 67) wt wc))), (aI k (a 65) 25 ya__4), (aI k (a 66) 25 yb__4), (aI k (a 67) 25 yd__4), ((a 14), .inr (5, (fX5 (a 15) (a 16) (a 17) (a 18)))), (aI k (a 15) 10 (vv n2 see2 tm2 g2)), (aI k (a 16) 24 ff2), (aI k (a 17) 24 fp2), (aI k (a 18) 4 fl2)] := hD
    try dsimp only at hw_4
    refine lv_goto (tgt := 38) hx hb dX7_boy_32 (by decide) ?_
    have hP9 := hP.sub (ws' := [((a 0), .inr (7, (fX7 (a 1) (a 3) (a 19) (a 35) (a 40) (nI rk) lfa (a 53) (a 56) (a 63) (a 64) (a 68)))), ((a 3), .inl (k 3, 3, .inr (.inr (.inr (.inr (a3 (a 4) (a 9) (a 14))))))), ((a 19), .inl (k 4, 3, .inr (.inr (.inr (.inr (a3 (a 20) (a 25) (a 30))))))), ((a 4), .inr (5, (fX5 (a 5) (a 6) (a 7) (a 8)))), (aI k (a 5) 10 (vv n0 see0 tm0 g0)), (aI k (a 6) 24 ff0), (aI k (a 7) 24 fp0), (aI k (a 8) 4 fl0), ((a 9), .inr (5, (fX5 (a 10) (a 11) (a 12) (a 13)))), (aI k (a 10) 10 (vv n1 see1 tm1 g1)), (aI k (a 11) 24 ff1), (aI k (a 12) 24 fp1), (aI k (a 13) 4 fl1), ((a 14), .inr (5, (fX5 (a 15) (a 16) (a 17) (a 18)))), (aI k (a 15) 10 (vv n2 see2 tm2 g2)), (aI k (a 16) 24 ff2), (aI k (a 17) 24 fp2), (aI k (a 18) 4 fl2), ((a 20), .inr (0, (fX0 (a 4) (a 21) (a 22) (a 23) (a 24)))), (aI k (a 21) 768 on0), (aI k (a 22) 4 sr0), (aI k (a 23) 4 en0), ((a 25), .inr (0, (fX0 (a 9) (a 26) (a 27) (a 28) (a 29)))), (aI k (a 26) 768 on1), (aI k (a 27) 4 sr1), (aI k (a 28) 4 en1), ((a 30), .inr (0, (fX0 (a 14) (a 31) (a 32) (a 33) (a 34)))), (aI k (a 31) 768 on2), (aI k (a 32) 4 sr2), (aI k (a 33) 4 en2), ((a 64), .inr (2, (fX2 (a 65) (a 66) (a 67) wt wc))), (aI k (a 65) 25 ya__4), (aI k (a 66) 25 yb__4), (aI k (a 67) 25 yd__4)]) [0, 1, 2, 3, 4, 5, 6, 7, 8, 9, 10, 11, 12, 29, 30, 31, 32, 33, 13, 14, 15, 16, 17, 18, 19, 20, 21, 22, 23, 24, 25, 26, 27, 28] rfl
    have hD9 := hD.sub (ws' := [((a 0), .inr (7, (fX7 (a 1) (a 3) (a 19) (a 35) (a 40) (nI rk) lfa (a 53) (a 56) (a 63) (a 64) (a 68)))), ((a 3), .inl (k 3, 3, .inr (.inr (.inr (.inr (a3 (a 4) (a 9) (a 14))))))), ((a 19), .inl (k 4, 3, .inr (.inr (.inr (.inr (a3 (a 20) (a 25) (a 30))))))), ((a 4), .inr (5, (fX5 (a 5) (a 6) (a 7) (a 8)))), (aI k (a 5) 10 (vv n0 see0 tm0 g0)), (aI k (a 6) 24 ff0), (aI k (a 7) 24 fp0), (aI k (a 8) 4 fl0), ((a 9), .inr (5, (fX5 (a 10) (a 11) (a 12) (a 13)))), (aI k (a 10) 10 (vv n1 see1 tm1 g1)), (aI k (a 11) 24 ff1), (aI k (a 12) 24 fp1), (aI k (a 13) 4 fl1), ((a 14), .inr (5, (fX5 (a 15) (a 16) (a 17) (a 18)))), (aI k (a 15) 10 (vv n2 see2 tm2 g2)), (aI k (a 16) 24 ff2), (aI k (a 17) 24 fp2), (aI k (a 18) 4 fl2), ((a 20), .inr (0, (fX0 (a 4) (a 21) (a 22) (a 23) (a 24)))), (aI k (a 21) 768 on0), (aI k (a 22) 4 sr0), (aI k (a 23) 4 en0), ((a 25), .inr (0, (fX0 (a 9) (a 26) (a 27) (a 28) (a 29)))), (aI k (a 26) 768 on1), (aI k (a 27) 4 sr1), (aI k (a 28) 4 en1), ((a 30), .inr (0, (fX0 (a 14) (a 31) (a 32) (a 33) (a 34)))), (aI k (a 31) 768 on2), (aI k (a 32) 4 sr2), (aI k (a 33) 4 en2), ((a 64), .inr (2, (fX2 (a 65) (a 66) (a 67) wt wc))), (aI k (a 65) 25 ya__4), (aI k (a 66) 25 yb__4), (aI k (a 67) 25 yd__4)]) [0, 1, 2, 3, 4, 5, 6, 7, 8, 9, 10, 11, 12, 29, 30, 31, 32, 33, 13, 14, 15, 16, 17, 18, 19, 20, 21, 22, 23, 24, 25, 26, 27, 28] (by decide +kernel) rfl
    exact W.iret (v := r_4) hx hb hr (fun t ht hW => ⟨⟨r_4, (ya__4, yb__4, yd__4), rfl, tq_at (s := 2) (by omega) (show 0 < n2 by omega) (show boA (sdX n2 see2 tm2 g2 ff2 fp2) _ from hw_4.trans (congrArg (fun z => boV (sdX n2 see2 tm2 g2 ff2 fp2) z n2 0 0) (show en2 0 = wayE (sdX n2 see2 tm2 g2 ff2 fp2) 0 from ((hwy 2 (by omega) (show 0 < n2 by omega)) 0 (Nat.zero_le _) (Nat.zero_le _)).1))), by rw [ht]; exact hP9, hD9⟩, hS.F ht⟩) hS.2.2 dX7_boy_38
  · refine lv_if_eq (tgt := 35) hx hb dX7_boy_5 (by decide) (fun _ => ?_) (fun h => absurd (by decide) h)
    refine lv_sipush (v := (-1001)) hx hb dX7_boy_35 (by decide) ?_
    have hP9 := hP.sub (ws' := [((a 0), .inr (7, (fX7 (a 1) (a 3) (a 19) (a 35) (a 40) (nI rk) lfa (a 53) (a 56) (a 63) (a 64) (a 68)))), ((a 3), .inl (k 3, 3, .inr (.inr (.inr (.inr (a3 (a 4) (a 9) (a 14))))))), ((a 19), .inl (k 4, 3, .inr (.inr (.inr (.inr (a3 (a 20) (a 25) (a 30))))))), ((a 4), .inr (5, (fX5 (a 5) (a 6) (a 7) (a 8)))), (aI k (a 5) 10 (vv n0 see0 tm0 g0)), (aI k (a 6) 24 ff0), (aI k (a 7) 24 fp0), (aI k (a 8) 4 fl0), ((a 9), .inr (5, (fX5 (a 10) (a 11) (a 12) (a 13)))), (aI k (a 10) 10 (vv n1 see1 tm1 g1)), (aI k (a 11) 24 ff1), (aI k (a 12) 24 fp1), (aI k (a 13) 4 fl1), ((a 14), .inr (5, (fX5 (a 15) (a 16) (a 17) (a 18)))), (aI k (a 15) 10 (vv n2 see2 tm2 g2)), (aI k (a 16) 24 ff2), (aI k (a 17) 24 fp2), (aI k (a 18) 4 fl2), ((a 20), .inr (0, (fX0 (a 4) (a 21) (a 22) (a 23) (a 24)))), (aI k (a 21) 768 on0), (aI k (a 22) 4 sr0), (aI k (a 23) 4 en0), ((a 25), .inr (0, (fX0 (a 9) (a 26) (a 27) (a 28) (a 29)))), (aI k (a 26) 768 on1), (aI k (a 27) 4 sr1), (aI k (a 28) 4 en1), ((a 30), .inr (0, (fX0 (a 14) (a 31) (a 32) (a 33) (a 34)))), (aI k (a 31) 768 on2), (aI k (a 32) 4 sr2), (aI k (a 33) 4 en2), ((a 64), .inr (2, (fX2 (a 65) (a 66) (a 67) wt wc))), (aI k (a 65) 25 ya), (aI k (a 66) 25 yb), (aI k (a 67) 25 yd)]) [0, 1, 2, 3, 4, 5, 6, 7, 8, 9, 10, 11, 12, 13, 14, 15, 16, 17, 18, 19, 20, 21, 22, 23, 24, 25, 26, 27, 28, 29, 30, 31, 32, 33] rfl
    have hD9 := hD.sub (ws' := [((a 0), .inr (7, (fX7 (a 1) (a 3) (a 19) (a 35) (a 40) (nI rk) lfa (a 53) (a 56) (a 63) (a 64) (a 68)))), ((a 3), .inl (k 3, 3, .inr (.inr (.inr (.inr (a3 (a 4) (a 9) (a 14))))))), ((a 19), .inl (k 4, 3, .inr (.inr (.inr (.inr (a3 (a 20) (a 25) (a 30))))))), ((a 4), .inr (5, (fX5 (a 5) (a 6) (a 7) (a 8)))), (aI k (a 5) 10 (vv n0 see0 tm0 g0)), (aI k (a 6) 24 ff0), (aI k (a 7) 24 fp0), (aI k (a 8) 4 fl0), ((a 9), .inr (5, (fX5 (a 10) (a 11) (a 12) (a 13)))), (aI k (a 10) 10 (vv n1 see1 tm1 g1)), (aI k (a 11) 24 ff1), (aI k (a 12) 24 fp1), (aI k (a 13) 4 fl1), ((a 14), .inr (5, (fX5 (a 15) (a 16) (a 17) (a 18)))), (aI k (a 15) 10 (vv n2 see2 tm2 g2)), (aI k (a 16) 24 ff2), (aI k (a 17) 24 fp2), (aI k (a 18) 4 fl2), ((a 20), .inr (0, (fX0 (a 4) (a 21) (a 22) (a 23) (a 24)))), (aI k (a 21) 768 on0), (aI k (a 22) 4 sr0), (aI k (a 23) 4 en0), ((a 25), .inr (0, (fX0 (a 9) (a 26) (a 27) (a 28) (a 29)))), (aI k (a 26) 768 on1), (aI k (a 27) 4 sr1), (aI k (a 28) 4 en1), ((a 30), .inr (0, (fX0 (a 14) (a 31) (a 32) (a 33) (a 34)))), (aI k (a 31) 768 on2), (aI k (a 32) 4 sr2), (aI k (a 33) 4 en2), ((a 64), .inr (2, (fX2 (a 65) (a 66) (a 67) wt wc))), (aI k (a 65) 25 ya), (aI k (a 66) 25 yb), (aI k (a 67) 25 yd)]) [0, 1, 2, 3, 4, 5, 6, 7, 8, 9, 10, 11, 12, 13, 14, 15, 16, 17, 18, 19, 20, 21, 22, 23, 24, 25, 26, 27, 28, 29, 30, 31, 32, 33] (by decide +kernel) rfl
    exact W.iret (v := (-1001)) hx hb hr (fun t ht hW => ⟨⟨(-1001), (ya, yb, yd), rfl, tq_no (fun s h1 h2 h3 => hw_1 s h1 h2 (by rw [d3_n] at h3; exact h3)), by rw [ht]; exact hP9, hD9⟩, hS.F ht⟩) hS.2.2 dX7_boy_38


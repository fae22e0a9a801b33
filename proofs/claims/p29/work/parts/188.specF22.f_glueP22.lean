theorem f_glueP22 : True := trivial
/-! rules: from which door, by what was passed -/
def pBa (sn fr : Nat → Int32) (f0 p : Int32) : Nat → Int32
  | 0 => f0
  | k + 1 => if sn k ≤ p then fr k else pBa sn fr f0 p k
def pBar (u : RUt) (p : Nat) : Int32 := pBa u.2.1.2.1 u.2.1.2.2 u.1 (nI p) u.2.1.1
theorem pBa_y {sn fr : Nat → Int32} {f0 p : Int32} {k : Nat} (h : sn k ≤ p) : pBa sn fr f0 p (k + 1) = fr k := if_pos h
theorem pBa_n {sn fr : Nat → Int32} {f0 p : Int32} {k : Nat} (h : ¬ sn k ≤ p) : pBa sn fr f0 p (k + 1) = pBa sn fr f0 p k := if_neg h
theorem pBa_clp {sn fr : Nat → Int32} {f0 p : Int32} {n : Nat} : ∀ k, k ≤ n → pBa (clp n sn) (clp n fr) f0 p k = pBa sn fr f0 p k := by
  intro k
  induction k with
  | zero => intro _; rfl
  | succ k ih =>
    intro h
    show (if clp n sn k ≤ p then clp n fr k else pBa (clp n sn) (clp n fr) f0 p k) = (if sn k ≤ p then fr k else pBa sn fr f0 p k)
    rw [clp_in (by omega), clp_in (by omega), ih (by omega)]
theorem xBar {rf : Int32} {rc rr p : Nat} {rs rb : Nat → Int32} : pBar (ruX rf rc rr rs rb) p = pBa rs rb rf (nI p) rc := pBa_clp rc (Nat.le_refl rc)
/-! what is asked for: the cost, being late, the garage -/
def pLt (d : SDt) (r : Nat) : Bool := decide (d.2.1 5 < nI r * (nI d.1 + d.2.1 7) + nI d.1)
def pSh (d : SDt) (wh r i : Nat) : Int32 := if wh = 0 then pTake d r i else if wh = 1 then (if pLt d r = true then 1000000 else 0) else 0
def pGs (d : SDt) (wh r : Nat) : Int32 := if wh = 0 then pGar d r else if wh = 1 then (if pLt d r = true then 1000000 else 0) else 1000000
def pPs (d : SDt) (wh : Nat) : Int32 := if wh = 0 then pPass d else 0
def pRs (d : SDt) (wh : Nat) : Int32 := if wh = 0 then pRnd d else 0
def mV (d : SDt) (u : RUt) (wh r : Nat) (E : Int32) : Nat → Nat → Nat → Int32
  | 0, _, _ => E
  | m + 1, p, a => pMix (pChance d (d.1 - (m + 1)) (nI a)) (if pBar u p ≤ nI (d.1 - (m + 1)) then pSh d wh r (d.1 - (m + 1)) else pPs d wh + mV d u wh r E m (p + 1) 1) (pPs d wh + mV d u wh r E m p 0)
theorem mv_v {d : SDt} {u : RUt} {wh r i p a : Nat} {E x c f o : Int32} (hi : i < d.1) (hc : c = pChance d i (nI a)) (hf : f = if pBar u p ≤ nI i then pSh d wh r i else pPs d wh + mV d u wh r E (d.1 - (i + 1)) (p + 1) 1) (ho : o = pPs d wh + mV d u wh r E (d.1 - (i + 1)) p 0) (hx : x = pMix c f o) : x = mV d u wh r E (d.1 - i) p a := by
  rw [show d.1 - i = (d.1 - (i + 1)) + 1 by omega]
  show x = pMix (pChance d (d.1 - (d.1 - (i + 1) + 1)) (nI a)) (if pBar u p ≤ nI (d.1 - (d.1 - (i + 1) + 1)) then pSh d wh r (d.1 - (d.1 - (i + 1) + 1)) else pPs d wh + mV d u wh r E (d.1 - (i + 1)) (p + 1) 1) (pPs d wh + mV d u wh r E (d.1 - (i + 1)) p 0)
  rw [show d.1 - (d.1 - (i + 1) + 1) = i by omega, hx, hc, hf, ho]
def mR (d : SDt) (u : RUt) (wh L : Nat) : Nat → Int32
  | 0 => mV d u wh L (pGs d wh L) d.1 0 0
  | m + 1 => mV d u wh (L - (m + 1)) (mR d u wh L m + pRs d wh) d.1 0 0
def muD (d : SDt) (u : RUt) : Nat := min u.2.2.toNatClampNeg (tmD d)
def meA (p2 : Int32) (d : SDt) (u : RUt) (r : Int32) : Prop := (¬ inB p2 0 2 → r = -1002) ∧ ∀ wh : Nat, wh ≤ 2 → p2 = nI wh → r = mR d u wh (muD d u) (muD d u)
theorem mv_st {d : SDt} {u : RUt} {wh r m m2 a i be : Nat} {E x : Int32} {f : Nat → Int32} (h1 : ∀ b, b < be → f b = mV d u wh r E m b a) (h2 : ∀ b, be ≤ b → b < i + 2 → f b = mV d u wh r E m2 b a) (hx : x = mV d u wh r E m be a) : (∀ b, b < be + 1 → upd f be x b = mV d u wh r E m b a) ∧ ∀ b, be + 1 ≤ b → b < i + 2 → upd f be x b = mV d u wh r E m2 b a := by
  refine ⟨fun b hb => ?_, fun b hb hb2 => ?_⟩
  · by_cases e : b = be
    · rw [e, pk_us]
      exact hx
    · rw [pk_un e]
      exact h1 b (by omega)
  · rw [pk_un (by omega)]
    exact h2 b (by omega) hb2
theorem xLt {n see tm r : Nat} {g ff fp : Nat → Int32} : fX_isLate n g r = pLt (sdX n see tm g ff fp) r := by
  unfold fX_isLate pLt fX_arrival
  rw [gX (by omega), gX (by omega)]
  show (if nI r * (nI n + g 7) + nI n ≤ g 5 then false else true) = decide (g 5 < nI r * (nI n + g 7) + nI n)
  by_cases h : nI r * (nI n + g 7) + nI n ≤ g 5
  · rw [if_pos h, decide_eq_false (Int32.not_lt.mpr h)]
  · rw [if_neg h, decide_eq_true (Int32.not_le.mp h)]


set_option maxHeartbeats 4000000 in
set_option maxRecDepth 100000 in
theorem y_barAfter (l : Launch) (D : va_G) (k : Nat → ClassId) (st : Nat → Nat) (lo : Nat) (u0 : Nat) (u1 : Nat) (u2 : Nat) (rf : Int32) (rc : Nat) (rr : Nat) (rs : Nat → Int32) (rb : Nat → Int32) (pq : Nat) (hrc : rc ≤ 24) : CRi l D k st lo yX3_barAfter cX3_barAfter 3 (some .int) ({ frames := 0, cells := 0, slots := 0, locals := 0 }) [.ref u0, .int (nI pq)] [(u0, .inr (3, (fX3 u1 u2 rf (nI rc) (nI rr)))), (aI k u1 24 rs), (aI k u2 24 rb)] (fun r => r = pBar (ruX rf rc rr rs rb) pq) := by
  intro sz
  refine Met.ofW (cc := cX3_barAfter) (maxL := 3) (ret := (some .int)) (by decide) rfl ?_
  intro p e s m args below meth c s₁ B hml hv
  obtain ⟨rfl, hsz, hlo, hP, hK, hDL, hZ⟩ := hv
  have hx := B.exec
  have hb := B.bytes
  have hr := B.returns
  have hts := WS_ts B.pre
  have hown : s.vm.findClass RX3 = some m.cls := findClass_of_methodNamed B.named
  have hlocks := B.notSynchronized
  subst hsz
  have hA : ∀ q : Nat, s.heap.size ≤ q → (fun q : Nat => s.heap.size ≤ q) q := fun _ h => h
  have hAlo : ∀ q : Nat, (fun q : Nat => s.heap.size ≤ q) q → lo ≤ q := fun q h => Nat.le_trans hlo h
  have hS : va_S (fun q : Nat => s.heap.size ≤ q) s.heap s.heap [] := va_S.rf
  have hl := lv_entry ([.ref u0, .int (nI pq)]) (n := 3) (Nat.le_of_ble_eq_true rfl)
  rw [lg_entry_eq]
  generalize (lg_sl ([.ref u0, .int (nI pq)]) ++ List.replicate (3 - (lg_sl ([.ref u0, .int (nI pq)])).length) Slot.unset).toArray = ls at hl ⊢
  have hl : lv_has ls 3 [(0, .ref u0), (1, .int (nI pq))] := hl
  refine lv_aload_n hx hb dX3_barAfter_0 rfl (lv_at hl 0 rfl) ?_
  refine va_get (D := D) (ci := 3) (v := .int (nI rc)) (C := RX3) (T := TX3) (N := 5) hx hb hts inX3 hown hK hP 0 rfl rfl 3 (by decide) (hts _ tw_292) (fun _ h9 => h9) rfl dX3_barAfter_1 ?_
  refine lv_iconst (v := 1) hx hb dX3_barAfter_4 (by decide) ?_
  refine lv_isub hx hb dX3_barAfter_5 ?_
  refine lv_ti (y := (nI rc - 1)) rfl ?_
  refine lv_istore_n (lv' := [(2, .int (nI rc - 1)), (0, .ref u0), (1, .int (nI pq))]) hx hb dX3_barAfter_6 rfl hl (by decide) rfl (fun ls hl => ?_)
  refine W_loop (σ := Nat) (fun (n_ : Nat) (q_1 : Nat) (H : Heap) (locs : List Loc) (ls : Array Slot) => n_ = 2 * q_1 ∧ (q_1 ≤ rc ∧ pBa rs rb rf (nI pq) q_1 = pBa rs rb rf (nI pq) rc) ∧ va_P D classes [(u0, .inr (3, (fX3 u1 u2 rf (nI rc) (nI rr)))), (aI k u1 24 rs), (aI k u2 24 rb)] H ∧ va_S (fun q : Nat => s.heap.size ≤ q) s.heap H locs ∧ lv_has ls 3 [(2, .int (nI q_1 - 1)), (0, .ref u0), (1, .int (nI pq))]) (fun n_1 x_1 H locs ls hI ih_1 => ?_) _ rc ⟨rfl, ⟨by omega, rfl⟩, hP, hS, (lv_sub hl [0, 1, 2] rfl)⟩
  obtain ⟨q_1, rfl⟩ : ∃ z, z = x_1 := ⟨_, rfl⟩
  obtain ⟨hm_1, hv_1, hP, hS, hl⟩ := hI
  subst hm_1
  rcases q_1 with _ | q_1
  · rw [dn0] at hl
    refine lv_iload_n hx hb dX3_barAfter_7 rfl (lv_at hl 0 rfl) ?_
    refine lv_if_lt (tgt := 34) hx hb dX3_barAfter_8 (by decide) (fun _ => ?_) (fun h => absurd (by decide) h)
    refine lv_aload_n hx hb dX3_barAfter_34 rfl (lv_at hl 1 rfl) ?_
    refine va_get (D := D) (ci := 3) (v := .int rf) (C := RX3) (T := TX3) (N := 5) hx hb hts inX3 hown hK hP 0 rfl rfl 2 (by decide) (hts _ tw_291) (fun _ h9 => h9) rfl dX3_barAfter_35 ?_
    exact W.iret (v := rf) hx hb hr (fun t ht hW => ⟨⟨rf, (), rfl, (show rf = pBar (ruX rf rc rr rs rb) pq by rw [xBar]; exact hv_1.2), trivial⟩, hS.F ht⟩) hS.2.2 dX3_barAfter_38
  · rw [nI_pred] at hl
    refine lv_iload_n hx hb dX3_barAfter_7 rfl (lv_at hl 0 rfl) ?_
    refine lv_if_lt (tgt := 34) hx hb dX3_barAfter_8 (by decide) (fun h => absurd h (nI_pos0 (by omega))) (fun _ => ?_)
    refine lv_aload_n hx hb dX3_barAfter_11 rfl (lv_at hl 1 rfl) ?_
    refine va_get (D := D) (ci := 3) (v := .ref u1) (C := RX3) (T := TX3) (N := 5) hx hb hts inX3 hown hK hP 0 rfl rfl 0 (by decide) (hts _ tw_289) (fun _ h9 => h9) rfl dX3_barAfter_12 ?_
    refine lv_iload_n hx hb dX3_barAfter_15 rfl (lv_at hl 0 rfl) ?_
    refine va_iald hx hb hK hP 1 1 rfl rfl (vp_in_nI (by omega) (by decide)) dX3_barAfter_16 ?_
    refine lv_ti (y := (rs q_1)) (by rw [nI_clamp (by omega)]) ?_
    refine lv_iload_n hx hb dX3_barAfter_17 rfl (lv_at hl 2 rfl) ?_
    refine lv_icmp_gt (tgt := 28) hx hb dX3_barAfter_18 (by decide) (fun c_2 => ?_) (fun c_2 => ?_)
    · refine lv_iinc (v := (nI q_1 - 1)) (lv' := [(2, .int (nI q_1 - 1)), (0, .ref u0), (1, .int (nI pq))]) hx hb dX3_barAfter_28 hl (k := 0) rfl (dn1 _) (by decide) rfl (fun ls hl => ?_)
      refine lv_goto (tgt := 7) hx hb dX3_barAfter_31 (by decide) ?_
      exact ih_1 _ (q_1) _ _ _ (by omega) ⟨rfl, ⟨by omega, (pBa_n (Int32.not_le.mpr c_2)).symm.trans hv_1.2⟩, hP, hS, (lv_sub hl [0, 1, 2] rfl)⟩
    · refine lv_aload_n hx hb dX3_barAfter_21 rfl (lv_at hl 1 rfl) ?_
      refine va_get (D := D) (ci := 3) (v := .ref u2) (C := RX3) (T := TX3) (N := 5) hx hb hts inX3 hown hK hP 0 rfl rfl 1 (by decide) (hts _ tw_290) (fun _ h9 => h9) rfl dX3_barAfter_22 ?_
      refine lv_iload_n hx hb dX3_barAfter_25 rfl (lv_at hl 0 rfl) ?_
      refine va_iald hx hb hK hP 2 1 rfl rfl (vp_in_nI (by omega) (by decide)) dX3_barAfter_26 ?_
      refine lv_ti (y := (rb q_1)) (by rw [nI_clamp (by omega)]) ?_
      exact W.iret (v := (rb q_1)) hx hb hr (fun t ht hW => ⟨⟨(rb q_1), (), rfl, (show (rb q_1) = pBar (ruX rf rc rr rs rb) pq by rw [xBar, ← hv_1.2]; exact (pBa_y (Int32.not_lt.mp c_2)).symm), trivial⟩, hS.F ht⟩) hS.2.2 dX3_barAfter_27


set_option maxHeartbeats 4000000 in
set_option maxRecDepth 100000 in
theorem y_garageShare (l : Launch) (D : va_G) (k : Nat → ClassId) (st : Nat → Nat) (lo : Nat) (h0 : Nat) (h1 : Nat) (h2 : Nat) (h3 : Nat) (h4 : Nat) (n : Nat) (see : Nat) (tm : Nat) (g : Nat → Int32) (ff : Nat → Int32) (fp : Nat → Int32) (fl : Nat → Int32) (rn : Nat) (wh : Nat) (hrn : rn ≤ 3) (hwh : wh ≤ 2) (hl9 : ∀ r, r < 4 → fl r = pLate (sdX n see tm g ff fp) r) : CRi l D k st lo yX2_garageShare cX2_garageShare 3 (some .int) ({ frames := 2, cells := 0, slots := 0, locals := 42 }) [.ref h0, .int (nI rn), .int (nI wh)] [(h0, .inr (5, (fX5 h1 h2 h3 h4))), (aI k h1 10 (vv n see tm g)), (aI k h2 24 ff), (aI k h3 24 fp), (aI k h4 4 fl)] (fun r => r = pGs (sdX n see tm g ff fp) wh rn) := by
  intro sz
  refine Met.ofW (cc := cX2_garageShare) (maxL := 3) (ret := (some .int)) (by decide) rfl ?_
  intro p e s m args below meth c s₁ B hml hv
  obtain ⟨rfl, hsz, hlo, hP, hK, hDL, hZ⟩ := hv
  have hx := B.exec
  have hb := B.bytes
  have hr := B.returns
  have hts := WS_ts B.pre
  have hown : s.vm.findClass RX2 = some m.cls := findClass_of_methodNamed B.named
  have hlocks := B.notSynchronized
  subst hsz
  have hA : ∀ q : Nat, s.heap.size ≤ q → (fun q : Nat => s.heap.size ≤ q) q := fun _ h => h
  have hAlo : ∀ q : Nat, (fun q : Nat => s.heap.size ≤ q) q → lo ≤ q := fun q h => Nat.le_trans hlo h
  have hS : va_S (fun q : Nat => s.heap.size ≤ q) s.heap s.heap [] := va_S.rf
  have hl := lv_entry ([.ref h0, .int (nI rn), .int (nI wh)]) (n := 3) (Nat.le_of_ble_eq_true rfl)
  rw [lg_entry_eq]
  generalize (lg_sl ([.ref h0, .int (nI rn), .int (nI wh)]) ++ List.replicate (3 - (lg_sl ([.ref h0, .int (nI rn), .int (nI wh)])).length) Slot.unset).toArray = ls at hl ⊢
  have hl : lv_has ls 3 [(0, .ref h0), (1, .int (nI rn)), (2, .int (nI wh))] := hl
  rcases (show wh = 0 ∨ wh = 1 ∨ wh = 2 by omega) with rfl | rfl | rfl
  · refine lv_iload_n hx hb dX2_garageShare_0 rfl (lv_at hl 2 rfl) ?_
    refine lv_lookup (tgt := 28) (off := 27) hx hb dX2_garageShare_1 (by decide) (by decide) (by decide) ?_
    refine lv_aload_n hx hb dX2_garageShare_28 rfl (lv_at hl 0 rfl) ?_
    refine lv_iload_n hx hb dX2_garageShare_29 rfl (lv_at hl 1 rfl) ?_
    refine ro_i (D := D) (va_runV (As := [.int (nI rn)]) (rest := []) ⟨hx, hb, hml, hown, hts⟩ ((y_garageOf l D k st lo h0 h1 h2 h3 h4 n see tm g fl rn (by first | assumption | omega)) s.heap.size) (cwV 1 hts (gV tw_713 tw_521 tw_522 tw_81 tw_523) rfl rfl rfl (by decide +kernel) ⟨Nat.le_of_ble_eq_true rfl, Nat.le_of_ble_eq_true rfl⟩) (pV hS hAlo hlo hP hK hDL hZ [0, 1, 4] (by decide) rfl (ci := 5) (q := (RX5, TX5, 4)) (q0 := 0) rfl rfl) rfl rfl hl.1 rfl (lv_room (Nat.le_of_ble_eq_true rfl)) dX2_garageShare_30 ⟨Nat.le_of_ble_eq_true rfl, Nat.le_of_ble_eq_true rfl⟩) hS hA hP (fun r_1 H locs hw_1 hP hS => ?_)
    try dsimp only at hw_1
    exact W.iret (v := r_1) hx hb hr (fun t ht hW => ⟨⟨r_1, (), rfl, (hw_1.trans (xGar (hl9 _ (by omega)))), trivial⟩, hS.F ht⟩) hS.2.2 dX2_garageShare_33
  · refine lv_iload_n hx hb dX2_garageShare_0 rfl (lv_at hl 2 rfl) ?_
    refine lv_lookup (tgt := 34) (off := 33) hx hb dX2_garageShare_1 (by decide) (by decide) (by decide) ?_
    refine lv_aload_n hx hb dX2_garageShare_34 rfl (lv_at hl 0 rfl) ?_
    refine lv_iload_n hx hb dX2_garageShare_35 rfl (lv_at hl 1 rfl) ?_
    refine ro_i (D := D) (va_runV (As := [.int (nI rn)]) (rest := []) ⟨hx, hb, hml, hown, hts⟩ ((y_isLateIn l D k st lo h0 h1 h2 h3 h4 n see tm g rn) s.heap.size) (cwV 1 hts (gV tw_714 tw_715 tw_716 tw_81 tw_717) rfl rfl rfl (by decide +kernel) ⟨Nat.le_of_ble_eq_true rfl, Nat.le_of_ble_eq_true rfl⟩) (pV hS hAlo hlo hP hK hDL hZ [0, 1] (by decide) rfl (ci := 5) (q := (RX5, TX5, 4)) (q0 := 0) rfl rfl) rfl rfl hl.1 rfl (lv_room (Nat.le_of_ble_eq_true rfl)) dX2_garageShare_36 ⟨Nat.le_of_ble_eq_true rfl, Nat.le_of_ble_eq_true rfl⟩) hS hA hP (fun r_2 H locs hw_2 hP hS => ?_)
    try dsimp only at hw_2
    rcases Decidable.em (fX_isLate n g rn = true) with c_3 | c_3
    · rw [if_pos c_3] at hw_2
      subst hw_2
      refine lv_if_eq (tgt := 47) hx hb dX2_garageShare_39 (by decide) (fun h => absurd h (by decide)) (fun _ => ?_)
      refine lv_ldc hx hb hown (hts _ tw_718) dX2_garageShare_42 ?_
      refine lv_goto (tgt := 48) hx hb dX2_garageShare_44 (by decide) ?_
      exact W.iret (v := 1000000) hx hb hr (fun t ht hW => ⟨⟨1000000, (), rfl, (by show _ = (if pLt (sdX n see tm g ff fp) rn = true then (1000000 : Int32) else 0); rw [if_pos (by rw [← xLt]; exact c_3)]), trivial⟩, hS.F ht⟩) hS.2.2 dX2_garageShare_48
    · rw [if_neg c_3] at hw_2
      subst hw_2
      refine lv_if_eq (tgt := 47) hx hb dX2_garageShare_39 (by decide) (fun _ => ?_) (fun h => absurd (by decide) h)
      refine lv_iconst (v := 0) hx hb dX2_garageShare_47 (by decide) ?_
      exact W.iret (v := 0) hx hb hr (fun t ht hW => ⟨⟨0, (), rfl, (by show _ = (if pLt (sdX n see tm g ff fp) rn = true then (1000000 : Int32) else 0); rw [if_neg (by rw [← xLt]; exact c_3)]), trivial⟩, hS.F ht⟩) hS.2.2 dX2_garageShare_48
  · refine lv_iload_n hx hb dX2_garageShare_0 rfl (lv_at hl 2 rfl) ?_
    refine lv_lookup (tgt := 49) (off := 48) hx hb dX2_garageShare_1 (by decide) (by decide) (by decide) ?_
    refine lv_ldc hx hb hown (hts _ tw_718) dX2_garageShare_49 ?_
    exact W.iret (v := 1000000) hx hb hr (fun t ht hW => ⟨⟨1000000, (), rfl, rfl, trivial⟩, hS.F ht⟩) hS.2.2 dX2_garageShare_51


set_option maxHeartbeats 4000000 in
set_option maxRecDepth 100000 in
theorem y_doorShare (l : Launch) (D : va_G) (k : Nat → ClassId) (st : Nat → Nat) (lo : Nat) (h0 : Nat) (h1 : Nat) (h2 : Nat) (h3 : Nat) (h4 : Nat) (n : Nat) (see : Nat) (tm : Nat) (g : Nat → Int32) (ff : Nat → Int32) (fp : Nat → Int32) (fl : Nat → Int32) (rn : Nat) (i : Nat) (wh : Nat) (hrn : rn ≤ 3) (hn : n ≤ 24) (hi : i < n) (hwh : wh ≤ 2) (hl9 : ∀ r, r < 4 → fl r = pLate (sdX n see tm g ff fp) r) : CRi l D k st lo yX2_doorShare cX2_doorShare 4 (some .int) ({ frames := 2, cells := 0, slots := 0, locals := 45 }) [.ref h0, .int (nI rn), .int (nI i), .int (nI wh)] [(h0, .inr (5, (fX5 h1 h2 h3 h4))), (aI k h1 10 (vv n see tm g)), (aI k h2 24 ff), (aI k h3 24 fp), (aI k h4 4 fl)] (fun r => r = pSh (sdX n see tm g ff fp) wh rn i) := by
  intro sz
  refine Met.ofW (cc := cX2_doorShare) (maxL := 4) (ret := (some .int)) (by decide) rfl ?_
  intro p e s m args below meth c s₁ B hml hv
  obtain ⟨rfl, hsz, hlo, hP, hK, hDL, hZ⟩ := hv
  have hx := B.exec
  have hb := B.bytes
  have hr := B.returns
  have hts := WS_ts B.pre
  have hown : s.vm.findClass RX2 = some m.cls := findClass_of_methodNamed B.named
  have hlocks := B.notSynchronized
  subst hsz
  have hA : ∀ q : Nat, s.heap.size ≤ q → (fun q : Nat => s.heap.size ≤ q) q := fun _ h => h
  have hAlo : ∀ q : Nat, (fun q : Nat => s.heap.size ≤ q) q → lo ≤ q := fun q h => Nat.le_trans hlo h
  have hS : va_S (fun q : Nat => s.heap.size ≤ q) s.heap s.heap [] := va_S.rf
  have hl := lv_entry ([.ref h0, .int (nI rn), .int (nI i), .int (nI wh)]) (n := 4) (Nat.le_of_ble_eq_true rfl)
  rw [lg_entry_eq]
  generalize (lg_sl ([.ref h0, .int (nI rn), .int (nI i), .int (nI wh)]) ++ List.replicate (4 - (lg_sl ([.ref h0, .int (nI rn), .int (nI i), .int (nI wh)])).length) Slot.unset).toArray = ls at hl ⊢
  have hl : lv_has ls 4 [(0, .ref h0), (1, .int (nI rn)), (2, .int (nI i)), (3, .int (nI wh))] := hl
  rcases (show wh = 0 ∨ wh = 1 ∨ wh = 2 by omega) with rfl | rfl | rfl
  · refine lv_iload_n hx hb dX2_doorShare_0 rfl (lv_at hl 3 rfl) ?_
    refine lv_lookup (tgt := 28) (off := 27) hx hb dX2_doorShare_1 (by decide) (by decide) (by decide) ?_
    refine lv_aload_n hx hb dX2_doorShare_28 rfl (lv_at hl 0 rfl) ?_
    refine lv_iload_n hx hb dX2_doorShare_29 rfl (lv_at hl 1 rfl) ?_
    refine lv_iload_n hx hb dX2_doorShare_30 rfl (lv_at hl 2 rfl) ?_
    refine ro_i (D := D) (va_runV (As := [.int (nI rn), .int (nI i)]) (rest := []) ⟨hx, hb, hml, hown, hts⟩ ((y_takingOf l D k st lo h0 h1 h2 h3 h4 n see tm g fp fl rn i (by first | assumption | omega) (by first | assumption | omega)) s.heap.size) (cwV 2 hts (gV tw_728 tw_557 tw_558 tw_81 tw_559) rfl rfl rfl (by decide +kernel) ⟨Nat.le_of_ble_eq_true rfl, Nat.le_of_ble_eq_true rfl⟩) (pV hS hAlo hlo hP hK hDL hZ [0, 1, 3, 4] (by decide) rfl (ci := 5) (q := (RX5, TX5, 4)) (q0 := 0) rfl rfl) rfl rfl hl.1 rfl (lv_room (Nat.le_of_ble_eq_true rfl)) dX2_doorShare_31 ⟨Nat.le_of_ble_eq_true rfl, Nat.le_of_ble_eq_true rfl⟩) hS hA hP (fun r_1 H locs hw_1 hP hS => ?_)
    try dsimp only at hw_1
    exact W.iret (v := r_1) hx hb hr (fun t ht hW => ⟨⟨r_1, (), rfl, (hw_1.trans (xTake (by omega) (hl9 _ (by omega)))), trivial⟩, hS.F ht⟩) hS.2.2 dX2_doorShare_34
  · refine lv_iload_n hx hb dX2_doorShare_0 rfl (lv_at hl 3 rfl) ?_
    refine lv_lookup (tgt := 35) (off := 34) hx hb dX2_doorShare_1 (by decide) (by decide) (by decide) ?_
    refine lv_aload_n hx hb dX2_doorShare_35 rfl (lv_at hl 0 rfl) ?_
    refine lv_iload_n hx hb dX2_doorShare_36 rfl (lv_at hl 1 rfl) ?_
    refine ro_i (D := D) (va_runV (As := [.int (nI rn)]) (rest := []) ⟨hx, hb, hml, hown, hts⟩ ((y_isLateIn l D k st lo h0 h1 h2 h3 h4 n see tm g rn) s.heap.size) (cwV 1 hts (gV tw_714 tw_715 tw_716 tw_81 tw_717) rfl rfl rfl (by decide +kernel) ⟨Nat.le_of_ble_eq_true rfl, Nat.le_of_ble_eq_true rfl⟩) (pV hS hAlo hlo hP hK hDL hZ [0, 1] (by decide) rfl (ci := 5) (q := (RX5, TX5, 4)) (q0 := 0) rfl rfl) rfl rfl hl.1 rfl (lv_room (Nat.le_of_ble_eq_true rfl)) dX2_doorShare_37 ⟨Nat.le_of_ble_eq_true rfl, Nat.le_of_ble_eq_true rfl⟩) hS hA hP (fun r_2 H locs hw_2 hP hS => ?_)
    try dsimp only at hw_2
    rcases Decidable.em (fX_isLate n g rn = true) with c_3 | c_3
    · rw [if_pos c_3] at hw_2
      subst hw_2
      refine lv_if_eq (tgt := 48) hx hb dX2_doorShare_40 (by decide) (fun h => absurd h (by decide)) (fun _ => ?_)
      refine lv_ldc hx hb hown (hts _ tw_718) dX2_doorShare_43 ?_
      refine lv_goto (tgt := 49) hx hb dX2_doorShare_45 (by decide) ?_
      exact W.iret (v := 1000000) hx hb hr (fun t ht hW => ⟨⟨1000000, (), rfl, (by show _ = (if pLt (sdX n see tm g ff fp) rn = true then (1000000 : Int32) else 0); rw [if_pos (by rw [← xLt]; exact c_3)]), trivial⟩, hS.F ht⟩) hS.2.2 dX2_doorShare_49
    · rw [if_neg c_3] at hw_2
      subst hw_2
      refine lv_if_eq (tgt := 48) hx hb dX2_doorShare_40 (by decide) (fun _ => ?_) (fun h => absurd (by decide) h)
      refine lv_iconst (v := 0) hx hb dX2_doorShare_48 (by decide) ?_
      exact W.iret (v := 0) hx hb hr (fun t ht hW => ⟨⟨0, (), rfl, (by show _ = (if pLt (sdX n see tm g ff fp) rn = true then (1000000 : Int32) else 0); rw [if_neg (by rw [← xLt]; exact c_3)]), trivial⟩, hS.F ht⟩) hS.2.2 dX2_doorShare_49
  · refine lv_iload_n hx hb dX2_doorShare_0 rfl (lv_at hl 3 rfl) ?_
    refine lv_lookup (tgt := 50) (off := 49) hx hb dX2_doorShare_1 (by decide) (by decide) (by decide) ?_
    refine lv_iconst (v := 0) hx hb dX2_doorShare_50 (by decide) ?_
    exact W.iret (v := 0) hx hb hr (fun t ht hW => ⟨⟨0, (), rfl, rfl, trivial⟩, hS.F ht⟩) hS.2.2 dX2_doorShare_51


set_option maxHeartbeats 4000000 in
set_option maxRecDepth 100000 in
theorem y_meanOfRound (l : Launch) (D : va_G) (k : Nat → ClassId) (st : Nat → Nat) (lo : Nat) (y0 : Nat) (y1 : Nat) (y2 : Nat) (y3 : Nat) (wt : Int32) (wc : Int32) (ya : Nat → Int32) (yb : Nat → Int32) (h0 : Nat) (h1 : Nat) (h2 : Nat) (h3 : Nat) (h4 : Nat) (n : Nat) (see : Nat) (tm : Nat) (g : Nat → Int32) (ff : Nat → Int32) (fp : Nat → Int32) (fl : Nat → Int32) (u0 : Nat) (u1 : Nat) (u2 : Nat) (rf : Int32) (rc : Nat) (rr : Nat) (rs : Nat → Int32) (rb : Nat → Int32) (wh : Nat) (rn : Nat) (p4 : Int32) (hn : n ≤ 24) (hrc : rc ≤ 24) (hrn : rn ≤ 3) (hwh : wh ≤ 2) (hl9 : ∀ r, r < 4 → fl r = pLate (sdX n see tm g ff fp) r) (hok9 : okD (sdX n see tm g ff fp)) : CWi l D k st lo yX2_meanOfRound cX2_meanOfRound 13 (some .int) ({ frames := 3, cells := 0, slots := 0, locals := 83 }) 0 0 [.ref y0, .ref h0, .ref u0, .int (nI wh), .int (nI rn), .int p4] [(y0, .inr (2, (fX2 y1 y2 y3 wt wc))), (aI k y1 25 ya), (aI k y2 25 yb), (h0, .inr (5, (fX5 h1 h2 h3 h4))), (aI k h1 10 (vv n see tm g)), (aI k h2 24 ff), (aI k h3 24 fp), (aI k h4 4 fl), (u0, .inr (3, (fX3 u1 u2 rf (nI rc) (nI rr)))), (aI k u1 24 rs), (aI k u2 24 rb)] (fun (r : Int32) (u : (Nat → Int32) × (Nat → Int32)) => match u with | (ya_, yb_) => r = mV (sdX n see tm g ff fp) (ruX rf rc rr rs rb) wh rn p4 (n) 0 0) (fun (u : (Nat → Int32) × (Nat → Int32)) => match u with | (ya_, yb_) => [(y0, .inr (2, (fX2 y1 y2 y3 wt wc))), (aI k y1 25 ya_), (aI k y2 25 yb_), (h0, .inr (5, (fX5 h1 h2 h3 h4))), (aI k h1 10 (vv n see tm g)), (aI k h2 24 ff), (aI k h3 24 fp), (aI k h4 4 fl), (u0, .inr (3, (fX3 u1 u2 rf (nI rc) (nI rr)))), (aI k u1 24 rs), (aI k u2 24 rb)]) := by
  intro sz
  refine Met.ofW (cc := cX2_meanOfRound) (maxL := 13) (ret := (some .int)) (by decide) rfl ?_
  intro p e s m args below meth c s₁ B hml hv
  obtain ⟨rfl, hsz, hlo, hP, hK, hDL, hZ⟩ := hv
  have hx := B.exec
  have hb := B.bytes
  have hr := B.returns
  have hts := WS_ts B.pre
  have hown : s.vm.findClass RX2 = some m.cls := findClass_of_methodNamed B.named
  have hlocks := B.notSynchronized
  subst hsz
  have hD := hDL.self (sz := s.heap.size)
  have hAlo := A_lo hDL hlo
  generalize hAe : va_A [(y0, .inr (2, (fX2 y1 y2 y3 wt wc))), (aI k y1 25 ya), (aI k y2 25 yb), (h0, .inr (5, (fX5 h1 h2 h3 h4))), (aI k h1 10 (vv n see tm g)), (aI k h2 24 ff), (aI k h3 24 fp), (aI k h4 4 fl), (u0, .inr (3, (fX3 u1 u2 rf (nI rc) (nI rr)))), (aI k u1 24 rs), (aI k u2 24 rb)] s.heap.size = A at hD hAlo ⊢
  have hA : ∀ q : Nat, s.heap.size ≤ q → A q := fun q h => by rw [← hAe]; exact Or.inr h
  have hS : va_S A s.heap s.heap [] := va_S.rf
  have hl := lv_entry ([.ref y0, .ref h0, .ref u0, .int (nI wh), .int (nI rn), .int p4]) (n := 13) (Nat.le_of_ble_eq_true rfl)
  rw [lg_entry_eq]
  generalize (lg_sl ([.ref y0, .ref h0, .ref u0, .int (nI wh), .int (nI rn), .int p4]) ++ List.replicate (13 - (lg_sl ([.ref y0, .ref h0, .ref u0, .int (nI wh), .int (nI rn), .int p4])).length) Slot.unset).toArray = ls at hl ⊢
  have hl : lv_has ls 13 [(0, .ref y0), (1, .ref h0), (2, .ref u0), (3, .int (nI wh)), (4, .int (nI rn)), (5, .int p4)] := hl
  refine lv_iconst (v := 0) hx hb dX2_meanOfRound_0 (by decide) ?_
  refine lv_istore (lv' := [(6, .int 0), (0, .ref y0), (1, .ref h0), (2, .ref u0), (3, .int (nI wh)), (4, .int (nI rn)), (5, .int p4)]) hx hb dX2_meanOfRound_1 hl (by decide) rfl (fun ls hl => ?_)
  refine W_loop (σ := Nat × (Nat → Int32) × (Nat → Int32)) (fun (n_ : Nat) (x_ : Nat × (Nat → Int32) × (Nat → Int32)) (H : Heap) (locs : List Loc) (ls : Array Slot) => match x_ with | (pa_1, ya2_1, yb2_1) => n_ = n + 1 - pa_1 ∧ (pa_1 ≤ n + 1 ∧ (∀ b, b < pa_1 → ya2_1 b = p4) ∧ (∀ b, b < pa_1 → yb2_1 b = p4)) ∧ va_P D classes [(y0, .inr (2, (fX2 y1 y2 y3 wt wc))), (aI k y1 25 ya2_1), (aI k y2 25 yb2_1), (h0, .inr (5, (fX5 h1 h2 h3 h4))), (aI k h1 10 (vv n see tm g)), (aI k h2 24 ff), (aI k h3 24 fp), (aI k h4 4 fl), (u0, .inr (3, (fX3 u1 u2 rf (nI rc) (nI rr)))), (aI k u1 24 rs), (aI k u2 24 rb)] H ∧ va_D A [(y0, .inr (2, (fX2 y1 y2 y3 wt wc))), (aI k y1 25 ya2_1), (aI k y2 25 yb2_1), (h0, .inr (5, (fX5 h1 h2 h3 h4))), (aI k h1 10 (vv n see tm g)), (aI k h2 24 ff), (aI k h3 24 fp), (aI k h4 4 fl), (u0, .inr (3, (fX3 u1 u2 rf (nI rc) (nI rr)))), (aI k u1 24 rs), (aI k u2 24 rb)] ∧ va_S A s.heap H locs ∧ lv_has ls 13 [(6, .int (nI pa_1)), (0, .ref y0), (1, .ref h0), (2, .ref u0), (3, .int (nI wh)), (4, .int (nI rn)), (5, .int p4)]) (fun n_1 x_1 H locs ls hI ih_1 => ?_) _ (0, ya, yb) ⟨rfl, ⟨by omega, fun b h => absurd h (Nat.not_lt_zero b), fun b h => absurd h (Nat.not_lt_zero b)⟩, hP, hD, hS, (lv_sub hl [0, 1, 2, 3, 4, 5, 6] rfl)⟩
  obtain ⟨pa_1, ya2_1, yb2_1⟩ := x_1
  obtain ⟨hm_1, hv_1, hP, hD, hS, hl⟩ := hI
  subst hm_1
  refine lv_iload hx hb dX2_meanOfRound_3 (lv_at hl 0 rfl) ?_
  refine lv_aload_n hx hb dX2_meanOfRound_5 rfl (lv_at hl 2 rfl) ?_
  refine ro_i (D := D) (va_runV (As := []) (rest := [.int (nI pa_1)]) ⟨hx, hb, hml, hown, hts⟩ ((x_doors l D k st lo h0 h1 h2 h3 h4 n see tm g) H.size) (cwV 0 hts (gV tw_723 tw_478 tw_479 tw_81 tw_480) rfl rfl rfl (by decide +kernel) ⟨Nat.le_of_ble_eq_true rfl, Nat.le_of_ble_eq_true rfl⟩) (pV hS hAlo hlo hP hK (va_Dlo hD hAlo) hZ [3, 4] (by decide) rfl (ci := 5) (q := (RX5, TX5, 4)) (q0 := 0) rfl rfl) rfl rfl hl.1 rfl (lv_room (Nat.le_of_ble_eq_true rfl)) dX2_meanOfRound_6 ⟨Nat.le_of_ble_eq_true rfl, Nat.le_of_ble_eq_true rfl⟩) hS hA hP (fun r_2 H locs hw_2 hP hS => ?_)
  try dsimp only at hw_2
  subst hw_2
  refine lv_icmp_gt (tgt := 36) hx hb dX2_meanOfRound_9 (by decide) (fun c_3 => ?_) (fun c_3 => ?_)
  · have c_3 := (nI_ltI (a := n) (b := pa_1) (by omega) (by omega)).mp c_3
    refine lv_iload_n hx hb dX2_meanOfRound_36 rfl (lv_at hl 4 rfl) ?_
    refine lv_if_ne (tgt := 47) hx hb dX2_meanOfRound_37 (by decide) (fun c_4 => ?_) (fun c_4 => ?_)
    · have c_4 : ¬ (wh = 0) := fun h => c_4 ((nI_eq (a := wh) (b := 0) (by omega) (by omega)).mpr h)
      refine lv_iconst (v := 0) hx hb dX2_meanOfRound_47 (by decide) ?_
      have hps_5 : (0 : Int32) = pPs (sdX n see tm g ff fp) wh := by unfold pPs; rw [if_neg (by omega)]
      refine lv_istore (lv' := [(6, .int 0), (0, .ref y0), (1, .ref h0), (2, .ref u0), (3, .int (nI wh)), (4, .int (nI rn)), (5, .int p4)]) hx hb dX2_meanOfRound_48 hl (by decide) rfl (fun ls hl => ?_)
      refine lv_aload_n hx hb dX2_meanOfRound_50 rfl (lv_at hl 2 rfl) ?_
      refine ro_i (D := D) (va_runV (As := []) (rest := []) ⟨hx, hb, hml, hown, hts⟩ ((x_doors l D k st lo h0 h1 h2 h3 h4 n see tm g) H.size) (cwV 0 hts (gV tw_723 tw_478 tw_479 tw_81 tw_480) rfl rfl rfl (by decide +kernel) ⟨Nat.le_of_ble_eq_true rfl, Nat.le_of_ble_eq_true rfl⟩) (pV hS hAlo hlo hP hK (va_Dlo hD hAlo) hZ [3, 4] (by decide) rfl (ci := 5) (q := (RX5, TX5, 4)) (q0 := 0) rfl rfl) rfl rfl hl.1 rfl (lv_room (Nat.le_of_ble_eq_true rfl)) dX2_meanOfRound_51 ⟨Nat.le_of_ble_eq_true rfl, Nat.le_of_ble_eq_true rfl⟩) hS hA hP (fun r_6 H locs hw_6 hP hS => ?_)
      try dsimp only at hw_6
      subst hw_6
      refine lv_iconst (v := 1) hx hb dX2_meanOfRound_54 (by decide) ?_
      refine lv_isub hx hb dX2_meanOfRound_55 ?_
      refine lv_ti (y := (nI n - 1)) rfl ?_
      refine lv_istore (lv' := [(7, .int (nI n - 1)), (6, .int 0), (0, .ref y0), (1, .ref h0), (2, .ref u0), (3, .int (nI wh)), (4, .int (nI rn)), (5, .int p4)]) hx hb dX2_meanOfRound_56 hl (by decide) rfl (fun ls hl => ?_)
      refine W_loop (σ := Nat × (Nat → Int32) × (Nat → Int32)) (fun (n_ : Nat) (x_ : Nat × (Nat → Int32) × (Nat → Int32)) (H : Heap) (locs : List Loc) (ls : Array Slot) => match x_ with | (q_7, ya2_7, yb2_7) => n_ = 2 * q_7 ∧ (q_7 ≤ n ∧ (∀ b, b < q_7 + 1 → ya2_7 b = mV (sdX n see tm g ff fp) (ruX rf rc rr rs rb) wh rn p4 (n - q_7) b 1) ∧ (∀ b, b < q_7 + 1 → yb2_7 b = mV (sdX n see tm g ff fp) (ruX rf rc rr rs rb) wh rn p4 (n - q_7) b 0)) ∧ va_P D classes [(y0, .inr (2, (fX2 y1 y2 y3 wt wc))), (aI k y1 25 ya2_7), (aI k y2 25 yb2_7), (h0, .inr (5, (fX5 h1 h2 h3 h4))), (aI k h1 10 (vv n see tm g)), (aI k h2 24 ff), (aI k h3 24 fp), (aI k h4 4 fl), (u0, .inr (3, (fX3 u1 u2 rf (nI rc) (nI rr)))), (aI k u1 24 rs), (aI k u2 24 rb)] H ∧ va_D A [(y0, .inr (2, (fX2 y1 y2 y3 wt wc))), (aI k y1 25 ya2_7), (aI k y2 25 yb2_7), (h0, .inr (5, (fX5 h1 h2 h3 h4))), (aI k h1 10 (vv n see tm g)), (aI k h2 24 ff), (aI k h3 24 fp), (aI k h4 4 fl), (u0, .inr (3, (fX3 u1 u2 rf (nI rc) (nI rr)))), (aI k u1 24 rs), (aI k u2 24 rb)] ∧ va_S A s.heap H locs ∧ lv_has ls 13 [(7, .int (nI q_7 - 1)), (6, .int 0), (0, .ref y0), (1, .ref h0), (2, .ref u0), (3, .int (nI wh)), (4, .int (nI rn)), (5, .int p4)]) (fun n_7 x_7 H locs ls hI ih_7 => ?_) _ (n, ya2_1, yb2_1) ⟨rfl, ⟨by omega, fun b hb => by rw [Nat.sub_self]; exact hv_1.2.1 b (by omega), fun b hb => by rw [Nat.sub_self]; exact hv_1.2.2 b (by omega)⟩, hP, hD, hS, (lv_sub hl [0, 1, 2, 3, 4, 5, 6, 7] rfl)⟩
      obtain ⟨q_7, ya2_7, yb2_7⟩ := x_7
      obtain ⟨hm_7, hv_7, hP, hD, hS, hl⟩ := hI
      subst hm_7
      rcases q_7 with _ | q_7
      · rw [dn0] at hl
        refine lv_iload hx hb dX2_meanOfRound_58 (lv_at hl 0 rfl) ?_
        refine lv_if_lt (tgt := 192) hx hb dX2_meanOfRound_60 (by decide) (fun _ => ?_) (fun h => absurd (by decide) h)
        refine lv_aload_n hx hb dX2_meanOfRound_192 rfl (lv_at hl 2 rfl) ?_
        refine va_get (D := D) (ci := 2) (v := .ref y2) (C := RX2) (T := TX2) (N := 5) hx hb hts inX2 hown hK hP 0 rfl rfl 1 (by decide) (hts _ tw_211) (fun _ h9 => h9) rfl dX2_meanOfRound_193 ?_
        refine lv_iconst (v := 0) hx hb dX2_meanOfRound_196 (by decide) ?_
        refine va_iald hx hb hK hP 2 1 rfl rfl (by unfold vp_in; decide) dX2_meanOfRound_197 ?_
        refine lv_ti (y := (yb2_7 0)) (by rfl) ?_
        have hP9 := hP.sub (ws' := [(y0, .inr (2, (fX2 y1 y2 y3 wt wc))), (aI k y1 25 ya2_7), (aI k y2 25 yb2_7), (h0, .inr (5, (fX5 h1 h2 h3 h4))), (aI k h1 10 (vv n see tm g)), (aI k h2 24 ff), (aI k h3 24 fp), (aI k h4 4 fl), (u0, .inr (3, (fX3 u1 u2 rf (nI rc) (nI rr)))), (aI k u1 24 rs), (aI k u2 24 rb)]) [0, 1, 2, 3, 4, 5, 6, 7, 8, 9, 10] rfl
        have hD9 := hD.sub (ws' := [(y0, .inr (2, (fX2 y1 y2 y3 wt wc))), (aI k y1 25 ya2_7), (aI k y2 25 yb2_7), (h0, .inr (5, (fX5 h1 h2 h3 h4))), (aI k h1 10 (vv n see tm g)), (aI k h2 24 ff), (aI k h3 24 fp), (aI k h4 4 fl), (u0, .inr (3, (fX3 u1 u2 rf (nI rc) (nI rr)))), (aI k u1 24 rs), (aI k u2 24 rb)]) [0, 1, 2, 3, 4, 5, 6, 7, 8, 9, 10] (by decide +kernel) rfl
        exact W.iret (v := (yb2_7 0)) hx hb hr (fun t ht hW => ⟨⟨(yb2_7 0), (ya2_7, yb2_7), rfl, hv_7.2.2 0 (by omega), by rw [ht]; exact hP9, hD9⟩, hS.F ht⟩) hS.2.2 dX2_meanOfRound_198
      · rw [nI_pred] at hl
        refine lv_iload hx hb dX2_meanOfRound_58 (lv_at hl 0 rfl) ?_
        refine lv_if_lt (tgt := 192) hx hb dX2_meanOfRound_60 (by decide) (fun h => absurd h (nI_pos0 (by omega))) (fun _ => ?_)
        refine lv_aload_n hx hb dX2_meanOfRound_63 rfl (lv_at hl 3 rfl) ?_
        refine lv_iload hx hb dX2_meanOfRound_64 (lv_at hl 6 rfl) ?_
        refine lv_iload hx hb dX2_meanOfRound_66 (lv_at hl 0 rfl) ?_
        refine lv_iload_n hx hb dX2_meanOfRound_68 rfl (lv_at hl 5 rfl) ?_
        refine ro_i (D := D) (va_runS (As := [.ref h0, .int (nI rn), .int (nI q_7), .int (nI wh)]) (rest := []) ⟨hx, hb, hml, hown, hts⟩ ((y_doorShare l D k st lo h0 h1 h2 h3 h4 n see tm g ff fp fl rn q_7 wh (by first | assumption | omega) (by first | assumption | omega) (by first | assumption | omega) (by first | assumption | omega) hl9) H.size) (va_cwS 4 hts (gS tw_725 tw_726 tw_83 tw_727) rfl rfl rfl (by decide +kernel) ⟨Nat.le_of_ble_eq_true rfl, Nat.le_of_ble_eq_true rfl⟩) (pS hS hAlo hlo hP hK (va_Dlo hD hAlo) hZ [3, 4, 5, 6, 7] (by decide) rfl) rfl rfl hl.1 rfl (lv_room (Nat.le_of_ble_eq_true rfl)) dX2_meanOfRound_69 ⟨Nat.le_of_ble_eq_true rfl, Nat.le_of_ble_eq_true rfl⟩) hS hA hP (fun r_8 H locs hw_8 hP hS => ?_)
        try dsimp only at hw_8
        refine lv_istore (lv' := [(8, .int r_8), (7, .int (nI q_7)), (6, .int 0), (0, .ref y0), (1, .ref h0), (2, .ref u0), (3, .int (nI wh)), (4, .int (nI rn)), (5, .int p4)]) hx hb dX2_meanOfRound_72 hl (by decide) rfl (fun ls hl => ?_)
        refine lv_iconst (v := 0) hx hb dX2_meanOfRound_74 (by decide) ?_
        refine lv_istore (lv' := [(9, .int 0), (8, .int r_8), (7, .int (nI q_7)), (6, .int 0), (0, .ref y0), (1, .ref h0), (2, .ref u0), (3, .int (nI wh)), (4, .int (nI rn)), (5, .int p4)]) hx hb dX2_meanOfRound_75 hl (by decide) rfl (fun ls hl => ?_)
        refine W_loop (σ := Nat × (Nat → Int32) × (Nat → Int32)) (fun (n_ : Nat) (x_ : Nat × (Nat → Int32) × (Nat → Int32)) (H : Heap) (locs : List Loc) (ls : Array Slot) => match x_ with | (be_9, ya3_9, yb3_9) => n_ = q_7 + 1 - be_9 ∧ (be_9 ≤ q_7 + 1 ∧ (∀ b, b < be_9 → ya3_9 b = mV (sdX n see tm g ff fp) (ruX rf rc rr rs rb) wh rn p4 (n - q_7) b 1) ∧ (∀ b, b < be_9 → yb3_9 b = mV (sdX n see tm g ff fp) (ruX rf rc rr rs rb) wh rn p4 (n - q_7) b 0) ∧ (∀ b, be_9 ≤ b → b < q_7 + 2 → ya3_9 b = mV (sdX n see tm g ff fp) (ruX rf rc rr rs rb) wh rn p4 (n - (q_7 + 1)) b 1) ∧ (∀ b, be_9 ≤ b → b < q_7 + 2 → yb3_9 b = mV (sdX n see tm g ff fp) (ruX rf rc rr rs rb) wh rn p4 (n - (q_7 + 1)) b 0)) ∧ va_P D classes [(y0, .inr (2, (fX2 y1 y2 y3 wt wc))), (aI k y1 25 ya3_9), (aI k y2 25 yb3_9), (h0, .inr (5, (fX5 h1 h2 h3 h4))), (aI k h1 10 (vv n see tm g)), (aI k h2 24 ff), (aI k h3 24 fp), (aI k h4 4 fl), (u0, .inr (3, (fX3 u1 u2 rf (nI rc) (nI rr)))), (aI k u1 24 rs), (aI k u2 24 rb)] H ∧ va_D A [(y0, .inr (2, (fX2 y1 y2 y3 wt wc))), (aI k y1 25 ya3_9), (aI k y2 25 yb3_9), (h0, .inr (5, (fX5 h1 h2 h3 h4))), (aI k h1 10 (vv n see tm g)), (aI k h2 24 ff), (aI k h3 24 fp), (aI k h4 4 fl), (u0, .inr (3, (fX3 u1 u2 rf (nI rc) (nI rr)))), (aI k u1 24 rs), (aI k u2 24 rb)] ∧ va_S A s.heap H locs ∧ lv_has ls 13 [(9, .int (nI be_9)), (8, .int r_8), (7, .int (nI q_7)), (6, .int 0), (0, .ref y0), (1, .ref h0), (2, .ref u0), (3, .int (nI wh)), (4, .int (nI rn)), (5, .int p4)]) (fun n_9 x_9 H locs ls hI ih_9 => ?_) _ (0, ya2_7, yb2_7) ⟨rfl, ⟨by omega, fun b h => absurd h (Nat.not_lt_zero b), fun b h => absurd h (Nat.not_lt_zero b), fun b _ h => hv_7.2.1 b (by omega), fun b _ h => hv_7.2.2 b (by omega)⟩, hP, hD, hS, (lv_sub hl [0, 1, 2, 3, 4, 5, 6, 7, 8, 9] rfl)⟩
        obtain ⟨be_9, ya3_9, yb3_9⟩ := x_9
        obtain ⟨hm_9, hv_9, hP, hD, hS, hl⟩ := hI
        subst hm_9
        refine lv_iload hx hb dX2_meanOfRound_77 (lv_at hl 0 rfl) ?_
        refine lv_iload hx hb dX2_meanOfRound_79 (lv_at hl 2 rfl) ?_
        refine lv_icmp_gt (tgt := 186) hx hb dX2_meanOfRound_81 (by decide) (fun c_10 => ?_) (fun c_10 => ?_)
        · have c_10 := (nI_ltI (a := q_7) (b := be_9) (by omega) (by omega)).mp c_10
          refine lv_iinc (v := (nI q_7 - 1)) (lv' := [(7, .int (nI q_7 - 1)), (9, .int (nI be_9)), (8, .int r_8), (6, .int 0), (0, .ref y0), (1, .ref h0), (2, .ref u0), (3, .int (nI wh)), (4, .int (nI rn)), (5, .int p4)]) hx hb dX2_meanOfRound_186 hl (k := 2) rfl (dn1 _) (by decide) rfl (fun ls hl => ?_)
          refine lv_goto (tgt := 58) hx hb dX2_meanOfRound_189 (by decide) ?_
          exact ih_7 _ (q_7, ya3_9, yb3_9) _ _ _ (by omega) ⟨rfl, ⟨by omega, fun b hb => hv_9.2.1 b (by omega), fun b hb => hv_9.2.2.1 b (by omega)⟩, hP, hD, hS, (lv_sub hl [0, 3, 4, 5, 6, 7, 8, 9] rfl)⟩
        · have c_10 : ¬ (q_7 < be_9) := fun h => c_10 ((nI_ltI (a := q_7) (b := be_9) (by omega) (by omega)).mpr h)
          refine lv_iload hx hb dX2_meanOfRound_84 (lv_at hl 2 rfl) ?_
          refine lv_aload_n hx hb dX2_meanOfRound_86 rfl (lv_at hl 6 rfl) ?_
          refine lv_iload hx hb dX2_meanOfRound_87 (lv_at hl 0 rfl) ?_
          refine ro_i (D := D) (va_runV (As := [.int (nI be_9)]) (rest := [.int (nI q_7)]) ⟨hx, hb, hml, hown, hts⟩ ((y_barAfter l D k st lo u0 u1 u2 rf rc rr rs rb be_9 (by first | assumption | omega)) H.size) (cwV 1 hts (gV tw_729 tw_730 tw_731 tw_86 tw_732) rfl rfl rfl (by decide +kernel) ⟨Nat.le_of_ble_eq_true rfl, Nat.le_of_ble_eq_true rfl⟩) (pV hS hAlo hlo hP hK (va_Dlo hD hAlo) hZ [8, 9, 10] (by decide) rfl (ci := 3) (q := (RX3, TX3, 5)) (q0 := 0) rfl rfl) rfl rfl hl.1 rfl (lv_room (Nat.le_of_ble_eq_true rfl)) dX2_meanOfRound_89 ⟨Nat.le_of_ble_eq_true rfl, Nat.le_of_ble_eq_true rfl⟩) hS hA hP (fun r_11 H locs hw_11 hP hS => ?_)
          try dsimp only at hw_11
          refine lv_icmp_lt (tgt := 99) hx hb dX2_meanOfRound_92 (by decide) (fun c_12 => ?_) (fun c_12 => ?_)
          · refine lv_iconst (v := 0) hx hb dX2_meanOfRound_99 (by decide) ?_
            refine lv_istore (lv' := [(10, .int 0), (9, .int (nI be_9)), (8, .int r_8), (7, .int (nI q_7)), (6, .int 0), (0, .ref y0), (1, .ref h0), (2, .ref u0), (3, .int (nI wh)), (4, .int (nI rn)), (5, .int p4)]) hx hb dX2_meanOfRound_100 hl (by decide) rfl (fun ls hl => ?_)
            refine lv_iload hx hb dX2_meanOfRound_102 (lv_at hl 0 rfl) ?_
            refine lv_if_eq (tgt := 112) hx hb dX2_meanOfRound_104 (by decide) (fun _ => ?_) (fun h => absurd (by decide) h)
            refine lv_iload hx hb dX2_meanOfRound_112 (lv_at hl 4 rfl) ?_
            refine lv_aload_n hx hb dX2_meanOfRound_114 rfl (lv_at hl 5 rfl) ?_
            refine va_get (D := D) (ci := 2) (v := .ref y1) (C := RX2) (T := TX2) (N := 5) hx hb hts inX2 hown hK hP 0 rfl rfl 0 (by decide) (hts _ tw_210) (fun _ h9 => h9) rfl dX2_meanOfRound_115 ?_
            refine lv_iload hx hb dX2_meanOfRound_118 (lv_at hl 1 rfl) ?_
            refine lv_iconst (v := 1) hx hb dX2_meanOfRound_120 (by decide) ?_
            refine lv_iadd hx hb dX2_meanOfRound_121 ?_
            refine lv_ti (y := (nI (be_9 + 1))) (nI_add be_9 1) ?_
            refine va_iald hx hb hK hP 1 1 rfl rfl (vp_in_nI (by omega) (by decide)) dX2_meanOfRound_122 ?_
            refine lv_ti (y := (ya3_9 (be_9 + 1))) (by rw [nI_clamp (by omega)]) ?_
            refine lv_iadd hx hb dX2_meanOfRound_123 ?_
            refine lv_topi (fun x_13 ex_13 => ?_)
            refine lv_istore (lv' := [(11, .int x_13), (10, .int 0), (9, .int (nI be_9)), (8, .int r_8), (7, .int (nI q_7)), (6, .int 0), (0, .ref y0), (1, .ref h0), (2, .ref u0), (3, .int (nI wh)), (4, .int (nI rn)), (5, .int p4)]) hx hb dX2_meanOfRound_124 hl (by decide) rfl (fun ls hl => ?_)
            refine lv_iload hx hb dX2_meanOfRound_126 (lv_at hl 5 rfl) ?_
            refine lv_aload_n hx hb dX2_meanOfRound_128 rfl (lv_at hl 6 rfl) ?_
            refine va_get (D := D) (ci := 2) (v := .ref y2) (C := RX2) (T := TX2) (N := 5) hx hb hts inX2 hown hK hP 0 rfl rfl 1 (by decide) (hts _ tw_211) (fun _ h9 => h9) rfl dX2_meanOfRound_129 ?_
            refine lv_iload hx hb dX2_meanOfRound_132 (lv_at hl 2 rfl) ?_
            refine va_iald hx hb hK hP 2 1 rfl rfl (vp_in_nI (by omega) (by decide)) dX2_meanOfRound_134 ?_
            refine lv_ti (y := (yb3_9 be_9)) (by rw [nI_clamp (by omega)]) ?_
            refine lv_iadd hx hb dX2_meanOfRound_135 ?_
            refine lv_topi (fun x_14 ex_14 => ?_)
            refine lv_istore (lv' := [(12, .int x_14), (11, .int x_13), (10, .int 0), (9, .int (nI be_9)), (8, .int r_8), (7, .int (nI q_7)), (6, .int 0), (0, .ref y0), (1, .ref h0), (2, .ref u0), (3, .int (nI wh)), (4, .int (nI rn)), (5, .int p4)]) hx hb dX2_meanOfRound_136 hl (by decide) rfl (fun ls hl => ?_)
            refine lv_aload_n hx hb dX2_meanOfRound_138 rfl (lv_at hl 7 rfl) ?_
            refine va_get (D := D) (ci := 2) (v := .ref y1) (C := RX2) (T := TX2) (N := 5) hx hb hts inX2 hown hK hP 0 rfl rfl 0 (by decide) (hts _ tw_210) (fun _ h9 => h9) rfl dX2_meanOfRound_139 ?_
            refine lv_iload hx hb dX2_meanOfRound_142 (lv_at hl 3 rfl) ?_
            refine lv_aload_n hx hb dX2_meanOfRound_144 rfl (lv_at hl 8 rfl) ?_
            refine lv_iload hx hb dX2_meanOfRound_145 (lv_at hl 5 rfl) ?_
            refine lv_iconst (v := 1) hx hb dX2_meanOfRound_147 (by decide) ?_
            refine ro_i (D := D) (va_runV (As := [.int (nI q_7), .int 1]) (rest := [.int (nI be_9), .ref y1]) ⟨hx, hb, hml, hown, hts⟩ ((y_chanceOf l D k st lo h0 h1 h2 h3 h4 n see tm g ff q_7 1 (by first | assumption | omega)) H.size) (cwV 2 hts (gV tw_733 tw_565 tw_566 tw_81 tw_567) rfl rfl rfl (by decide +kernel) ⟨Nat.le_of_ble_eq_true rfl, Nat.le_of_ble_eq_true rfl⟩) (pV hS hAlo hlo hP hK (va_Dlo hD hAlo) hZ [3, 4, 5] (by decide) rfl (ci := 5) (q := (RX5, TX5, 4)) (q0 := 0) rfl rfl) rfl rfl hl.1 rfl (lv_room (Nat.le_of_ble_eq_true rfl)) dX2_meanOfRound_148 ⟨Nat.le_of_ble_eq_true rfl, Nat.le_of_ble_eq_true rfl⟩) hS hA hP (fun r_15 H locs hw_15 hP hS => ?_)
            try dsimp only at hw_15
            refine lv_iload hx hb dX2_meanOfRound_151 (lv_at hl 1 rfl) ?_
            refine lv_iload hx hb dX2_meanOfRound_153 (lv_at hl 0 rfl) ?_
            refine ro_i (D := D) (va_runSN (As := [.int r_15, .int x_13, .int x_14]) (rest := [.int (nI be_9), .ref y1]) ⟨hx, hb, hml, hown, hts⟩ ((y_mixed l D k st lo r_15 x_13 x_14) H.size) ⟨va_cnB 3 hts (gLW tw_570) rfl rfl rfl (hZ.2.2.2.2.2.2.2.2.1.1 (RX2, 78, yX7_mixed, RX7) (List.mem_of_getElem? (i := 6) rfl)) (hts _ tw_79) (by decide +kernel) ⟨Nat.le_of_ble_eq_true rfl, Nat.le_of_ble_eq_true rfl⟩, hts _ tw_569, trivial⟩ (pS hS hAlo hlo hP hK (va_Dlo hD hAlo) hZ [] (by decide) rfl) rfl rfl hl.1 rfl (lv_room (Nat.le_of_ble_eq_true rfl)) dX2_meanOfRound_155 ⟨Nat.le_of_ble_eq_true rfl, Nat.le_of_ble_eq_true rfl⟩) hS hA hP (fun r_16 H locs hw_16 hP hS => ?_)
            try dsimp only at hw_16
            refine va_iast hx hb hK hP hD hS 1 1 rfl rfl (vp_in_nI (by omega) (by decide)) dX2_meanOfRound_158 (fun H locs hP hD hS => ?_)
            replace hP : va_P D classes [(y0, .inr (2, (fX2 y1 y2 y3 wt wc))), (aI k y1 25 (upd ya3_9 (Int32.toNatClampNeg (nI be_9)) r_16)), (aI k y2 25 yb3_9), (h0, .inr (5, (fX5 h1 h2 h3 h4))), (aI k h1 10 (vv n see tm g)), (aI k h2 24 ff), (aI k h3 24 fp), (aI k h4 4 fl), (u0, .inr (3, (fX3 u1 u2 rf (nI rc) (nI rr)))), (aI k u1 24 rs), (aI k u2 24 rb)] H := hP
            replace hD : va_D A [(y0, .inr (2, (fX2 y1 y2 y3 wt wc))), (aI k y1 25 (upd ya3_9 (Int32.toNatClampNeg (nI be_9)) r_16)), (aI k y2 25 yb3_9), (h0, .inr (5, (fX5 h1 h2 h3 h4))), (aI k h1 10 (vv n see tm g)), (aI k h2 24 ff), (aI k h3 24 fp), (aI k h4 4 fl), (u0, .inr (3, (fX3 u1 u2 rf (nI rc) (nI rr)))), (aI k u1 24 rs), (aI k u2 24 rb)] := hD
            rw [nI_clamp (n := be_9) (by omega)] at hP hD
            replace hP : va_P D classes [(y0, .inr (2, (fX2 y1 y2 y3 wt wc))), (aI k y1 25 (upd ya3_9 be_9 r_16)), (aI k y2 25 yb3_9), (h0, .inr (5, (fX5 h1 h2 h3 h4))), (aI k h1 10 (vv n see tm g)), (aI k h2 24 ff), (aI k h3 24 fp), (aI k h4 4 fl), (u0, .inr (3, (fX3 u1 u2 rf (nI rc) (nI rr)))), (aI k u1 24 rs), (aI k u2 24 rb)] H := hP
            replace hD : va_D A [(y0, .inr (2, (fX2 y1 y2 y3 wt wc))), (aI k y1 25 (upd ya3_9 be_9 r_16)), (aI k y2 25 yb3_9), (h0, .inr (5, (fX5 h1 h2 h3 h4))), (aI k h1 10 (vv n see tm g)), (aI k h2 24 ff), (aI k h3 24 fp), (aI k h4 4 fl), (u0, .inr (3, (fX3 u1 u2 rf (nI rc) (nI rr)))), (aI k u1 24 rs), (aI k u2 24 rb)] := hD
            refine lv_aload_n hx hb dX2_meanOfRound_159 rfl (lv_at hl 7 rfl) ?_
            refine va_get (D := D) (ci := 2) (v := .ref y2) (C := RX2) (T := TX2) (N := 5) hx hb hts inX2 hown hK hP 0 rfl rfl 1 (by decide) (hts _ tw_211) (fun _ h9 => h9) rfl dX2_meanOfRound_160 ?_
            refine lv_iload hx hb dX2_meanOfRound_163 (lv_at hl 3 rfl) ?_
            refine lv_aload_n hx hb dX2_meanOfRound_165 rfl (lv_at hl 8 rfl) ?_
            refine lv_iload hx hb dX2_meanOfRound_166 (lv_at hl 5 rfl) ?_
            refine lv_iconst (v := 0) hx hb dX2_meanOfRound_168 (by decide) ?_
            refine ro_i (D := D) (va_runV (As := [.int (nI q_7), .int 0]) (rest := [.int (nI be_9), .ref y2]) ⟨hx, hb, hml, hown, hts⟩ ((y_chanceOf l D k st lo h0 h1 h2 h3 h4 n see tm g ff q_7 0 (by first | assumption | omega)) H.size) (cwV 2 hts (gV tw_733 tw_565 tw_566 tw_81 tw_567) rfl rfl rfl (by decide +kernel) ⟨Nat.le_of_ble_eq_true rfl, Nat.le_of_ble_eq_true rfl⟩) (pV hS hAlo hlo hP hK (va_Dlo hD hAlo) hZ [3, 4, 5] (by decide) rfl (ci := 5) (q := (RX5, TX5, 4)) (q0 := 0) rfl rfl) rfl rfl hl.1 rfl (lv_room (Nat.le_of_ble_eq_true rfl)) dX2_meanOfRound_169 ⟨Nat.le_of_ble_eq_true rfl, Nat.le_of_ble_eq_true rfl⟩) hS hA hP (fun r_18 H locs hw_18 hP hS => ?_)
            try dsimp only at hw_18
            refine lv_iload hx hb dX2_meanOfRound_172 (lv_at hl 1 rfl) ?_
            refine lv_iload hx hb dX2_meanOfRound_174 (lv_at hl 0 rfl) ?_
            refine ro_i (D := D) (va_runSN (As := [.int r_18, .int x_13, .int x_14]) (rest := [.int (nI be_9), .ref y2]) ⟨hx, hb, hml, hown, hts⟩ ((y_mixed l D k st lo r_18 x_13 x_14) H.size) ⟨va_cnB 3 hts (gLW tw_570) rfl rfl rfl (hZ.2.2.2.2.2.2.2.2.1.1 (RX2, 78, yX7_mixed, RX7) (List.mem_of_getElem? (i := 6) rfl)) (hts _ tw_79) (by decide +kernel) ⟨Nat.le_of_ble_eq_true rfl, Nat.le_of_ble_eq_true rfl⟩, hts _ tw_569, trivial⟩ (pS hS hAlo hlo hP hK (va_Dlo hD hAlo) hZ [] (by decide) rfl) rfl rfl hl.1 rfl (lv_room (Nat.le_of_ble_eq_true rfl)) dX2_meanOfRound_176 ⟨Nat.le_of_ble_eq_true rfl, Nat.le_of_ble_eq_true rfl⟩) hS hA hP (fun r_19 H locs hw_19 hP hS => ?_)
            try dsimp only at hw_19
            refine va_iast hx hb hK hP hD hS 2 1 rfl rfl (vp_in_nI (by omega) (by decide)) dX2_meanOfRound_179 (fun H locs hP hD hS => ?_)
            replace hP : va_P D classes [(y0, .inr (2, (fX2 y1 y2 y3 wt wc))), (aI k y1 25 (upd ya3_9 be_9 r_16)), (aI k y2 25 (upd yb3_9 (Int32.toNatClampNeg (nI be_9)) r_19)), (h0, .inr (5, (fX5 h1 h2 h3 h4))), (aI k h1 10 (vv n see tm g)), (aI k h2 24 ff), (aI k h3 24 fp), (aI k h4 4 fl), (u0, .inr (3, (fX3 u1 u2 rf (nI rc) (nI rr)))), (aI k u1 24 rs), (aI k u2 24 rb)] H := hP
            replace hD : va_D A [(y0, .inr (2, (fX2 y1 y2 y3 wt wc))), (aI k y1 25 (upd ya3_9 be_9 r_16)), (aI k y2 25 (upd yb3_9 (Int32.toNatClampNeg (nI be_9)) r_19)), (h0, .inr (5, (fX5 h1 h2 h3 h4))), (aI k h1 10 (vv n see tm g)), (aI k h2 24 ff), (aI k h3 24 fp), (aI k h4 4 fl), (u0, .inr (3, (fX3 u1 u2 rf (nI rc) (nI rr)))), (aI k u1 24 rs), (aI k u2 24 rb)] := hD
            rw [nI_clamp (n := be_9) (by omega)] at hP hD
            replace hP : va_P D classes [(y0, .inr (2, (fX2 y1 y2 y3 wt wc))), (aI k y1 25 (upd ya3_9 be_9 r_16)), (aI k y2 25 (upd yb3_9 be_9 r_19)), (h0, .inr (5, (fX5 h1 h2 h3 h4))), (aI k h1 10 (vv n see tm g)), (aI k h2 24 ff), (aI k h3 24 fp), (aI k h4 4 fl), (u0, .inr (3, (fX3 u1 u2 rf (nI rc) (nI rr)))), (aI k u1 24 rs), (aI k u2 24 rb)] H := hP
            replace hD : va_D A [(y0, .inr (2, (fX2 y1 y2 y3 wt wc))), (aI k y1 25 (upd ya3_9 be_9 r_16)), (aI k y2 25 (upd yb3_9 be_9 r_19)), (h0, .inr (5, (fX5 h1 h2 h3 h4))), (aI k h1 10 (vv n see tm g)), (aI k h2 24 ff), (aI k h3 24 fp), (aI k h4 4 fl), (u0, .inr (3, (fX3 u1 u2 rf (nI rc) (nI rr)))), (aI k u1 24 rs), (aI k u2 24 rb)] := hD
            refine lv_iinc (v := (nI (be_9 + 1))) (lv' := [(9, .int (nI (be_9 + 1))), (12, .int x_14), (11, .int x_13), (10, .int 0), (8, .int r_8), (7, .int (nI q_7)), (6, .int 0), (0, .ref y0), (1, .ref h0), (2, .ref u0), (3, .int (nI wh)), (4, .int (nI rn)), (5, .int p4)]) hx hb dX2_meanOfRound_180 hl (k := 3) rfl (nI_add be_9 1) (by decide) rfl (fun ls hl => ?_)
            refine lv_goto (tgt := 77) hx hb dX2_meanOfRound_183 (by decide) ?_
            have ha_9 := mv_v (d := (sdX n see tm g ff fp)) (u := (ruX rf rc rr rs rb)) (wh := wh) (r := rn) (E := p4) (p := be_9) (a := 1) (show q_7 < n by omega) (show _ = pChance (sdX n see tm g ff fp) q_7 (nI 1) from hw_15.trans (xChance (show q_7 < n by omega) (okX hok9 (show q_7 < n by omega)))) (by rw [if_neg (show ¬ pBar (ruX rf rc rr rs rb) be_9 ≤ nI q_7 by rw [← hw_11]; exact Int32.not_le.mpr c_12), ← hps_5, ex_13]; exact congrArg (fun z => 0 + z) (hv_9.2.2.2.1 (be_9 + 1) (by omega) (by omega))) (by rw [← hps_5, ex_14]; exact congrArg (fun z => 0 + z) (hv_9.2.2.2.2 be_9 (by omega) (by omega))) (hw_16.trans (mix_same (by rw [hw_15, xChance (see := see) (tm := tm) (fp := fp) (show q_7 < n by omega) (okX hok9 (show q_7 < n by omega))]; exact pCh_in)))
            have hb_9 := mv_v (d := (sdX n see tm g ff fp)) (u := (ruX rf rc rr rs rb)) (wh := wh) (r := rn) (E := p4) (p := be_9) (a := 0) (show q_7 < n by omega) (show _ = pChance (sdX n see tm g ff fp) q_7 (nI 0) from hw_18.trans (xChance (show q_7 < n by omega) (okX hok9 (show q_7 < n by omega)))) (by rw [if_neg (show ¬ pBar (ruX rf rc rr rs rb) be_9 ≤ nI q_7 by rw [← hw_11]; exact Int32.not_le.mpr c_12), ← hps_5, ex_13]; exact congrArg (fun z => 0 + z) (hv_9.2.2.2.1 (be_9 + 1) (by omega) (by omega))) (by rw [← hps_5, ex_14]; exact congrArg (fun z => 0 + z) (hv_9.2.2.2.2 be_9 (by omega) (by omega))) (hw_19.trans (mix_same (by rw [hw_18, xChance (see := see) (tm := tm) (fp := fp) (show q_7 < n by omega) (okX hok9 (show q_7 < n by omega))]; exact pCh_in)))
            have hsa_9 := mv_st (i := q_7) hv_9.2.1 hv_9.2.2.2.1 ha_9
            have hsb_9 := mv_st (i := q_7) hv_9.2.2.1 hv_9.2.2.2.2 hb_9
            exact ih_9 _ (be_9 + 1, (upd ya3_9 be_9 r_16), (upd yb3_9 be_9 r_19)) _ _ _ (by omega) ⟨rfl, ⟨by omega, hsa_9.1, hsb_9.1, hsa_9.2, hsb_9.2⟩, hP, hD, hS, (lv_sub hl [0, 4, 5, 6, 7, 8, 9, 10, 11, 12] rfl)⟩
          · refine lv_iconst (v := 1) hx hb dX2_meanOfRound_95 (by decide) ?_
            refine lv_goto (tgt := 100) hx hb dX2_meanOfRound_96 (by decide) ?_
            refine lv_istore (lv' := [(10, .int 1), (9, .int (nI be_9)), (8, .int r_8), (7, .int (nI q_7)), (6, .int 0), (0, .ref y0), (1, .ref h0), (2, .ref u0), (3, .int (nI wh)), (4, .int (nI rn)), (5, .int p4)]) hx hb dX2_meanOfRound_100 hl (by decide) rfl (fun ls hl => ?_)
            refine lv_iload hx hb dX2_meanOfRound_102 (lv_at hl 0 rfl) ?_
            refine lv_if_eq (tgt := 112) hx hb dX2_meanOfRound_104 (by decide) (fun h => absurd h (by decide)) (fun _ => ?_)
            refine lv_iload hx hb dX2_meanOfRound_107 (lv_at hl 2 rfl) ?_
            refine lv_goto (tgt := 124) hx hb dX2_meanOfRound_109 (by decide) ?_
            refine lv_istore (lv' := [(11, .int r_8), (10, .int 1), (9, .int (nI be_9)), (8, .int r_8), (7, .int (nI q_7)), (6, .int 0), (0, .ref y0), (1, .ref h0), (2, .ref u0), (3, .int (nI wh)), (4, .int (nI rn)), (5, .int p4)]) hx hb dX2_meanOfRound_124 hl (by decide) rfl (fun ls hl => ?_)
            refine lv_iload hx hb dX2_meanOfRound_126 (lv_at hl 5 rfl) ?_
            refine lv_aload_n hx hb dX2_meanOfRound_128 rfl (lv_at hl 6 rfl) ?_
            refine va_get (D := D) (ci := 2) (v := .ref y2) (C := RX2) (T := TX2) (N := 5) hx hb hts inX2 hown hK hP 0 rfl rfl 1 (by decide) (hts _ tw_211) (fun _ h9 => h9) rfl dX2_meanOfRound_129 ?_
            refine lv_iload hx hb dX2_meanOfRound_132 (lv_at hl 2 rfl) ?_
            refine va_iald hx hb hK hP 2 1 rfl rfl (vp_in_nI (by omega) (by decide)) dX2_meanOfRound_134 ?_
            refine lv_ti (y := (yb3_9 be_9)) (by rw [nI_clamp (by omega)]) ?_
            refine lv_iadd hx hb dX2_meanOfRound_135 ?_
            refine lv_topi (fun x_21 ex_21 => ?_)
            refine lv_istore (lv' := [(12, .int x_21), (11, .int r_8), (10, .int 1), (9, .int (nI be_9)), (8, .int r_8), (7, .int (nI q_7)), (6, .int 0), (0, .ref y0), (1, .ref h0), (2, .ref u0), (3, .int (nI wh)), (4, .int (nI rn)), (5, .int p4)]) hx hb dX2_meanOfRound_136 hl (by decide) rfl (fun ls hl => ?_)
            refine lv_aload_n hx hb dX2_meanOfRound_138 rfl (lv_at hl 7 rfl) ?_
            refine va_get (D := D) (ci := 2) (v := .ref y1) (C := RX2) (T := TX2) (N := 5) hx hb hts inX2 hown hK hP 0 rfl rfl 0 (by decide) (hts _ tw_210) (fun _ h9 => h9) rfl dX2_meanOfRound_139 ?_
            refine lv_iload hx hb dX2_meanOfRound_142 (lv_at hl 3 rfl) ?_
            refine lv_aload_n hx hb dX2_meanOfRound_144 rfl (lv_at hl 8 rfl) ?_
            refine lv_iload hx hb dX2_meanOfRound_145 (lv_at hl 5 rfl) ?_
            refine lv_iconst (v := 1) hx hb dX2_meanOfRound_147 (by decide) ?_
            refine ro_i (D := D) (va_runV (As := [.int (nI q_7), .int 1]) (rest := [.int (nI be_9), .ref y1]) ⟨hx, hb, hml, hown, hts⟩ ((y_chanceOf l D k st lo h0 h1 h2 h3 h4 n see tm g ff q_7 1 (by first | assumption | omega)) H.size) (cwV 2 hts (gV tw_733 tw_565 tw_566 tw_81 tw_567) rfl rfl rfl (by decide +kernel) ⟨Nat.le_of_ble_eq_true rfl, Nat.le_of_ble_eq_true rfl⟩) (pV hS hAlo hlo hP hK (va_Dlo hD hAlo) hZ [3, 4, 5] (by decide) rfl (ci := 5) (q := (RX5, TX5, 4)) (q0 := 0) rfl rfl) rfl rfl hl.1 rfl (lv_room (Nat.le_of_ble_eq_true rfl)) dX2_meanOfRound_148 ⟨Nat.le_of_ble_eq_true rfl, Nat.le_of_ble_eq_true rfl⟩) hS hA hP (fun r_22 H locs hw_22 hP hS => ?_)
            try dsimp only at hw_22
            refine lv_iload hx hb dX2_meanOfRound_151 (lv_at hl 1 rfl) ?_
            refine lv_iload hx hb dX2_meanOfRound_153 (lv_at hl 0 rfl) ?_
            refine ro_i (D := D) (va_runSN (As := [.int r_22, .int r_8, .int x_21]) (rest := [.int (nI be_9), .ref y1]) ⟨hx, hb, hml, hown, hts⟩ ((y_mixed l D k st lo r_22 r_8 x_21) H.size) ⟨va_cnB 3 hts (gLW tw_570) rfl rfl rfl (hZ.2.2.2.2.2.2.2.2.1.1 (RX2, 78, yX7_mixed, RX7) (List.mem_of_getElem? (i := 6) rfl)) (hts _ tw_79) (by decide +kernel) ⟨Nat.le_of_ble_eq_true rfl, Nat.le_of_ble_eq_true rfl⟩, hts _ tw_569, trivial⟩ (pS hS hAlo hlo hP hK (va_Dlo hD hAlo) hZ [] (by decide) rfl) rfl rfl hl.1 rfl (lv_room (Nat.le_of_ble_eq_true rfl)) dX2_meanOfRound_155 ⟨Nat.le_of_ble_eq_true rfl, Nat.le_of_ble_eq_true rfl⟩) hS hA hP (fun r_23 H locs hw_23 hP hS => ?_)
            try dsimp only at hw_23
            refine va_iast hx hb hK hP hD hS 1 1 rfl rfl (vp_in_nI (by omega) (by decide)) dX2_meanOfRound_158 (fun H locs hP hD hS => ?_)
            replace hP : va_P D classes [(y0, .inr (2, (fX2 y1 y2 y3 wt wc))), (aI k y1 25 (upd ya3_9 (Int32.toNatClampNeg (nI be_9)) r_23)), (aI k y2 25 yb3_9), (h0, .inr (5, (fX5 h1 h2 h3 h4))), (aI k h1 10 (vv n see tm g)), (aI k h2 24 ff), (aI k h3 24 fp), (aI k h4 4 fl), (u0, .inr (3, (fX3 u1 u2 rf (nI rc) (nI rr)))), (aI k u1 24 rs), (aI k u2 24 rb)] H := hP
            replace hD : va_D A [(y0, .inr (2, (fX2 y1 y2 y3 wt wc))), (aI k y1 25 (upd ya3_9 (Int32.toNatClampNeg (nI be_9)) r_23)), (aI k y2 25 yb3_9), (h0, .inr (5, (fX5 h1 h2 h3 h4))), (aI k h1 10 (vv n see tm g)), (aI k h2 24 ff), (aI k h3 24 fp), (aI k h4 4 fl), (u0, .inr (3, (fX3 u1 u2 rf (nI rc) (nI rr)))), (aI k u1 24 rs), (aI k u2 24 rb)] := hD
            rw [nI_clamp (n := be_9) (by omega)] at hP hD
            replace hP : va_P D classes [(y0, .inr (2, (fX2 y1 y2 y3 wt wc))), (aI k y1 25 (upd ya3_9 be_9 r_23)), (aI k y2 25 yb3_9), (h0, .inr (5, (fX5 h1 h2 h3 h4))), (aI k h1 10 (vv n see tm g)), (aI k h2 24 ff), (aI k h3 24 fp), (aI k h4 4 fl), (u0, .inr (3, (fX3 u1 u2 rf (nI rc) (nI rr)))), (aI k u1 24 rs), (aI k u2 24 rb)] H := hP
            replace hD : va_D A [(y0, .inr (2, (fX2 y1 y2 y3 wt wc))), (aI k y1 25 (upd ya3_9 be_9 r_23)), (aI k y2 25 yb3_9), (h0, .inr (5, (fX5 h1 h2 h3 h4))), (aI k h1 10 (vv n see tm g)), (aI k h2 24 ff), (aI k h3 24 fp), (aI k h4 4 fl), (u0, .inr (3, (fX3 u1 u2 rf (nI rc) (nI rr)))), (aI k u1 24 rs), (aI k u2 24 rb)] := hD
            refine lv_aload_n hx hb dX2_meanOfRound_159 rfl (lv_at hl 7 rfl) ?_
            refine va_get (D := D) (ci := 2) (v := .ref y2) (C := RX2) (T := TX2) (N := 5) hx hb hts inX2 hown hK hP 0 rfl rfl 1 (by decide) (hts _ tw_211) (fun _ h9 => h9) rfl dX2_meanOfRound_160 ?_
            refine lv_iload hx hb dX2_meanOfRound_163 (lv_at hl 3 rfl) ?_
            refine lv_aload_n hx hb dX2_meanOfRound_165 rfl (lv_at hl 8 rfl) ?_
            refine lv_iload hx hb dX2_meanOfRound_166 (lv_at hl 5 rfl) ?_
            refine lv_iconst (v := 0) hx hb dX2_meanOfRound_168 (by decide) ?_
            refine ro_i (D := D) (va_runV (As := [.int (nI q_7), .int 0]) (rest := [.int (nI be_9), .ref y2]) ⟨hx, hb, hml, hown, hts⟩ ((y_chanceOf l D k st lo h0 h1 h2 h3 h4 n see tm g ff q_7 0 (by first | assumption | omega)) H.size) (cwV 2 hts (gV tw_733 tw_565 tw_566 tw_81 tw_567) rfl rfl rfl (by decide +kernel) ⟨Nat.le_of_ble_eq_true rfl, Nat.le_of_ble_eq_true rfl⟩) (pV hS hAlo hlo hP hK (va_Dlo hD hAlo) hZ [3, 4, 5] (by decide) rfl (ci := 5) (q := (RX5, TX5, 4)) (q0 := 0) rfl rfl) rfl rfl hl.1 rfl (lv_room (Nat.le_of_ble_eq_true rfl)) dX2_meanOfRound_169 ⟨Nat.le_of_ble_eq_true rfl, Nat.le_of_ble_eq_true rfl⟩) hS hA hP (fun r_25 H locs hw_25 hP hS => ?_)
            try dsimp only at hw_25
            refine lv_iload hx hb dX2_meanOfRound_172 (lv_at hl 1 rfl) ?_
            refine lv_iload hx hb dX2_meanOfRound_174 (lv_at hl 0 rfl) ?_
            refine ro_i (D := D) (va_runSN (As := [.int r_25, .int r_8, .int x_21]) (rest := [.int (nI be_9), .ref y2]) ⟨hx, hb, hml, hown, hts⟩ ((y_mixed l D k st lo r_25 r_8 x_21) H.size) ⟨va_cnB 3 hts (gLW tw_570) rfl rfl rfl (hZ.2.2.2.2.2.2.2.2.1.1 (RX2, 78, yX7_mixed, RX7) (List.mem_of_getElem? (i := 6) rfl)) (hts _ tw_79) (by decide +kernel) ⟨Nat.le_of_ble_eq_true rfl, Nat.le_of_ble_eq_true rfl⟩, hts _ tw_569, trivial⟩ (pS hS hAlo hlo hP hK (va_Dlo hD hAlo) hZ [] (by decide) rfl) rfl rfl hl.1 rfl (lv_room (Nat.le_of_ble_eq_true rfl)) dX2_meanOfRound_176 ⟨Nat.le_of_ble_eq_true rfl, Nat.le_of_ble_eq_true rfl⟩) hS hA hP (fun r_26 H locs hw_26 hP hS => ?_)
            try dsimp only at hw_26
            refine va_iast hx hb hK hP hD hS 2 1 rfl rfl (vp_in_nI (by omega) (by decide)) dX2_meanOfRound_179 (fun H locs hP hD hS => ?_)
            replace hP : va_P D classes [(y0, .inr (2, (fX2 y1 y2 y3 wt wc))), (aI k y1 25 (upd ya3_9 be_9 r_23)), (aI k y2 25 (upd yb3_9 (Int32.toNatClampNeg (nI be_9)) r_26)), (h0, .inr (5, (fX5 h1 h2 h3 h4))), (aI k h1 10 (vv n see tm g)), (aI k h2 24 ff), (aI k h3 24 fp), (aI k h4 4 fl), (u0, .inr (3, (fX3 u1 u2 rf (nI rc) (nI rr)))), (aI k u1 24 rs), (aI k u2 24 rb)] H := hP
            replace hD : va_D A [(y0, .inr (2, (fX2 y1 y2 y3 wt wc))), (aI k y1 25 (upd ya3_9 be_9 r_23)), (aI k y2 25 (upd yb3_9 (Int32.toNatClampNeg (nI be_9)) r_26)), (h0, .inr (5, (fX5 h1 h2 h3 h4))), (aI k h1 10 (vv n see tm g)), (aI k h2 24 ff), (aI k h3 24 fp), (aI k h4 4 fl), (u0, .inr (3, (fX3 u1 u2 rf (nI rc) (nI rr)))), (aI k u1 24 rs), (aI k u2 24 rb)] := hD
            rw [nI_clamp (n := be_9) (by omega)] at hP hD
            replace hP : va_P D classes [(y0, .inr (2, (fX2 y1 y2 y3 wt wc))), (aI k y1 25 (upd ya3_9 be_9 r_23)), (aI k y2 25 (upd yb3_9 be_9 r_26)), (h0, .inr (5, (fX5 h1 h2 h3 h4))), (aI k h1 10 (vv n see tm g)), (aI k h2 24 ff), (aI k h3 24 fp), (aI k h4 4 fl), (u0, .inr (3, (fX3 u1 u2 rf (nI rc) (nI rr)))), (aI k u1 24 rs), (aI k u2 24 rb)] H := hP
            replace hD : va_D A [(y0, .inr (2, (fX2 y1 y2 y3 wt wc))), (aI k y1 25 (upd ya3_9 be_9 r_23)), (aI k y2 25 (upd yb3_9 be_9 r_26)), (h0, .inr (5, (fX5 h1 h2 h3 h4))), (aI k h1 10 (vv n see tm g)), (aI k h2 24 ff), (aI k h3 24 fp), (aI k h4 4 fl), (u0, .inr (3, (fX3 u1 u2 rf (nI rc) (nI rr)))), (aI k u1 24 rs), (aI k u2 24 rb)] := hD
            refine lv_iinc (v := (nI (be_9 + 1))) (lv' := [(9, .int (nI (be_9 + 1))), (12, .int x_21), (11, .int r_8), (10, .int 1), (8, .int r_8), (7, .int (nI q_7)), (6, .int 0), (0, .ref y0), (1, .ref h0), (2, .ref u0), (3, .int (nI wh)), (4, .int (nI rn)), (5, .int p4)]) hx hb dX2_meanOfRound_180 hl (k := 3) rfl (nI_add be_9 1) (by decide) rfl (fun ls hl => ?_)
            refine lv_goto (tgt := 77) hx hb dX2_meanOfRound_183 (by decide) ?_
            have ha_9 := mv_v (d := (sdX n see tm g ff fp)) (u := (ruX rf rc rr rs rb)) (wh := wh) (r := rn) (E := p4) (p := be_9) (a := 1) (show q_7 < n by omega) (show _ = pChance (sdX n see tm g ff fp) q_7 (nI 1) from hw_22.trans (xChance (show q_7 < n by omega) (okX hok9 (show q_7 < n by omega)))) (by rw [if_pos (show pBar (ruX rf rc rr rs rb) be_9 ≤ nI q_7 by rw [← hw_11]; exact (Int32.not_lt.mp c_12))]; exact hw_8) (by rw [← hps_5, ex_21]; exact congrArg (fun z => 0 + z) (hv_9.2.2.2.2 be_9 (by omega) (by omega))) (hw_23.trans (mix_same (by rw [hw_22, xChance (see := see) (tm := tm) (fp := fp) (show q_7 < n by omega) (okX hok9 (show q_7 < n by omega))]; exact pCh_in)))
            have hb_9 := mv_v (d := (sdX n see tm g ff fp)) (u := (ruX rf rc rr rs rb)) (wh := wh) (r := rn) (E := p4) (p := be_9) (a := 0) (show q_7 < n by omega) (show _ = pChance (sdX n see tm g ff fp) q_7 (nI 0) from hw_25.trans (xChance (show q_7 < n by omega) (okX hok9 (show q_7 < n by omega)))) (by rw [if_pos (show pBar (ruX rf rc rr rs rb) be_9 ≤ nI q_7 by rw [← hw_11]; exact (Int32.not_lt.mp c_12))]; exact hw_8) (by rw [← hps_5, ex_21]; exact congrArg (fun z => 0 + z) (hv_9.2.2.2.2 be_9 (by omega) (by omega))) (hw_26.trans (mix_same (by rw [hw_25, xChance (see := see) (tm := tm) (fp := fp) (show q_7 < n by omega) (okX hok9 (show q_7 < n by omega))]; exact pCh_in)))
            have hsa_9 := mv_st (i := q_7) hv_9.2.1 hv_9.2.2.2.1 ha_9
            have hsb_9 := mv_st (i := q_7) hv_9.2.2.1 hv_9.2.2.2.2 hb_9
            exact ih_9 _ (be_9 + 1, (upd ya3_9 be_9 r_23), (upd yb3_9 be_9 r_26)) _ _ _ (by omega) ⟨rfl, ⟨by omega, hsa_9.1, hsb_9.1, hsa_9.2, hsb_9.2⟩, hP, hD, hS, (lv_sub hl [0, 4, 5, 6, 7, 8, 9, 10, 11, 12] rfl)⟩
    · have c_4 := (nI_eq (a := wh) (b := 0) (by omega) (by omega)).mp c_4
      refine lv_aload_n hx hb dX2_meanOfRound_40 rfl (lv_at hl 2 rfl) ?_
      refine ro_i (D := D) (va_runV (As := []) (rest := []) ⟨hx, hb, hml, hown, hts⟩ ((y_passing l D k st lo h0 h1 h2 h3 h4 n see tm g) H.size) (cwV 0 hts (gV tw_724 tw_573 tw_574 tw_81 tw_575) rfl rfl rfl (by decide +kernel) ⟨Nat.le_of_ble_eq_true rfl, Nat.le_of_ble_eq_true rfl⟩) (pV hS hAlo hlo hP hK (va_Dlo hD hAlo) hZ [3, 4] (by decide) rfl (ci := 5) (q := (RX5, TX5, 4)) (q0 := 0) rfl rfl) rfl rfl hl.1 rfl (lv_room (Nat.le_of_ble_eq_true rfl)) dX2_meanOfRound_41 ⟨Nat.le_of_ble_eq_true rfl, Nat.le_of_ble_eq_true rfl⟩) hS hA hP (fun r_28 H locs hw_28 hP hS => ?_)
      try dsimp only at hw_28
      refine lv_goto (tgt := 48) hx hb dX2_meanOfRound_44 (by decide) ?_
      have hps_29 : r_28 = pPs (sdX n see tm g ff fp) wh := by unfold pPs; rw [if_pos (by omega), hw_28]; exact xPass
      refine lv_istore (lv' := [(6, .int r_28), (0, .ref y0), (1, .ref h0), (2, .ref u0), (3, .int (nI wh)), (4, .int (nI rn)), (5, .int p4)]) hx hb dX2_meanOfRound_48 hl (by decide) rfl (fun ls hl => ?_)
      refine lv_aload_n hx hb dX2_meanOfRound_50 rfl (lv_at hl 2 rfl) ?_
      refine ro_i (D := D) (va_runV (As := []) (rest := []) ⟨hx, hb, hml, hown, hts⟩ ((x_doors l D k st lo h0 h1 h2 h3 h4 n see tm g) H.size) (cwV 0 hts (gV tw_723 tw_478 tw_479 tw_81 tw_480) rfl rfl rfl (by decide +kernel) ⟨Nat.le_of_ble_eq_true rfl, Nat.le_of_ble_eq_true rfl⟩) (pV hS hAlo hlo hP hK (va_Dlo hD hAlo) hZ [3, 4] (by decide) rfl (ci := 5) (q := (RX5, TX5, 4)) (q0 := 0) rfl rfl) rfl rfl hl.1 rfl (lv_room (Nat.le_of_ble_eq_true rfl)) dX2_meanOfRound_51 ⟨Nat.le_of_ble_eq_true rfl, Nat.le_of_ble_eq_true rfl⟩) hS hA hP (fun r_30 H locs hw_30 hP hS => ?_)
      try dsimp only at hw_30
      subst hw_30
      refine lv_iconst (v := 1) hx hb dX2_meanOfRound_54 (by decide) ?_
      refine lv_isub hx hb dX2_meanOfRound_55 ?_
      refine lv_ti (y := (nI n - 1)) rfl ?_
      refine lv_istore (lv' := [(7, .int (nI n - 1)), (6, .int r_28), (0, .ref y0), (1, .ref h0), (2, .ref u0), (3, .int (nI wh)), (4, .int (nI rn)), (5, .int p4)]) hx hb dX2_meanOfRound_56 hl (by decide) rfl (fun ls hl => ?_)
      refine W_loop (σ := Nat × (Nat → Int32) × (Nat → Int32)) (fun (n_ : Nat) (x_ : Nat × (Nat → Int32) × (Nat → Int32)) (H : Heap) (locs : List Loc) (ls : Array Slot) => match x_ with | (q_31, ya2_31, yb2_31) => n_ = 2 * q_31 ∧ (q_31 ≤ n ∧ (∀ b, b < q_31 + 1 → ya2_31 b = mV (sdX n see tm g ff fp) (ruX rf rc rr rs rb) wh rn p4 (n - q_31) b 1) ∧ (∀ b, b < q_31 + 1 → yb2_31 b = mV (sdX n see tm g ff fp) (ruX rf rc rr rs rb) wh rn p4 (n - q_31) b 0)) ∧ va_P D classes [(y0, .inr (2, (fX2 y1 y2 y3 wt wc))), (aI k y1 25 ya2_31), (aI k y2 25 yb2_31), (h0, .inr (5, (fX5 h1 h2 h3 h4))), (aI k h1 10 (vv n see tm g)), (aI k h2 24 ff), (aI k h3 24 fp), (aI k h4 4 fl), (u0, .inr (3, (fX3 u1 u2 rf (nI rc) (nI rr)))), (aI k u1 24 rs), (aI k u2 24 rb)] H ∧ va_D A [(y0, .inr (2, (fX2 y1 y2 y3 wt wc))), (aI k y1 25 ya2_31), (aI k y2 25 yb2_31), (h0, .inr (5, (fX5 h1 h2 h3 h4))), (aI k h1 10 (vv n see tm g)), (aI k h2 24 ff), (aI k h3 24 fp), (aI k h4 4 fl), (u0, .inr (3, (fX3 u1 u2 rf (nI rc) (nI rr)))), (aI k u1 24 rs), (aI k u2 24 rb)] ∧ va_S A s.heap H locs ∧ lv_has ls 13 [(7, .int (nI q_31 - 1)), (6, .int r_28), (0, .ref y0), (1, .ref h0), (2, .ref u0), (3, .int (nI wh)), (4, .int (nI rn)), (5, .int p4)]) (fun n_31 x_31 H locs ls hI ih_31 => ?_) _ (n, ya2_1, yb2_1) ⟨rfl, ⟨by omega, fun b hb => by rw [Nat.sub_self]; exact hv_1.2.1 b (by omega), fun b hb => by rw [Nat.sub_self]; exact hv_1.2.2 b (by omega)⟩, hP, hD, hS, (lv_sub hl [0, 1, 2, 3, 4, 5, 6, 7] rfl)⟩
      obtain ⟨q_31, ya2_31, yb2_31⟩ := x_31
      obtain ⟨hm_31, hv_31, hP, hD, hS, hl⟩ := hI
      subst hm_31
      rcases q_31 with _ | q_31
      · rw [dn0] at hl
        refine lv_iload hx hb dX2_meanOfRound_58 (lv_at hl 0 rfl) ?_
        refine lv_if_lt (tgt := 192) hx hb dX2_meanOfRound_60 (by decide) (fun _ => ?_) (fun h => absurd (by decide) h)
        refine lv_aload_n hx hb dX2_meanOfRound_192 rfl (lv_at hl 2 rfl) ?_
        refine va_get (D := D) (ci := 2) (v := .ref y2) (C := RX2) (T := TX2) (N := 5) hx hb hts inX2 hown hK hP 0 rfl rfl 1 (by decide) (hts _ tw_211) (fun _ h9 => h9) rfl dX2_meanOfRound_193 ?_
        refine lv_iconst (v := 0) hx hb dX2_meanOfRound_196 (by decide) ?_
        refine va_iald hx hb hK hP 2 1 rfl rfl (by unfold vp_in; decide) dX2_meanOfRound_197 ?_
        refine lv_ti (y := (yb2_31 0)) (by rfl) ?_
        have hP9 := hP.sub (ws' := [(y0, .inr (2, (fX2 y1 y2 y3 wt wc))), (aI k y1 25 ya2_31), (aI k y2 25 yb2_31), (h0, .inr (5, (fX5 h1 h2 h3 h4))), (aI k h1 10 (vv n see tm g)), (aI k h2 24 ff), (aI k h3 24 fp), (aI k h4 4 fl), (u0, .inr (3, (fX3 u1 u2 rf (nI rc) (nI rr)))), (aI k u1 24 rs), (aI k u2 24 rb)]) [0, 1, 2, 3, 4, 5, 6, 7, 8, 9, 10] rfl
        have hD9 := hD.sub (ws' := [(y0, .inr (2, (fX2 y1 y2 y3 wt wc))), (aI k y1 25 ya2_31), (aI k y2 25 yb2_31), (h0, .inr (5, (fX5 h1 h2 h3 h4))), (aI k h1 10 (vv n see tm g)), (aI k h2 24 ff), (aI k h3 24 fp), (aI k h4 4 fl), (u0, .inr (3, (fX3 u1 u2 rf (nI rc) (nI rr)))), (aI k u1 24 rs), (aI k u2 24 rb)]) [0, 1, 2, 3, 4, 5, 6, 7, 8, 9, 10] (by decide +kernel) rfl
        exact W.iret (v := (yb2_31 0)) hx hb hr (fun t ht hW => ⟨⟨(yb2_31 0), (ya2_31, yb2_31), rfl, hv_31.2.2 0 (by omega), by rw [ht]; exact hP9, hD9⟩, hS.F ht⟩) hS.2.2 dX2_meanOfRound_198
      · rw [nI_pred] at hl
        refine lv_iload hx hb dX2_meanOfRound_58 (lv_at hl 0 rfl) ?_
        refine lv_if_lt (tgt := 192) hx hb dX2_meanOfRound_60 (by decide) (fun h => absurd h (nI_pos0 (by omega))) (fun _ => ?_)
        refine lv_aload_n hx hb dX2_meanOfRound_63 rfl (lv_at hl 3 rfl) ?_
        refine lv_iload hx hb dX2_meanOfRound_64 (lv_at hl 6 rfl) ?_
        refine lv_iload hx hb dX2_meanOfRound_66 (lv_at hl 0 rfl) ?_
        refine lv_iload_n hx hb dX2_meanOfRound_68 rfl (lv_at hl 5 rfl) ?_
        refine ro_i (D := D) (va_runS (As := [.ref h0, .int (nI rn), .int (nI q_31), .int (nI wh)]) (rest := []) ⟨hx, hb, hml, hown, hts⟩ ((y_doorShare l D k st lo h0 h1 h2 h3 h4 n see tm g ff fp fl rn q_31 wh (by first | assumption | omega) (by first | assumption | omega) (by first | assumption | omega) (by first | assumption | omega) hl9) H.size) (va_cwS 4 hts (gS tw_725 tw_726 tw_83 tw_727) rfl rfl rfl (by decide +kernel) ⟨Nat.le_of_ble_eq_true rfl, Nat.le_of_ble_eq_true rfl⟩) (pS hS hAlo hlo hP hK (va_Dlo hD hAlo) hZ [3, 4, 5, 6, 7] (by decide) rfl) rfl rfl hl.1 rfl (lv_room (Nat.le_of_ble_eq_true rfl)) dX2_meanOfRound_69 ⟨Nat.le_of_ble_eq_true rfl, Nat.le_of_ble_eq_true rfl⟩) hS hA hP (fun r_32 H locs hw_32 hP hS => ?_)
        try dsimp only at hw_32
        refine lv_istore (lv' := [(8, .int r_32), (7, .int (nI q_31)), (6, .int r_28), (0, .ref y0), (1, .ref h0), (2, .ref u0), (3, .int (nI wh)), (4, .int (nI rn)), (5, .int p4)]) hx hb dX2_meanOfRound_72 hl (by decide) rfl (fun ls hl => ?_)
        refine lv_iconst (v := 0) hx hb dX2_meanOfRound_74 (by decide) ?_
        refine lv_istore (lv' := [(9, .int 0), (8, .int r_32), (7, .int (nI q_31)), (6, .int r_28), (0, .ref y0), (1, .ref h0), (2, .ref u0), (3, .int (nI wh)), (4, .int (nI rn)), (5, .int p4)]) hx hb dX2_meanOfRound_75 hl (by decide) rfl (fun ls hl => ?_)
        refine W_loop (σ := Nat × (Nat → Int32) × (Nat → Int32)) (fun (n_ : Nat) (x_ : Nat × (Nat → Int32) × (Nat → Int32)) (H : Heap) (locs : List Loc) (ls : Array Slot) => match x_ with | (be_33, ya3_33, yb3_33) => n_ = q_31 + 1 - be_33 ∧ (be_33 ≤ q_31 + 1 ∧ (∀ b, b < be_33 → ya3_33 b = mV (sdX n see tm g ff fp) (ruX rf rc rr rs rb) wh rn p4 (n - q_31) b 1) ∧ (∀ b, b < be_33 → yb3_33 b = mV (sdX n see tm g ff fp) (ruX rf rc rr rs rb) wh rn p4 (n - q_31) b 0) ∧ (∀ b, be_33 ≤ b → b < q_31 + 2 → ya3_33 b = mV (sdX n see tm g ff fp) (ruX rf rc rr rs rb) wh rn p4 (n - (q_31 + 1)) b 1) ∧ (∀ b, be_33 ≤ b → b < q_31 + 2 → yb3_33 b = mV (sdX n see tm g ff fp) (ruX rf rc rr rs rb) wh rn p4 (n - (q_31 + 1)) b 0)) ∧ va_P D classes [(y0, .inr (2, (fX2 y1 y2 y3 wt wc))), (aI k y1 25 ya3_33), (aI k y2 25 yb3_33), (h0, .inr (5, (fX5 h1 h2 h3 h4))), (aI k h1 10 (vv n see tm g)), (aI k h2 24 ff), (aI k h3 24 fp), (aI k h4 4 fl), (u0, .inr (3, (fX3 u1 u2 rf (nI rc) (nI rr)))), (aI k u1 24 rs), (aI k u2 24 rb)] H ∧ va_D A [(y0, .inr (2, (fX2 y1 y2 y3 wt wc))), (aI k y1 25 ya3_33), (aI k y2 25 yb3_33), (h0, .inr (5, (fX5 h1 h2 h3 h4))), (aI k h1 10 (vv n see tm g)), (aI k h2 24 ff), (aI k h3 24 fp), (aI k h4 4 fl), (u0, .inr (3, (fX3 u1 u2 rf (nI rc) (nI rr)))), (aI k u1 24 rs), (aI k u2 24 rb)] ∧ va_S A s.heap H locs ∧ lv_has ls 13 [(9, .int (nI be_33)), (8, .int r_32), (7, .int (nI q_31)), (6, .int r_28), (0, .ref y0), (1, .ref h0), (2, .ref u0), (3, .int (nI wh)), (4, .int (nI rn)), (5, .int p4)]) (fun n_33 x_33 H locs ls hI ih_33 => ?_) _ (0, ya2_31, yb2_31) ⟨rfl, ⟨by omega, fun b h => absurd h (Nat.not_lt_zero b), fun b h => absurd h (Nat.not_lt_zero b), fun b _ h => hv_31.2.1 b (by omega), fun b _ h => hv_31.2.2 b (by omega)⟩, hP, hD, hS, (lv_sub hl [0, 1, 2, 3, 4, 5, 6, 7, 8, 9] rfl)⟩
        obtain ⟨be_33, ya3_33, yb3_33⟩ := x_33
        obtain ⟨hm_33, hv_33, hP, hD, hS, hl⟩ := hI
        subst hm_33
        refine lv_iload hx hb dX2_meanOfRound_77 (lv_at hl 0 rfl) ?_
        refine lv_iload hx hb dX2_meanOfRound_79 (lv_at hl 2 rfl) ?_
        refine lv_icmp_gt (tgt := 186) hx hb dX2_meanOfRound_81 (by decide) (fun c_34 => ?_) (fun c_34 => ?_)
        · have c_34 := (nI_ltI (a := q_31) (b := be_33) (by omega) (by omega)).mp c_34
          refine lv_iinc (v := (nI q_31 - 1)) (lv' := [(7, .int (nI q_31 - 1)), (9, .int (nI be_33)), (8, .int r_32), (6, .int r_28), (0, .ref y0), (1, .ref h0), (2, .ref u0), (3, .int (nI wh)), (4, .int (nI rn)), (5, .int p4)]) hx hb dX2_meanOfRound_186 hl (k := 2) rfl (dn1 _) (by decide) rfl (fun ls hl => ?_)
          refine lv_goto (tgt := 58) hx hb dX2_meanOfRound_189 (by decide) ?_
          exact ih_31 _ (q_31, ya3_33, yb3_33) _ _ _ (by omega) ⟨rfl, ⟨by omega, fun b hb => hv_33.2.1 b (by omega), fun b hb => hv_33.2.2.1 b (by omega)⟩, hP, hD, hS, (lv_sub hl [0, 3, 4, 5, 6, 7, 8, 9] rfl)⟩
        · have c_34 : ¬ (q_31 < be_33) := fun h => c_34 ((nI_ltI (a := q_31) (b := be_33) (by omega) (by omega)).mpr h)
          refine lv_iload hx hb dX2_meanOfRound_84 (lv_at hl 2 rfl) ?_
          refine lv_aload_n hx hb dX2_meanOfRound_86 rfl (lv_at hl 6 rfl) ?_
          refine lv_iload hx hb dX2_meanOfRound_87 (lv_at hl 0 rfl) ?_
          refine ro_i (D := D) (va_runV (As := [.int (nI be_33)]) (rest := [.int (nI q_31)]) ⟨hx, hb, hml, hown, hts⟩ ((y_barAfter l D k st lo u0 u1 u2 rf rc rr rs rb be_33 (by first | assumption | omega)) H.size) (cwV 1 hts (gV tw_729 tw_730 tw_731 tw_86 tw_732) rfl rfl rfl (by decide +kernel) ⟨Nat.le_of_ble_eq_true rfl, Nat.le_of_ble_eq_true rfl⟩) (pV hS hAlo hlo hP hK (va_Dlo hD hAlo) hZ [8, 9, 10] (by decide) rfl (ci := 3) (q := (RX3, TX3, 5)) (q0 := 0) rfl rfl) rfl rfl hl.1 rfl (lv_room (Nat.le_of_ble_eq_true rfl)) dX2_meanOfRound_89 ⟨Nat.le_of_ble_eq_true rfl, Nat.le_of_ble_eq_true rfl⟩) hS hA hP (fun r_35 H locs hw_35 hP hS => ?_)
          try dsimp only at hw_35
          refine lv_icmp_lt (tgt := 99) hx hb dX2_meanOfRound_92 (by decide) (fun c_36 => ?_) (fun c_36 => ?_)
          · refine lv_iconst (v := 0) hx hb dX2_meanOfRound_99 (by decide) ?_
            refine lv_istore (lv' := [(10, .int 0), (9, .int (nI be_33)), (8, .int r_32), (7, .int (nI q_31)), (6, .int r_28), (0, .ref y0), (1, .ref h0), (2, .ref u0), (3, .int (nI wh)), (4, .int (nI rn)), (5, .int p4)]) hx hb dX2_meanOfRound_100 hl (by decide) rfl (fun ls hl => ?_)
            refine lv_iload hx hb dX2_meanOfRound_102 (lv_at hl 0 rfl) ?_
            refine lv_if_eq (tgt := 112) hx hb dX2_meanOfRound_104 (by decide) (fun _ => ?_) (fun h => absurd (by decide) h)
            refine lv_iload hx hb dX2_meanOfRound_112 (lv_at hl 4 rfl) ?_
            refine lv_aload_n hx hb dX2_meanOfRound_114 rfl (lv_at hl 5 rfl) ?_
            refine va_get (D := D) (ci := 2) (v := .ref y1) (C := RX2) (T := TX2) (N := 5) hx hb hts inX2 hown hK hP 0 rfl rfl 0 (by decide) (hts _ tw_210) (fun _ h9 => h9) rfl dX2_meanOfRound_115 ?_
            refine lv_iload hx hb dX2_meanOfRound_118 (lv_at hl 1 rfl) ?_
            refine lv_iconst (v := 1) hx hb dX2_meanOfRound_120 (by decide) ?_
            refine lv_iadd hx hb dX2_meanOfRound_121 ?_
            refine lv_ti (y := (nI (be_33 + 1))) (nI_add be_33 1) ?_
            refine va_iald hx hb hK hP 1 1 rfl rfl (vp_in_nI (by omega) (by decide)) dX2_meanOfRound_122 ?_
            refine lv_ti (y := (ya3_33 (be_33 + 1))) (by rw [nI_clamp (by omega)]) ?_
            refine lv_iadd hx hb dX2_meanOfRound_123 ?_
            refine lv_topi (fun x_37 ex_37 => ?_)
            refine lv_istore (lv' := [(11, .int x_37), (10, .int 0), (9, .int (nI be_33)), (8, .int r_32), (7, .int (nI q_31)), (6, .int r_28), (0, .ref y0), (1, .ref h0), (2, .ref u0), (3, .int (nI wh)), (4, .int (nI rn)), (5, .int p4)]) hx hb dX2_meanOfRound_124 hl (by decide) rfl (fun ls hl => ?_)
            refine lv_iload hx hb dX2_meanOfRound_126 (lv_at hl 5 rfl) ?_
            refine lv_aload_n hx hb dX2_meanOfRound_128 rfl (lv_at hl 6 rfl) ?_
            refine va_get (D := D) (ci := 2) (v := .ref y2) (C := RX2) (T := TX2) (N := 5) hx hb hts inX2 hown hK hP 0 rfl rfl 1 (by decide) (hts _ tw_211) (fun _ h9 => h9) rfl dX2_meanOfRound_129 ?_
            refine lv_iload hx hb dX2_meanOfRound_132 (lv_at hl 2 rfl) ?_
            refine va_iald hx hb hK hP 2 1 rfl rfl (vp_in_nI (by omega) (by decide)) dX2_meanOfRound_134 ?_
            refine lv_ti (y := (yb3_33 be_33)) (by rw [nI_clamp (by omega)]) ?_
            refine lv_iadd hx hb dX2_meanOfRound_135 ?_
            refine lv_topi (fun x_38 ex_38 => ?_)
            refine lv_istore (lv' := [(12, .int x_38), (11, .int x_37), (10, .int 0), (9, .int (nI be_33)), (8, .int r_32), (7, .int (nI q_31)), (6, .int r_28), (0, .ref y0), (1, .ref h0), (2, .ref u0), (3, .int (nI wh)), (4, .int (nI rn)), (5, .int p4)]) hx hb dX2_meanOfRound_136 hl (by decide) rfl (fun ls hl => ?_)
            refine lv_aload_n hx hb dX2_meanOfRound_138 rfl (lv_at hl 7 rfl) ?_
            refine va_get (D := D) (ci := 2) (v := .ref y1) (C := RX2) (T := TX2) (N := 5) hx hb hts inX2 hown hK hP 0 rfl rfl 0 (by decide) (hts _ tw_210) (fun _ h9 => h9) rfl dX2_meanOfRound_139 ?_
            refine lv_iload hx hb dX2_meanOfRound_142 (lv_at hl 3 rfl) ?_
            refine lv_aload_n hx hb dX2_meanOfRound_144 rfl (lv_at hl 8 rfl) ?_
            refine lv_iload hx hb dX2_meanOfRound_145 (lv_at hl 5 rfl) ?_
            refine lv_iconst (v := 1) hx hb dX2_meanOfRound_147 (by decide) ?_
            refine ro_i (D := D) (va_runV (As := [.int (nI q_31), .int 1]) (rest := [.int (nI be_33), .ref y1]) ⟨hx, hb, hml, hown, hts⟩ ((y_chanceOf l D k st lo h0 h1 h2 h3 h4 n see tm g ff q_31 1 (by first | assumption | omega)) H.size) (cwV 2 hts (gV tw_733 tw_565 tw_566 tw_81 tw_567) rfl rfl rfl (by decide +kernel) ⟨Nat.le_of_ble_eq_true rfl, Nat.le_of_ble_eq_true rfl⟩) (pV hS hAlo hlo hP hK (va_Dlo hD hAlo) hZ [3, 4, 5] (by decide) rfl (ci := 5) (q := (RX5, TX5, 4)) (q0 := 0) rfl rfl) rfl rfl hl.1 rfl (lv_room (Nat.le_of_ble_eq_true rfl)) dX2_meanOfRound_148 ⟨Nat.le_of_ble_eq_true rfl, Nat.le_of_ble_eq_true rfl⟩) hS hA hP (fun r_39 H locs hw_39 hP hS => ?_)
            try dsimp only at hw_39
            refine lv_iload hx hb dX2_meanOfRound_151 (lv_at hl 1 rfl) ?_
            refine lv_iload hx hb dX2_meanOfRound_153 (lv_at hl 0 rfl) ?_
            refine ro_i (D := D) (va_runSN (As := [.int r_39, .int x_37, .int x_38]) (rest := [.int (nI be_33), .ref y1]) ⟨hx, hb, hml, hown, hts⟩ ((y_mixed l D k st lo r_39 x_37 x_38) H.size) ⟨va_cnB 3 hts (gLW tw_570) rfl rfl rfl (hZ.2.2.2.2.2.2.2.2.1.1 (RX2, 78, yX7_mixed, RX7) (List.mem_of_getElem? (i := 6) rfl)) (hts _ tw_79) (by decide +kernel) ⟨Nat.le_of_ble_eq_true rfl, Nat.le_of_ble_eq_true rfl⟩, hts _ tw_569, trivial⟩ (pS hS hAlo hlo hP hK (va_Dlo hD hAlo) hZ [] (by decide) rfl) rfl rfl hl.1 rfl (lv_room (Nat.le_of_ble_eq_true rfl)) dX2_meanOfRound_155 ⟨Nat.le_of_ble_eq_true rfl, Nat.le_of_ble_eq_true rfl⟩) hS hA hP (fun r_40 H locs hw_40 hP hS => ?_)
            try dsimp only at hw_40
            refine va_iast hx hb hK hP hD hS 1 1 rfl rfl (vp_in_nI (by omega) (by decide)) dX2_meanOfRound_158 (fun H locs hP hD hS => ?_)
            replace hP : va_P D classes [(y0, .inr (2, (fX2 y1 y2 y3 wt wc))), (aI k y1 25 (upd ya3_33 (Int32.toNatClampNeg (nI be_33)) r_40)), (aI k y2 25 yb3_33), (h0, .inr (5, (fX5 h1 h2 h3 h4))), (aI k h1 10 (vv n see tm g)), (aI k h2 24 ff), (aI k h3 24 fp), (aI k h4 4 fl), (u0, .inr (3, (fX3 u1 u2 rf (nI rc) (nI rr)))), (aI k u1 24 rs), (aI k u2 24 rb)] H := hP
            replace hD : va_D A [(y0, .inr (2, (fX2 y1 y2 y3 wt wc))), (aI k y1 25 (upd ya3_33 (Int32.toNatClampNeg (nI be_33)) r_40)), (aI k y2 25 yb3_33), (h0, .inr (5, (fX5 h1 h2 h3 h4))), (aI k h1 10 (vv n see tm g)), (aI k h2 24 ff), (aI k h3 24 fp), (aI k h4 4 fl), (u0, .inr (3, (fX3 u1 u2 rf (nI rc) (nI rr)))), (aI k u1 24 rs), (aI k u2 24 rb)] := hD
            rw [nI_clamp (n := be_33) (by omega)] at hP hD
            replace hP : va_P D classes [(y0, .inr (2, (fX2 y1 y2 y3 wt wc))), (aI k y1 25 (upd ya3_33 be_33 r_40)), (aI k y2 25 yb3_33), (h0, .inr (5, (fX5 h1 h2 h3 h4))), (aI k h1 10 (vv n see tm g)), (aI k h2 24 ff), (aI k h3 24 fp), (aI k h4 4 fl), (u0, .inr (3, (fX3 u1 u2 rf (nI rc) (nI rr)))), (aI k u1 24 rs), (aI k u2 24 rb)] H := hP
            replace hD : va_D A [(y0, .inr (2, (fX2 y1 y2 y3 wt wc))), (aI k y1 25 (upd ya3_33 be_33 r_40)), (aI k y2 25 yb3_33), (h0, .inr (5, (fX5 h1 h2 h3 h4))), (aI k h1 10 (vv n see tm g)), (aI k h2 24 ff), (aI k h3 24 fp), (aI k h4 4 fl), (u0, .inr (3, (fX3 u1 u2 rf (nI rc) (nI rr)))), (aI k u1 24 rs), (aI k u2 24 rb)] := hD
            refine lv_aload_n hx hb dX2_meanOfRound_159 rfl (lv_at hl 7 rfl) ?_
            refine va_get (D := D) (ci := 2) (v := .ref y2) (C := RX2) (T := TX2) (N := 5) hx hb hts inX2 hown hK hP 0 rfl rfl 1 (by decide) (hts _ tw_211) (fun _ h9 => h9) rfl dX2_meanOfRound_160 ?_
            refine lv_iload hx hb dX2_meanOfRound_163 (lv_at hl 3 rfl) ?_
            refine lv_aload_n hx hb dX2_meanOfRound_165 rfl (lv_at hl 8 rfl) ?_
            refine lv_iload hx hb dX2_meanOfRound_166 (lv_at hl 5 rfl) ?_
            refine lv_iconst (v := 0) hx hb dX2_meanOfRound_168 (by decide) ?_
            refine ro_i (D := D) (va_runV (As := [.int (nI q_31), .int 0]) (rest := [.int (nI be_33), .ref y2]) ⟨hx, hb, hml, hown, hts⟩ ((y_chanceOf l D k st lo h0 h1 h2 h3 h4 n see tm g ff q_31 0 (by first | assumption | omega)) H.size) (cwV 2 hts (gV tw_733 tw_565 tw_566 tw_81 tw_567) rfl rfl rfl (by decide +kernel) ⟨Nat.le_of_ble_eq_true rfl, Nat.le_of_ble_eq_true rfl⟩) (pV hS hAlo hlo hP hK (va_Dlo hD hAlo) hZ [3, 4, 5] (by decide) rfl (ci := 5) (q := (RX5, TX5, 4)) (q0 := 0) rfl rfl) rfl rfl hl.1 rfl (lv_room (Nat.le_of_ble_eq_true rfl)) dX2_meanOfRound_169 ⟨Nat.le_of_ble_eq_true rfl, Nat.le_of_ble_eq_true rfl⟩) hS hA hP (fun r_42 H locs hw_42 hP hS => ?_)
            try dsimp only at hw_42
            refine lv_iload hx hb dX2_meanOfRound_172 (lv_at hl 1 rfl) ?_
            refine lv_iload hx hb dX2_meanOfRound_174 (lv_at hl 0 rfl) ?_
            refine ro_i (D := D) (va_runSN (As := [.int r_42, .int x_37, .int x_38]) (rest := [.int (nI be_33), .ref y2]) ⟨hx, hb, hml, hown, hts⟩ ((y_mixed l D k st lo r_42 x_37 x_38) H.size) ⟨va_cnB 3 hts (gLW tw_570) rfl rfl rfl (hZ.2.2.2.2.2.2.2.2.1.1 (RX2, 78, yX7_mixed, RX7) (List.mem_of_getElem? (i := 6) rfl)) (hts _ tw_79) (by decide +kernel) ⟨Nat.le_of_ble_eq_true rfl, Nat.le_of_ble_eq_true rfl⟩, hts _ tw_569, trivial⟩ (pS hS hAlo hlo hP hK (va_Dlo hD hAlo) hZ [] (by decide) rfl) rfl rfl hl.1 rfl (lv_room (Nat.le_of_ble_eq_true rfl)) dX2_meanOfRound_176 ⟨Nat.le_of_ble_eq_true rfl, Nat.le_of_ble_eq_true rfl⟩) hS hA hP (fun r_43 H locs hw_43 hP hS => ?_)
            try dsimp only at hw_43
            refine va_iast hx hb hK hP hD hS 2 1 rfl rfl (vp_in_nI (by omega) (by decide)) dX2_meanOfRound_179 (fun H locs hP hD hS => ?_)
            replace hP : va_P D classes [(y0, .inr (2, (fX2 y1 y2 y3 wt wc))), (aI k y1 25 (upd ya3_33 be_33 r_40)), (aI k y2 25 (upd yb3_33 (Int32.toNatClampNeg (nI be_33)) r_43)), (h0, .inr (5, (fX5 h1 h2 h3 h4))), (aI k h1 10 (vv n see tm g)), (aI k h2 24 ff), (aI k h3 24 fp), (aI k h4 4 fl), (u0, .inr (3, (fX3 u1 u2 rf (nI rc) (nI rr)))), (aI k u1 24 rs), (aI k u2 24 rb)] H := hP
            replace hD : va_D A [(y0, .inr (2, (fX2 y1 y2 y3 wt wc))), (aI k y1 25 (upd ya3_33 be_33 r_40)), (aI k y2 25 (upd yb3_33 (Int32.toNatClampNeg (nI be_33)) r_43)), (h0, .inr (5, (fX5 h1 h2 h3 h4))), (aI k h1 10 (vv n see tm g)), (aI k h2 24 ff), (aI k h3 24 fp), (aI k h4 4 fl), (u0, .inr (3, (fX3 u1 u2 rf (nI rc) (nI rr)))), (aI k u1 24 rs), (aI k u2 24 rb)] := hD
            rw [nI_clamp (n := be_33) (by omega)] at hP hD
            replace hP : va_P D classes [(y0, .inr (2, (fX2 y1 y2 y3 wt wc))), (aI k y1 25 (upd ya3_33 be_33 r_40)), (aI k y2 25 (upd yb3_33 be_33 r_43)), (h0, .inr (5, (fX5 h1 h2 h3 h4))), (aI k h1 10 (vv n see tm g)), (aI k h2 24 ff), (aI k h3 24 fp), (aI k h4 4 fl), (u0, .inr (3, (fX3 u1 u2 rf (nI rc) (nI rr)))), (aI k u1 24 rs), (aI k u2 24 rb)] H := hP
            replace hD : va_D A [(y0, .inr (2, (fX2 y1 y2 y3 wt wc))), (aI k y1 25 (upd ya3_33 be_33 r_40)), (aI k y2 25 (upd yb3_33 be_33 r_43)), (h0, .inr (5, (fX5 h1 h2 h3 h4))), (aI k h1 10 (vv n see tm g)), (aI k h2 24 ff), (aI k h3 24 fp), (aI k h4 4 fl), (u0, .inr (3, (fX3 u1 u2 rf (nI rc) (nI rr)))), (aI k u1 24 rs), (aI k u2 24 rb)] := hD
            refine lv_iinc (v := (nI (be_33 + 1))) (lv' := [(9, .int (nI (be_33 + 1))), (12, .int x_38), (11, .int x_37), (10, .int 0), (8, .int r_32), (7, .int (nI q_31)), (6, .int r_28), (0, .ref y0), (1, .ref h0), (2, .ref u0), (3, .int (nI wh)), (4, .int (nI rn)), (5, .int p4)]) hx hb dX2_meanOfRound_180 hl (k := 3) rfl (nI_add be_33 1) (by decide) rfl (fun ls hl => ?_)
            refine lv_goto (tgt := 77) hx hb dX2_meanOfRound_183 (by decide) ?_
            have ha_33 := mv_v (d := (sdX n see tm g ff fp)) (u := (ruX rf rc rr rs rb)) (wh := wh) (r := rn) (E := p4) (p := be_33) (a := 1) (show q_31 < n by omega) (show _ = pChance (sdX n see tm g ff fp) q_31 (nI 1) from hw_39.trans (xChance (show q_31 < n by omega) (okX hok9 (show q_31 < n by omega)))) (by rw [if_neg (show ¬ pBar (ruX rf rc rr rs rb) be_33 ≤ nI q_31 by rw [← hw_35]; exact Int32.not_le.mpr c_36), ← hps_29, ex_37]; exact congrArg (fun z => r_28 + z) (hv_33.2.2.2.1 (be_33 + 1) (by omega) (by omega))) (by rw [← hps_29, ex_38]; exact congrArg (fun z => r_28 + z) (hv_33.2.2.2.2 be_33 (by omega) (by omega))) (hw_40.trans (mix_same (by rw [hw_39, xChance (see := see) (tm := tm) (fp := fp) (show q_31 < n by omega) (okX hok9 (show q_31 < n by omega))]; exact pCh_in)))
            have hb_33 := mv_v (d := (sdX n see tm g ff fp)) (u := (ruX rf rc rr rs rb)) (wh := wh) (r := rn) (E := p4) (p := be_33) (a := 0) (show q_31 < n by omega) (show _ = pChance (sdX n see tm g ff fp) q_31 (nI 0) from hw_42.trans (xChance (show q_31 < n by omega) (okX hok9 (show q_31 < n by omega)))) (by rw [if_neg (show ¬ pBar (ruX rf rc rr rs rb) be_33 ≤ nI q_31 by rw [← hw_35]; exact Int32.not_le.mpr c_36), ← hps_29, ex_37]; exact congrArg (fun z => r_28 + z) (hv_33.2.2.2.1 (be_33 + 1) (by omega) (by omega))) (by rw [← hps_29, ex_38]; exact congrArg (fun z => r_28 + z) (hv_33.2.2.2.2 be_33 (by omega) (by omega))) (hw_43.trans (mix_same (by rw [hw_42, xChance (see := see) (tm := tm) (fp := fp) (show q_31 < n by omega) (okX hok9 (show q_31 < n by omega))]; exact pCh_in)))
            have hsa_33 := mv_st (i := q_31) hv_33.2.1 hv_33.2.2.2.1 ha_33
            have hsb_33 := mv_st (i := q_31) hv_33.2.2.1 hv_33.2.2.2.2 hb_33
            exact ih_33 _ (be_33 + 1, (upd ya3_33 be_33 r_40), (upd yb3_33 be_33 r_43)) _ _ _ (by omega) ⟨rfl, ⟨by omega, hsa_33.1, hsb_33.1, hsa_33.2, hsb_33.2⟩, hP, hD, hS, (lv_sub hl [0, 4, 5, 6, 7, 8, 9, 10, 11, 12] rfl)⟩
          · refine lv_iconst (v := 1) hx hb dX2_meanOfRound_95 (by decide) ?_
            refine lv_goto (tgt := 100) hx hb dX2_meanOfRound_96 (by decide) ?_
            refine lv_istore (lv' := [(10, .int 1), (9, .int (nI be_33)), (8, .int r_32), (7, .int (nI q_31)), (6, .int r_28), (0, .ref y0), (1, .ref h0), (2, .ref u0), (3, .int (nI wh)), (4, .int (nI rn)), (5, .int p4)]) hx hb dX2_meanOfRound_100 hl (by decide) rfl (fun ls hl => ?_)
            refine lv_iload hx hb dX2_meanOfRound_102 (lv_at hl 0 rfl) ?_
            refine lv_if_eq (tgt := 112) hx hb dX2_meanOfRound_104 (by decide) (fun h => absurd h (by decide)) (fun _ => ?_)
            refine lv_iload hx hb dX2_meanOfRound_107 (lv_at hl 2 rfl) ?_
            refine lv_goto (tgt := 124) hx hb dX2_meanOfRound_109 (by decide) ?_
            refine lv_istore (lv' := [(11, .int r_32), (10, .int 1), (9, .int (nI be_33)), (8, .int r_32), (7, .int (nI q_31)), (6, .int r_28), (0, .ref y0), (1, .ref h0), (2, .ref u0), (3, .int (nI wh)), (4, .int (nI rn)), (5, .int p4)]) hx hb dX2_meanOfRound_124 hl (by decide) rfl (fun ls hl => ?_)
            refine lv_iload hx hb dX2_meanOfRound_126 (lv_at hl 5 rfl) ?_
            refine lv_aload_n hx hb dX2_meanOfRound_128 rfl (lv_at hl 6 rfl) ?_
            refine va_get (D := D) (ci := 2) (v := .ref y2) (C := RX2) (T := TX2) (N := 5) hx hb hts inX2 hown hK hP 0 rfl rfl 1 (by decide) (hts _ tw_211) (fun _ h9 => h9) rfl dX2_meanOfRound_129 ?_
            refine lv_iload hx hb dX2_meanOfRound_132 (lv_at hl 2 rfl) ?_
            refine va_iald hx hb hK hP 2 1 rfl rfl (vp_in_nI (by omega) (by decide)) dX2_meanOfRound_134 ?_
            refine lv_ti (y := (yb3_33 be_33)) (by rw [nI_clamp (by omega)]) ?_
            refine lv_iadd hx hb dX2_meanOfRound_135 ?_
            refine lv_topi (fun x_45 ex_45 => ?_)
            refine lv_istore (lv' := [(12, .int x_45), (11, .int r_32), (10, .int 1), (9, .int (nI be_33)), (8, .int r_32), (7, .int (nI q_31)), (6, .int r_28), (0, .ref y0), (1, .ref h0), (2, .ref u0), (3, .int (nI wh)), (4, .int (nI rn)), (5, .int p4)]) hx hb dX2_meanOfRound_136 hl (by decide) rfl (fun ls hl => ?_)
            refine lv_aload_n hx hb dX2_meanOfRound_138 rfl (lv_at hl 7 rfl) ?_
            refine va_get (D := D) (ci := 2) (v := .ref y1) (C := RX2) (T := TX2) (N := 5) hx hb hts inX2 hown hK hP 0 rfl rfl 0 (by decide) (hts _ tw_210) (fun _ h9 => h9) rfl dX2_meanOfRound_139 ?_
            refine lv_iload hx hb dX2_meanOfRound_142 (lv_at hl 3 rfl) ?_
            refine lv_aload_n hx hb dX2_meanOfRound_144 rfl (lv_at hl 8 rfl) ?_
            refine lv_iload hx hb dX2_meanOfRound_145 (lv_at hl 5 rfl) ?_
            refine lv_iconst (v := 1) hx hb dX2_meanOfRound_147 (by decide) ?_
            refine ro_i (D := D) (va_runV (As := [.int (nI q_31), .int 1]) (rest := [.int (nI be_33), .ref y1]) ⟨hx, hb, hml, hown, hts⟩ ((y_chanceOf l D k st lo h0 h1 h2 h3 h4 n see tm g ff q_31 1 (by first | assumption | omega)) H.size) (cwV 2 hts (gV tw_733 tw_565 tw_566 tw_81 tw_567) rfl rfl rfl (by decide +kernel) ⟨Nat.le_of_ble_eq_true rfl, Nat.le_of_ble_eq_true rfl⟩) (pV hS hAlo hlo hP hK (va_Dlo hD hAlo) hZ [3, 4, 5] (by decide) rfl (ci := 5) (q := (RX5, TX5, 4)) (q0 := 0) rfl rfl) rfl rfl hl.1 rfl (lv_room (Nat.le_of_ble_eq_true rfl)) dX2_meanOfRound_148 ⟨Nat.le_of_ble_eq_true rfl, Nat.le_of_ble_eq_true rfl⟩) hS hA hP (fun r_46 H locs hw_46 hP hS => ?_)
            try dsimp only at hw_46
            refine lv_iload hx hb dX2_meanOfRound_151 (lv_at hl 1 rfl) ?_
            refine lv_iload hx hb dX2_meanOfRound_153 (lv_at hl 0 rfl) ?_
            refine ro_i (D := D) (va_runSN (As := [.int r_46, .int r_32, .int x_45]) (rest := [.int (nI be_33), .ref y1]) ⟨hx, hb, hml, hown, hts⟩ ((y_mixed l D k st lo r_46 r_32 x_45) H.size) ⟨va_cnB 3 hts (gLW tw_570) rfl rfl rfl (hZ.2.2.2.2.2.2.2.2.1.1 (RX2, 78, yX7_mixed, RX7) (List.mem_of_getElem? (i := 6) rfl)) (hts _ tw_79) (by decide +kernel) ⟨Nat.le_of_ble_eq_true rfl, Nat.le_of_ble_eq_true rfl⟩, hts _ tw_569, trivial⟩ (pS hS hAlo hlo hP hK (va_Dlo hD hAlo) hZ [] (by decide) rfl) rfl rfl hl.1 rfl (lv_room (Nat.le_of_ble_eq_true rfl)) dX2_meanOfRound_155 ⟨Nat.le_of_ble_eq_true rfl, Nat.le_of_ble_eq_true rfl⟩) hS hA hP (fun r_47 H locs hw_47 hP hS => ?_)
            try dsimp only at hw_47
            refine va_iast hx hb hK hP hD hS 1 1 rfl rfl (vp_in_nI (by omega) (by decide)) dX2_meanOfRound_158 (fun H locs hP hD hS => ?_)
            replace hP : va_P D classes [(y0, .inr (2, (fX2 y1 y2 y3 wt wc))), (aI k y1 25 (upd ya3_33 (Int32.toNatClampNeg (nI be_33)) r_47)), (aI k y2 25 yb3_33), (h0, .inr (5, (fX5 h1 h2 h3 h4))), (aI k h1 10 (vv n see tm g)), (aI k h2 24 ff), (aI k h3 24 fp), (aI k h4 4 fl), (u0, .inr (3, (fX3 u1 u2 rf (nI rc) (nI rr)))), (aI k u1 24 rs), (aI k u2 24 rb)] H := hP
            replace hD : va_D A [(y0, .inr (2, (fX2 y1 y2 y3 wt wc))), (aI k y1 25 (upd ya3_33 (Int32.toNatClampNeg (nI be_33)) r_47)), (aI k y2 25 yb3_33), (h0, .inr (5, (fX5 h1 h2 h3 h4))), (aI k h1 10 (vv n see tm g)), (aI k h2 24 ff), (aI k h3 24 fp), (aI k h4 4 fl), (u0, .inr (3, (fX3 u1 u2 rf (nI rc) (nI rr)))), (aI k u1 24 rs), (aI k u2 24 rb)] := hD
            rw [nI_clamp (n := be_33) (by omega)] at hP hD
            replace hP : va_P D classes [(y0, .inr (2, (fX2 y1 y2 y3 wt wc))), (aI k y1 25 (upd ya3_33 be_33 r_47)), (aI k y2 25 yb3_33), (h0, .inr (5, (fX5 h1 h2 h3 h4))), (aI k h1 10 (vv n see tm g)), (aI k h2 24 ff), (aI k h3 24 fp), (aI k h4 4 fl), (u0, .inr (3, (fX3 u1 u2 rf (nI rc) (nI rr)))), (aI k u1 24 rs), (aI k u2 24 rb)] H := hP
            replace hD : va_D A [(y0, .inr (2, (fX2 y1 y2 y3 wt wc))), (aI k y1 25 (upd ya3_33 be_33 r_47)), (aI k y2 25 yb3_33), (h0, .inr (5, (fX5 h1 h2 h3 h4))), (aI k h1 10 (vv n see tm g)), (aI k h2 24 ff), (aI k h3 24 fp), (aI k h4 4 fl), (u0, .inr (3, (fX3 u1 u2 rf (nI rc) (nI rr)))), (aI k u1 24 rs), (aI k u2 24 rb)] := hD
            refine lv_aload_n hx hb dX2_meanOfRound_159 rfl (lv_at hl 7 rfl) ?_
            refine va_get (D := D) (ci := 2) (v := .ref y2) (C := RX2) (T := TX2) (N := 5) hx hb hts inX2 hown hK hP 0 rfl rfl 1 (by decide) (hts _ tw_211) (fun _ h9 => h9) rfl dX2_meanOfRound_160 ?_
            refine lv_iload hx hb dX2_meanOfRound_163 (lv_at hl 3 rfl) ?_
            refine lv_aload_n hx hb dX2_meanOfRound_165 rfl (lv_at hl 8 rfl) ?_
            refine lv_iload hx hb dX2_meanOfRound_166 (lv_at hl 5 rfl) ?_
            refine lv_iconst (v := 0) hx hb dX2_meanOfRound_168 (by decide) ?_
            refine ro_i (D := D) (va_runV (As := [.int (nI q_31), .int 0]) (rest := [.int (nI be_33), .ref y2]) ⟨hx, hb, hml, hown, hts⟩ ((y_chanceOf l D k st lo h0 h1 h2 h3 h4 n see tm g ff q_31 0 (by first | assumption | omega)) H.size) (cwV 2 hts (gV tw_733 tw_565 tw_566 tw_81 tw_567) rfl rfl rfl (by decide +kernel) ⟨Nat.le_of_ble_eq_true rfl, Nat.le_of_ble_eq_true rfl⟩) (pV hS hAlo hlo hP hK (va_Dlo hD hAlo) hZ [3, 4, 5] (by decide) rfl (ci := 5) (q := (RX5, TX5, 4)) (q0 := 0) rfl rfl) rfl rfl hl.1 rfl (lv_room (Nat.le_of_ble_eq_true rfl)) dX2_meanOfRound_169 ⟨Nat.le_of_ble_eq_true rfl, Nat.le_of_ble_eq_true rfl⟩) hS hA hP (fun r_49 H locs hw_49 hP hS => ?_)
            try dsimp only at hw_49
            refine lv_iload hx hb dX2_meanOfRound_172 (lv_at hl 1 rfl) ?_
            refine lv_iload hx hb dX2_meanOfRound_174 (lv_at hl 0 rfl) ?_
            refine ro_i (D := D) (va_runSN (As := [.int r_49, .int r_32, .int x_45]) (rest := [.int (nI be_33), .ref y2]) ⟨hx, hb, hml, hown, hts⟩ ((y_mixed l D k st lo r_49 r_32 x_45) H.size) ⟨va_cnB 3 hts (gLW tw_570) rfl rfl rfl (hZ.2.2.2.2.2.2.2.2.1.1 (RX2, 78, yX7_mixed, RX7) (List.mem_of_getElem? (i := 6) rfl)) (hts _ tw_79) (by decide +kernel) ⟨Nat.le_of_ble_eq_true rfl, Nat.le_of_ble_eq_true rfl⟩, hts _ tw_569, trivial⟩ (pS hS hAlo hlo hP hK (va_Dlo hD hAlo) hZ [] (by decide) rfl) rfl rfl hl.1 rfl (lv_room (Nat.le_of_ble_eq_true rfl)) dX2_meanOfRound_176 ⟨Nat.le_of_ble_eq_true rfl, Nat.le_of_ble_eq_true rfl⟩) hS hA hP (fun r_50 H locs hw_50 hP hS => ?_)
            try dsimp only at hw_50
            refine va_iast hx hb hK hP hD hS 2 1 rfl rfl (vp_in_nI (by omega) (by decide)) dX2_meanOfRound_179 (fun H locs hP hD hS => ?_)
            replace hP : va_P D classes [(y0, .inr (2, (fX2 y1 y2 y3 wt wc))), (aI k y1 25 (upd ya3_33 be_33 r_47)), (aI k y2 25 (upd yb3_33 (Int32.toNatClampNeg (nI be_33)) r_50)), (h0, .inr (5, (fX5 h1 h2 h3 h4))), (aI k h1 10 (vv n see tm g)), (aI k h2 24 ff), (aI k h3 24 fp), (aI k h4 4 fl), (u0, .inr (3, (fX3 u1 u2 rf (nI rc) (nI rr)))), (aI k u1 24 rs), (aI k u2 24 rb)] H := hP
            replace hD : va_D A [(y0, .inr (2, (fX2 y1 y2 y3 wt wc))), (aI k y1 25 (upd ya3_33 be_33 r_47)), (aI k y2 25 (upd yb3_33 (Int32.toNatClampNeg (nI be_33)) r_50)), (h0, .inr (5, (fX5 h1 h2 h3 h4))), (aI k h1 10 (vv n see tm g)), (aI k h2 24 ff), (aI k h3 24 fp), (aI k h4 4 fl), (u0, .inr (3, (fX3 u1 u2 rf (nI rc) (nI rr)))), (aI k u1 24 rs), (aI k u2 24 rb)] := hD
            rw [nI_clamp (n := be_33) (by omega)] at hP hD
            replace hP : va_P D classes [(y0, .inr (2, (fX2 y1 y2 y3 wt wc))), (aI k y1 25 (upd ya3_33 be_33 r_47)), (aI k y2 25 (upd yb3_33 be_33 r_50)), (h0, .inr (5, (fX5 h1 h2 h3 h4))), (aI k h1 10 (vv n see tm g)), (aI k h2 24 ff), (aI k h3 24 fp), (aI k h4 4 fl), (u0, .inr (3, (fX3 u1 u2 rf (nI rc) (nI rr)))), (aI k u1 24 rs), (aI k u2 24 rb)] H := hP
            replace hD : va_D A [(y0, .inr (2, (fX2 y1 y2 y3 wt wc))), (aI k y1 25 (upd ya3_33 be_33 r_47)), (aI k y2 25 (upd yb3_33 be_33 r_50)), (h0, .inr (5, (fX5 h1 h2 h3 h4))), (aI k h1 10 (vv n see tm g)), (aI k h2 24 ff), (aI k h3 24 fp), (aI k h4 4 fl), (u0, .inr (3, (fX3 u1 u2 rf (nI rc) (nI rr)))), (aI k u1 24 rs), (aI k u2 24 rb)] := hD
            refine lv_iinc (v := (nI (be_33 + 1))) (lv' := [(9, .int (nI (be_33 + 1))), (12, .int x_45), (11, .int r_32), (10, .int 1), (8, .int r_32), (7, .int (nI q_31)), (6, .int r_28), (0, .ref y0), (1, .ref h0), (2, .ref u0), (3, .int (nI wh)), (4, .int (nI rn)), (5, .int p4)]) hx hb dX2_meanOfRound_180 hl (k := 3) rfl (nI_add be_33 1) (by decide) rfl (fun ls hl => ?_)
            refine lv_goto (tgt := 77) hx hb dX2_meanOfRound_183 (by decide) ?_
            have ha_33 := mv_v (d := (sdX n see tm g ff fp)) (u := (ruX rf rc rr rs rb)) (wh := wh) (r := rn) (E := p4) (p := be_33) (a := 1) (show q_31 < n by omega) (show _ = pChance (sdX n see tm g ff fp) q_31 (nI 1) from hw_46.trans (xChance (show q_31 < n by omega) (okX hok9 (show q_31 < n by omega)))) (by rw [if_pos (show pBar (ruX rf rc rr rs rb) be_33 ≤ nI q_31 by rw [← hw_35]; exact (Int32.not_lt.mp c_36))]; exact hw_32) (by rw [← hps_29, ex_45]; exact congrArg (fun z => r_28 + z) (hv_33.2.2.2.2 be_33 (by omega) (by omega))) (hw_47.trans (mix_same (by rw [hw_46, xChance (see := see) (tm := tm) (fp := fp) (show q_31 < n by omega) (okX hok9 (show q_31 < n by omega))]; exact pCh_in)))
            have hb_33 := mv_v (d := (sdX n see tm g ff fp)) (u := (ruX rf rc rr rs rb)) (wh := wh) (r := rn) (E := p4) (p := be_33) (a := 0) (show q_31 < n by omega) (show _ = pChance (sdX n see tm g ff fp) q_31 (nI 0) from hw_49.trans (xChance (show q_31 < n by omega) (okX hok9 (show q_31 < n by omega)))) (by rw [if_pos (show pBar (ruX rf rc rr rs rb) be_33 ≤ nI q_31 by rw [← hw_35]; exact (Int32.not_lt.mp c_36))]; exact hw_32) (by rw [← hps_29, ex_45]; exact congrArg (fun z => r_28 + z) (hv_33.2.2.2.2 be_33 (by omega) (by omega))) (hw_50.trans (mix_same (by rw [hw_49, xChance (see := see) (tm := tm) (fp := fp) (show q_31 < n by omega) (okX hok9 (show q_31 < n by omega))]; exact pCh_in)))
            have hsa_33 := mv_st (i := q_31) hv_33.2.1 hv_33.2.2.2.1 ha_33
            have hsb_33 := mv_st (i := q_31) hv_33.2.2.1 hv_33.2.2.2.2 hb_33
            exact ih_33 _ (be_33 + 1, (upd ya3_33 be_33 r_47), (upd yb3_33 be_33 r_50)) _ _ _ (by omega) ⟨rfl, ⟨by omega, hsa_33.1, hsb_33.1, hsa_33.2, hsb_33.2⟩, hP, hD, hS, (lv_sub hl [0, 4, 5, 6, 7, 8, 9, 10, 11, 12] rfl)⟩
  · have c_3 : ¬ (n < pa_1) := fun h => c_3 ((nI_ltI (a := n) (b := pa_1) (by omega) (by omega)).mpr h)
    refine lv_aload_n hx hb dX2_meanOfRound_12 rfl (lv_at hl 1 rfl) ?_
    refine va_get (D := D) (ci := 2) (v := .ref y1) (C := RX2) (T := TX2) (N := 5) hx hb hts inX2 hown hK hP 0 rfl rfl 0 (by decide) (hts _ tw_210) (fun _ h9 => h9) rfl dX2_meanOfRound_13 ?_
    refine lv_iload hx hb dX2_meanOfRound_16 (lv_at hl 0 rfl) ?_
    refine lv_iload hx hb dX2_meanOfRound_18 (lv_at hl 6 rfl) ?_
    refine va_iast hx hb hK hP hD hS 1 1 rfl rfl (vp_in_nI (by omega) (by decide)) dX2_meanOfRound_20 (fun H locs hP hD hS => ?_)
    replace hP : va_P D classes [(y0, .inr (2, (fX2 y1 y2 y3 wt wc))), (aI k y1 25 (upd ya2_1 (Int32.toNatClampNeg (nI pa_1)) p4)), (aI k y2 25 yb2_1), (h0, .inr (5, (fX5 h1 h2 h3 h4))), (aI k h1 10 (vv n see tm g)), (aI k h2 24 ff), (aI k h3 24 fp), (aI k h4 4 fl), (u0, .inr (3, (fX3 u1 u2 rf (nI rc) (nI rr)))), (aI k u1 24 rs), (aI k u2 24 rb)] H := hP
    replace hD : va_D A [(y0, .inr (2, (fX2 y1 y2 y3 wt wc))), (aI k y1 25 (upd ya2_1 (Int32.toNatClampNeg (nI pa_1)) p4)), (aI k y2 25 yb2_1), (h0, .inr (5, (fX5 h1 h2 h3 h4))), (aI k h1 10 (vv n see tm g)), (aI k h2 24 ff), (aI k h3 24 fp), (aI k h4 4 fl), (u0, .inr (3, (fX3 u1 u2 rf (nI rc) (nI rr)))), (aI k u1 24 rs), (aI k u2 24 rb)] := hD
    rw [nI_clamp (n := pa_1) (by omega)] at hP hD
    replace hP : va_P D classes [(y0, .inr (2, (fX2 y1 y2 y3 wt wc))), (aI k y1 25 (upd ya2_1 pa_1 p4)), (aI k y2 25 yb2_1), (h0, .inr (5, (fX5 h1 h2 h3 h4))), (aI k h1 10 (vv n see tm g)), (aI k h2 24 ff), (aI k h3 24 fp), (aI k h4 4 fl), (u0, .inr (3, (fX3 u1 u2 rf (nI rc) (nI rr)))), (aI k u1 24 rs), (aI k u2 24 rb)] H := hP
    replace hD : va_D A [(y0, .inr (2, (fX2 y1 y2 y3 wt wc))), (aI k y1 25 (upd ya2_1 pa_1 p4)), (aI k y2 25 yb2_1), (h0, .inr (5, (fX5 h1 h2 h3 h4))), (aI k h1 10 (vv n see tm g)), (aI k h2 24 ff), (aI k h3 24 fp), (aI k h4 4 fl), (u0, .inr (3, (fX3 u1 u2 rf (nI rc) (nI rr)))), (aI k u1 24 rs), (aI k u2 24 rb)] := hD
    refine lv_aload_n hx hb dX2_meanOfRound_21 rfl (lv_at hl 1 rfl) ?_
    refine va_get (D := D) (ci := 2) (v := .ref y2) (C := RX2) (T := TX2) (N := 5) hx hb hts inX2 hown hK hP 0 rfl rfl 1 (by decide) (hts _ tw_211) (fun _ h9 => h9) rfl dX2_meanOfRound_22 ?_
    refine lv_iload hx hb dX2_meanOfRound_25 (lv_at hl 0 rfl) ?_
    refine lv_iload hx hb dX2_meanOfRound_27 (lv_at hl 6 rfl) ?_
    refine va_iast hx hb hK hP hD hS 2 1 rfl rfl (vp_in_nI (by omega) (by decide)) dX2_meanOfRound_29 (fun H locs hP hD hS => ?_)
    replace hP : va_P D classes [(y0, .inr (2, (fX2 y1 y2 y3 wt wc))), (aI k y1 25 (upd ya2_1 pa_1 p4)), (aI k y2 25 (upd yb2_1 (Int32.toNatClampNeg (nI pa_1)) p4)), (h0, .inr (5, (fX5 h1 h2 h3 h4))), (aI k h1 10 (vv n see tm g)), (aI k h2 24 ff), (aI k h3 24 fp), (aI k h4 4 fl), (u0, .inr (3, (fX3 u1 u2 rf (nI rc) (nI rr)))), (aI k u1 24 rs), (aI k u2 24 rb)] H := hP
    replace hD : va_D A [(y0, .inr (2, (fX2 y1 y2 y3 wt wc))), (aI k y1 25 (upd ya2_1 pa_1 p4)), (aI k y2 25 (upd yb2_1 (Int32.toNatClampNeg (nI pa_1)) p4)), (h0, .inr (5, (fX5 h1 h2 h3 h4))), (aI k h1 10 (vv n see tm g)), (aI k h2 24 ff), (aI k h3 24 fp), (aI k h4 4 fl), (u0, .inr (3, (fX3 u1 u2 rf (nI rc) (nI rr)))), (aI k u1 24 rs), (aI k u2 24 rb)] := hD
    rw [nI_clamp (n := pa_1) (by omega)] at hP hD
    replace hP : va_P D classes [(y0, .inr (2, (fX2 y1 y2 y3 wt wc))), (aI k y1 25 (upd ya2_1 pa_1 p4)), (aI k y2 25 (upd yb2_1 pa_1 p4)), (h0, .inr (5, (fX5 h1 h2 h3 h4))), (aI k h1 10 (vv n see tm g)), (aI k h2 24 ff), (aI k h3 24 fp), (aI k h4 4 fl), (u0, .inr (3, (fX3 u1 u2 rf (nI rc) (nI rr)))), (aI k u1 24 rs), (aI k u2 24 rb)] H := hP
    replace hD : va_D A [(y0, .inr (2, (fX2 y1 y2 y3 wt wc))), (aI k y1 25 (upd ya2_1 pa_1 p4)), (aI k y2 25 (upd yb2_1 pa_1 p4)), (h0, .inr (5, (fX5 h1 h2 h3 h4))), (aI k h1 10 (vv n see tm g)), (aI k h2 24 ff), (aI k h3 24 fp), (aI k h4 4 fl), (u0, .inr (3, (fX3 u1 u2 rf (nI rc) (nI rr)))), (aI k u1 24 rs), (aI k u2 24 rb)] := hD
    refine lv_iinc (v := (nI (pa_1 + 1))) (lv' := [(6, .int (nI (pa_1 + 1))), (0, .ref y0), (1, .ref h0), (2, .ref u0), (3, .int (nI wh)), (4, .int (nI rn)), (5, .int p4)]) hx hb dX2_meanOfRound_30 hl (k := 0) rfl (nI_add pa_1 1) (by decide) rfl (fun ls hl => ?_)
    refine lv_goto (tgt := 3) hx hb dX2_meanOfRound_33 (by decide) ?_
    exact ih_1 _ (pa_1 + 1, (upd ya2_1 pa_1 p4), (upd yb2_1 pa_1 p4)) _ _ _ (by omega) ⟨rfl, ⟨by omega, la_upd (F := fun _ => p4) hv_1.2.1 rfl, la_upd (F := fun _ => p4) hv_1.2.2 rfl⟩, hP, hD, hS, (lv_sub hl [0, 1, 2, 3, 4, 5, 6] rfl)⟩


theorem f_glueP16 : True := trivial
/-! the reference's rows -/
def wwOK (d : SDt) (see r : Nat) (E : Int32) (i0 : Nat) (wo : Nat → Int32) : Prop := ∀ i, i0 ≤ i → i < d.1 → ∀ g, g < 2 ^ sqN see d.1 i → wo (slN r i g) = pWo d see r E i g
theorem ww_step {d : SDt} {see r i g : Nat} {E x : Int32} {on : Nat → Int32} (hn : d.1 ≤ 24) (hs : see ≤ 2) (hi : i < d.1) (hg : g < 8) (h1 : wwOK d see r E (i + 1) on) (h2 : ∀ h, h < g → on (slN r i h) = pWo d see r E i h) (hx : x = pWo d see r E i g) : wwOK d see r E (i + 1) (upd on (slN r i g) x) ∧ ∀ h, h < g + 1 → upd on (slN r i g) x (slN r i h) = pWo d see r E i h := by
  refine ⟨fun j hj hj2 h hh => ?_, fun h hh => ?_⟩
  · have h8 := (p8 (sq_le (n := d.1) (i := j) hs)).2
    rw [pk_un (by unfold slN; omega)]
    exact h1 j hj hj2 h hh
  · by_cases e : h = g
    · rw [e, pk_us]
      exact hx
    · rw [pk_un (by unfold slN; omega)]
      exact h2 h (by omega)
theorem ww_door {d : SDt} {see r i m : Nat} {E : Int32} {on : Nat → Int32} (hm : m = 2 ^ sqN see d.1 i) (h1 : wwOK d see r E (i + 1) on) (h2 : ∀ h, h < m → on (slN r i h) = pWo d see r E i h) : wwOK d see r E i on := by
  intro j hj hj2 h hh
  rcases Nat.eq_or_lt_of_le hj with e | e
  · subst e
    exact h2 h (by rw [hm]; exact hh)
  · exact h1 j e hj2 h hh
theorem ww_other {d : SDt} {see r q : Nat} {E : Int32} {on on2 : Nat → Int32} (hn : d.1 ≤ 24) (hs : see ≤ 2) (h : ∀ x, ¬ (192 * q ≤ x ∧ x < 192 * q + 192) → on2 x = on x) (hr : r ≠ q) (h1 : wwOK d see r E 0 on) : wwOK d see r E 0 on2 := by
  intro i hi hi2 g hg
  have h8 := (p8 (sq_le (n := d.1) (i := i) hs)).2
  rw [h _ (by unfold slN; omega)]
  exact h1 i hi hi2 g hg
/-- goes round, as a row holds it -/
def grV (d : SDt) (see tm r : Nat) : Int32 := if pEr d see tm r < pGar d r then 1 else 0
def wmOK (d : SDt) (see tm r0 : Nat) (on wo sr en gr : Nat → Int32) : Prop := ∀ r, r0 ≤ r → r ≤ tm → en r = pEr d see tm r ∧ sr r = pSr d see tm r ∧ gr r = grV d see tm r ∧ onOK d see r (pEr d see tm r) 0 on ∧ wwOK d see r (pEr d see tm r) 0 wo
theorem gr_of {a b : Int32} : (pMn a b < a ↔ b < a) := by
  unfold pMn
  by_cases h : b < a
  · rw [if_pos h]
  · rw [if_neg h]
    exact ⟨fun q => absurd q Int32.lt_irrefl, fun q => absurd q h⟩
theorem nxm_1 {d : SDt} {see i g : Nat} {W : Nat → Int32} {c a b q : Int32} (h : i + 1 + see < d.1) (hc : c = pChance d (i + 1 + see) (pb (pBit g see))) (ha : a = W (g / 2 + 2 ^ see)) (hb : b = W (g / 2)) (hq : q = fM_mixed c a b) : q = pNx d see i W g :=
  nx_1 h hc ha hb (hq.trans (mix_same (by rw [hc]; exact pCh_in)).symm)
theorem pbm_1 {g k : Nat} (hk : k < 3) (hg : g < 8) (h : (nI g >>> (nI k &&& 31)) &&& 1 = 1) : pb (pBit g k) = 1 := by
  rw [((bt_shr k hk g hg).2).mp h]
  rfl
theorem pbm_0 {g k : Nat} (hk : k < 3) (hg : g < 8) (h : ¬ (nI g >>> (nI k &&& 31)) &&& 1 = 1) : pb (pBit g k) = 0 := by
  rcases hb : pBit g k with _ | _
  · rfl
  · exact absurd (((bt_shr k hk g hg).2).mpr hb) h
theorem ahm_1 {g k : Nat} (hk : k < 3) (hk0 : 0 < k) (hg : g < 8) (h : (nI g >>> (nI (k - 1) &&& 31)) &&& 1 = 1) : pAh g k = 1 :=
  ah_1 hk hk0 hg (by rw [h]; decide)
theorem ahm_0 {g k : Nat} (hk : k < 3) (hg : g < 8) (h : ¬ (nI g >>> (nI (k - 1) &&& 31)) &&& 1 = 1) : pAh g k = 0 := by
  refine ah_0 hk hg ?_
  rcases and1_01 (nI g >>> (nI (k - 1) &&& 31)) with e | e
  · exact e
  · exact absurd e h
theorem pWm_1 {d : SDt} {r i g : Nat} {on t : Int32} (hg : g < 8) (h : nI g &&& 1 = 1) (ht : t = pTake d r i) (hc : t ≤ on) : t = pW d r i on g := by
  unfold pW
  rw [if_pos (((ev_and g hg).2).mp h), ← ht, ← pMn_le, if_pos hc]
theorem pWm_2 {d : SDt} {r i g : Nat} {on t : Int32} (hg : g < 8) (h : nI g &&& 1 = 1) (ht : t = pTake d r i) (hc : ¬ t ≤ on) : on = pW d r i on g := by
  unfold pW
  rw [if_pos (((ev_and g hg).2).mp h), ← ht, ← pMn_le, if_neg hc]
theorem pWm_0 {d : SDt} {r i g : Nat} {on : Int32} (hg : g < 8) (h : ¬ nI g &&& 1 = 1) : on = pW d r i on g := by
  unfold pW
  rw [if_neg (fun q => h (((ev_and g hg).2).mpr q))]
theorem wm_step {d : SDt} {see tm r : Nat} {on on2 wo wo2 sr en gr : Nat → Int32} {x s y : Int32} (hn : d.1 ≤ 24) (hs : see ≤ 2) (hr : r ≤ tm) (h : wmOK d see tm (r + 1) on wo sr en gr) (hx : x = pEr d see tm r) (hy : y = grV d see tm r) (h1 : onOK d see r x 0 on2) (h2 : wwOK d see r x 0 wo2) (ho : ∀ y, ¬ (192 * r ≤ y ∧ y < 192 * r + 192) → on2 y = on y) (hw : ∀ y, ¬ (192 * r ≤ y ∧ y < 192 * r + 192) → wo2 y = wo y) (hsv : s = pSv d see r x) : wmOK d see tm r on2 wo2 (upd sr r s) (upd en r x) (upd gr r y) := by
  intro q hq hq2
  rcases Nat.eq_or_lt_of_le hq with e | e
  · subst e
    rw [pk_us, pk_us, pk_us, hsv, hy]
    rw [hx] at h1 h2 ⊢
    exact ⟨rfl, (pSr_of hr).symm, rfl, h1, h2⟩
  · rw [pk_un (by omega), pk_un (by omega), pk_un (by omega)]
    obtain ⟨a1, a2, a3, a4, a5⟩ := h q e hq2
    exact ⟨a1, a2, a3, on_other hn hs ho (by omega) a4, ww_other hn hs hw (by omega) a5⟩
theorem mPass {dn se tm : Nat → Nat} {gs ffr fpr : Nat → Int32} {s : Nat} : sg se tm gs (9 * s + 2) * 1000 = pPass (sdM dn (sg se tm gs) ffr fpr s) := by
  unfold pPass
  rw [gM' (by omega) (by omega)]
theorem mRnd {dn se tm : Nat → Nat} {gs ffr fpr : Nat → Int32} {s : Nat} : sg se tm gs (9 * s + 2) * sg se tm gs (9 * s + 6) * 1000 = pRnd (sdM dn (sg se tm gs) ffr fpr s) := by
  unfold pRnd
  rw [gM' (by omega) (by omega), gM' (by omega) (by omega)]


set_option maxHeartbeats 4000000 in
set_option maxRecDepth 100000 in
theorem n_seen (l : Launch) (D : va_G) (k : Nat → ClassId) (st : Nat → Nat) (lo : Nat) (a : Nat → Nat) (tx : Nat) (t0 : Nat) (we : Nat) (rd : Nat) (ru : Nat) (rw : Nat) (ca : Nat) (fp : Int32) (wd : Int64) (nu : Int32) (na : Int32) (ts : Int32) (df : Int32) (db : Int32) (sd : Int32) (dn : Nat → Nat) (se : Nat → Nat) (tm : Nat → Nat) (gs : Nat → Int32) (sn : Nat) (i : Nat) (hdn : ∀ j, dn j ≤ 24) (hse : ∀ j, se j ≤ 2) (hs : sn < 3) (hi : i ≤ dn sn) : CRi l D k st lo yX8_seen cX8_seen 4 (some .int) ({ frames := 1, cells := 0, slots := 0, locals := 22 }) [.ref (a 0), .int (nI sn), .int (nI i)] [((a 0), .inr (8, (fX8 a (nI tx) fp (nI t0) wd (nI we) nu na (nI rd) ts (nI ru) (nI rw) (nI ca) df db sd))), (aI k (a 1) 3 (nF dn)), (aI k (a 4) 27 (sg se tm gs))] (fun r => r = nI (sqN (se sn) (dn sn) i)) := by
  intro sz
  refine Met.ofW (cc := cX8_seen) (maxL := 4) (ret := (some .int)) (by decide) rfl ?_
  intro p e s m args below meth c s₁ B hml hv
  obtain ⟨rfl, hsz, hlo, hP, hK, hDL, hZ⟩ := hv
  have hx := B.exec
  have hb := B.bytes
  have hr := B.returns
  have hts := WS_ts B.pre
  have hown : s.vm.findClass RX8 = some m.cls := findClass_of_methodNamed B.named
  have hlocks := B.notSynchronized
  subst hsz
  have hA : ∀ q : Nat, s.heap.size ≤ q → (fun q : Nat => s.heap.size ≤ q) q := fun _ h => h
  have hAlo : ∀ q : Nat, (fun q : Nat => s.heap.size ≤ q) q → lo ≤ q := fun q h => Nat.le_trans hlo h
  have hS : va_S (fun q : Nat => s.heap.size ≤ q) s.heap s.heap [] := va_S.rf
  have hl := lv_entry ([.ref (a 0), .int (nI sn), .int (nI i)]) (n := 4) (Nat.le_of_ble_eq_true rfl)
  rw [lg_entry_eq]
  generalize (lg_sl ([.ref (a 0), .int (nI sn), .int (nI i)]) ++ List.replicate (4 - (lg_sl ([.ref (a 0), .int (nI sn), .int (nI i)])).length) Slot.unset).toArray = ls at hl ⊢
  have hl : lv_has ls 4 [(0, .ref (a 0)), (1, .int (nI sn)), (2, .int (nI i))] := hl
  have hd_9 := hdn sn
  have hd_8 := hse sn
  refine lv_aload_n hx hb dX8_seen_0 rfl (lv_at hl 0 rfl) ?_
  refine va_get (D := D) (ci := 8) (v := .ref (a 1)) (C := RX8) (T := TX8) (N := 44) hx hb hts inX8 hown hK hP 0 rfl rfl 0 (by decide) (hts _ tw_973) (fun _ h9 => h9) rfl dX8_seen_1 ?_
  refine lv_iload_n hx hb dX8_seen_4 rfl (lv_at hl 1 rfl) ?_
  refine va_iald hx hb hK hP 1 1 rfl rfl (vp_in_nI (by omega) (by decide)) dX8_seen_5 ?_
  refine lv_ti (y := (nI (dn sn))) (by rw [nI_clamp (by omega)]; rfl) ?_
  refine lv_iload_n hx hb dX8_seen_6 rfl (lv_at hl 2 rfl) ?_
  refine lv_isub hx hb dX8_seen_7 ?_
  refine lv_ti (y := (nI ((dn sn) - i))) (pk_sub (a := (dn sn)) (b := i) (by omega)) ?_
  refine lv_istore_n (lv' := [(3, .int (nI ((dn sn) - i))), (0, .ref (a 0)), (1, .int (nI sn)), (2, .int (nI i))]) hx hb dX8_seen_8 rfl hl (by decide) rfl (fun ls hl => ?_)
  refine lv_iload_n hx hb dX8_seen_9 rfl (lv_at hl 0 rfl) ?_
  refine lv_aload_n hx hb dX8_seen_10 rfl (lv_at hl 1 rfl) ?_
  refine lv_iload_n hx hb dX8_seen_11 rfl (lv_at hl 2 rfl) ?_
  refine lv_iconst (v := 5) hx hb dX8_seen_12 (by decide) ?_
  refine ro_i (D := D) (va_runV (As := [.int (nI sn), .int 5]) (rest := [.int (nI ((dn sn) - i))]) ⟨hx, hb, hml, hown, hts⟩ ((m_of l D k st lo a tx t0 we rd ru rw ca fp wd nu na ts df db sd se tm gs sn 5 (by first | assumption | omega) (by first | assumption | omega)) s.heap.size) (cwV 2 hts (gV tw_1194 tw_1196 tw_39 tw_87 tw_1197) rfl rfl rfl (by decide +kernel) ⟨Nat.le_of_ble_eq_true rfl, Nat.le_of_ble_eq_true rfl⟩) (pV hS hAlo hlo hP hK hDL hZ [0, 2] (by decide) rfl (ci := 8) (q := (RX8, TX8, 44)) (q0 := 0) rfl rfl) rfl rfl hl.1 rfl (lv_room (Nat.le_of_ble_eq_true rfl)) dX8_seen_13 ⟨Nat.le_of_ble_eq_true rfl, Nat.le_of_ble_eq_true rfl⟩) hS hA hP (fun r_1 H locs hw_1 hP hS => ?_)
  try dsimp only at hw_1
  obtain rfl := hw_1.trans (sg_se _ _ _ _)
  refine lv_iconst (v := 1) hx hb dX8_seen_16 (by decide) ?_
  refine lv_iadd hx hb dX8_seen_17 ?_
  refine lv_ti (y := (nI (se sn + 1))) (nI_add (se sn) 1) ?_
  refine lv_icmp_ge (tgt := 25) hx hb dX8_seen_18 (by decide) (fun c_2 => ?_) (fun c_2 => ?_)
  · have c_2 := (nI_leI (a := (se sn + 1)) (b := ((dn sn) - i)) (by omega) (by omega)).mp c_2
    refine lv_aload_n hx hb dX8_seen_25 rfl (lv_at hl 1 rfl) ?_
    refine lv_iload_n hx hb dX8_seen_26 rfl (lv_at hl 2 rfl) ?_
    refine lv_iconst (v := 5) hx hb dX8_seen_27 (by decide) ?_
    refine ro_i (D := D) (va_runV (As := [.int (nI sn), .int 5]) (rest := []) ⟨hx, hb, hml, hown, hts⟩ ((m_of l D k st lo a tx t0 we rd ru rw ca fp wd nu na ts df db sd se tm gs sn 5 (by first | assumption | omega) (by first | assumption | omega)) H.size) (cwV 2 hts (gV tw_1194 tw_1196 tw_39 tw_87 tw_1197) rfl rfl rfl (by decide +kernel) ⟨Nat.le_of_ble_eq_true rfl, Nat.le_of_ble_eq_true rfl⟩) (pV hS hAlo hlo hP hK hDL hZ [0, 2] (by decide) rfl (ci := 8) (q := (RX8, TX8, 44)) (q0 := 0) rfl rfl) rfl rfl hl.1 rfl (lv_room (Nat.le_of_ble_eq_true rfl)) dX8_seen_28 ⟨Nat.le_of_ble_eq_true rfl, Nat.le_of_ble_eq_true rfl⟩) hS hA hP (fun r_3 H locs hw_3 hP hS => ?_)
    try dsimp only at hw_3
    obtain rfl := hw_3.trans (sg_se _ _ _ _)
    refine lv_iconst (v := 1) hx hb dX8_seen_31 (by decide) ?_
    refine lv_iadd hx hb dX8_seen_32 ?_
    refine lv_ti (y := (nI (se sn + 1))) (nI_add (se sn) 1) ?_
    exact W.iret (v := (nI (se sn + 1))) hx hb hr (fun t ht hW => ⟨⟨(nI (se sn + 1)), (), rfl, (congrArg nI (by unfold sqN; omega)), trivial⟩, hS.F ht⟩) hS.2.2 dX8_seen_33
  · have c_2 : ¬ ((se sn + 1) ≤ ((dn sn) - i)) := fun h => c_2 ((nI_leI (a := (se sn + 1)) (b := ((dn sn) - i)) (by omega) (by omega)).mpr h)
    refine lv_iload_n hx hb dX8_seen_21 rfl (lv_at hl 0 rfl) ?_
    refine lv_goto (tgt := 33) hx hb dX8_seen_22 (by decide) ?_
    exact W.iret (v := (nI ((dn sn) - i))) hx hb hr (fun t ht hW => ⟨⟨(nI ((dn sn) - i)), (), rfl, (congrArg nI (by unfold sqN; omega)), trivial⟩, hS.F ht⟩) hS.2.2 dX8_seen_33


set_option maxHeartbeats 4000000 in
set_option maxRecDepth 100000 in
theorem n_on (l : Launch) (D : va_G) (k : Nat → ClassId) (st : Nat → Nat) (lo : Nat) (a : Nat → Nat) (tx : Nat) (t0 : Nat) (we : Nat) (rd : Nat) (ru : Nat) (rw : Nat) (ca : Nat) (fp : Int32) (wd : Int64) (nu : Int32) (na : Int32) (ts : Int32) (df : Int32) (db : Int32) (sd : Int32) (dn : Nat → Nat) (se : Nat → Nat) (tm : Nat → Nat) (gs : Nat → Int32) (ffrees : Nat → Int32) (fprices : Nat → Int32) (fworths : Nat → Int32) (sn : Nat) (rn : Nat) (i : Nat) (g : Nat) (hdn : ∀ j, dn j ≤ 24) (hse : ∀ j, se j ≤ 2) (hs : sn < 3) (hrn : rn ≤ 3) (hi : i + 1 < dn sn) (hg : g < 2 ^ sqN (se sn) (dn sn) i) (hg8 : g < 8) : CRi l D k st lo yX8_on cX8_on 9 (some .int) ({ frames := 2, cells := 0, slots := 0, locals := 47 }) [.ref (a 0), .int (nI sn), .int (nI rn), .int (nI i), .int (nI g)] [((a 0), .inr (8, (fX8 a (nI tx) fp (nI t0) wd (nI we) nu na (nI rd) ts (nI ru) (nI rw) (nI ca) df db sd))), (aI k (a 1) 3 (nF dn)), (aI k (a 4) 27 (sg se tm gs)), (aI k (a 2) 72 ffrees), (aI k (a 3) 72 fprices), (aI k (a 19) 768 fworths)] (fun r => r = pNx (sdM dn (sg se tm gs) ffrees fprices sn) (se sn) i (fun h => fworths (slN rn (i + 1) h)) g) := by
  intro sz
  refine Met.ofW (cc := cX8_on) (maxL := 9) (ret := (some .int)) (by decide) rfl ?_
  intro p e s m args below meth c s₁ B hml hv
  obtain ⟨rfl, hsz, hlo, hP, hK, hDL, hZ⟩ := hv
  have hx := B.exec
  have hb := B.bytes
  have hr := B.returns
  have hts := WS_ts B.pre
  have hown : s.vm.findClass RX8 = some m.cls := findClass_of_methodNamed B.named
  have hlocks := B.notSynchronized
  subst hsz
  have hA : ∀ q : Nat, s.heap.size ≤ q → (fun q : Nat => s.heap.size ≤ q) q := fun _ h => h
  have hAlo : ∀ q : Nat, (fun q : Nat => s.heap.size ≤ q) q → lo ≤ q := fun q h => Nat.le_trans hlo h
  have hS : va_S (fun q : Nat => s.heap.size ≤ q) s.heap s.heap [] := va_S.rf
  have hl := lv_entry ([.ref (a 0), .int (nI sn), .int (nI rn), .int (nI i), .int (nI g)]) (n := 9) (Nat.le_of_ble_eq_true rfl)
  rw [lg_entry_eq]
  generalize (lg_sl ([.ref (a 0), .int (nI sn), .int (nI rn), .int (nI i), .int (nI g)]) ++ List.replicate (9 - (lg_sl ([.ref (a 0), .int (nI sn), .int (nI rn), .int (nI i), .int (nI g)])).length) Slot.unset).toArray = ls at hl ⊢
  have hl : lv_has ls 9 [(0, .ref (a 0)), (1, .int (nI sn)), (2, .int (nI rn)), (3, .int (nI i)), (4, .int (nI g))] := hl
  have hd_9 := hdn sn
  have hd_8 := hse sn
  refine lv_aload_n hx hb dX8_on_0 rfl (lv_at hl 0 rfl) ?_
  refine lv_iload_n hx hb dX8_on_1 rfl (lv_at hl 1 rfl) ?_
  refine lv_iconst (v := 5) hx hb dX8_on_2 (by decide) ?_
  refine ro_i (D := D) (va_runV (As := [.int (nI sn), .int 5]) (rest := []) ⟨hx, hb, hml, hown, hts⟩ ((m_of l D k st lo a tx t0 we rd ru rw ca fp wd nu na ts df db sd se tm gs sn 5 (by first | assumption | omega) (by first | assumption | omega)) s.heap.size) (cwV 2 hts (gV tw_1194 tw_1196 tw_39 tw_87 tw_1197) rfl rfl rfl (by decide +kernel) ⟨Nat.le_of_ble_eq_true rfl, Nat.le_of_ble_eq_true rfl⟩) (pV hS hAlo hlo hP hK hDL hZ [0, 2] (by decide) rfl (ci := 8) (q := (RX8, TX8, 44)) (q0 := 0) rfl rfl) rfl rfl hl.1 rfl (lv_room (Nat.le_of_ble_eq_true rfl)) dX8_on_3 ⟨Nat.le_of_ble_eq_true rfl, Nat.le_of_ble_eq_true rfl⟩) hS hA hP (fun r_1 H locs hw_1 hP hS => ?_)
  try dsimp only at hw_1
  obtain rfl := hw_1.trans (sg_se _ _ _ _)
  refine lv_istore (lv' := [(5, .int (nI (se sn))), (0, .ref (a 0)), (1, .int (nI sn)), (2, .int (nI rn)), (3, .int (nI i)), (4, .int (nI g))]) hx hb dX8_on_6 hl (by decide) rfl (fun ls hl => ?_)
  refine lv_iload_n hx hb dX8_on_8 rfl (lv_at hl 4 rfl) ?_
  refine lv_iconst (v := 1) hx hb dX8_on_9 (by decide) ?_
  refine lv_iadd hx hb dX8_on_10 ?_
  refine lv_ti (y := (nI (i + 1))) (nI_add i 1) ?_
  refine lv_iload hx hb dX8_on_11 (lv_at hl 0 rfl) ?_
  refine lv_iadd hx hb dX8_on_13 ?_
  refine lv_ti (y := (nI (i + 1 + se sn))) (nI_add (i + 1) (se sn)) ?_
  refine lv_istore (lv' := [(6, .int (nI (i + 1 + se sn))), (5, .int (nI (se sn))), (0, .ref (a 0)), (1, .int (nI sn)), (2, .int (nI rn)), (3, .int (nI i)), (4, .int (nI g))]) hx hb dX8_on_14 hl (by decide) rfl (fun ls hl => ?_)
  refine lv_iload hx hb dX8_on_16 (lv_at hl 6 rfl) ?_
  refine lv_iconst (v := 1) hx hb dX8_on_18 (by decide) ?_
  refine lv_ishr hx hb dX8_on_19 ?_
  refine lv_ti (y := (nI (g / 2))) (pk_shrN (by omega) _ 1 (by decide)) ?_
  refine lv_istore (lv' := [(7, .int (nI (g / 2))), (6, .int (nI (i + 1 + se sn))), (5, .int (nI (se sn))), (0, .ref (a 0)), (1, .int (nI sn)), (2, .int (nI rn)), (3, .int (nI i)), (4, .int (nI g))]) hx hb dX8_on_20 hl (by decide) rfl (fun ls hl => ?_)
  refine lv_iload hx hb dX8_on_22 (lv_at hl 1 rfl) ?_
  refine lv_aload_n hx hb dX8_on_24 rfl (lv_at hl 3 rfl) ?_
  refine va_get (D := D) (ci := 8) (v := .ref (a 1)) (C := RX8) (T := TX8) (N := 44) hx hb hts inX8 hown hK hP 0 rfl rfl 0 (by decide) (hts _ tw_973) (fun _ h9 => h9) rfl dX8_on_25 ?_
  refine lv_iload_n hx hb dX8_on_28 rfl (lv_at hl 4 rfl) ?_
  refine va_iald hx hb hK hP 1 1 rfl rfl (vp_in_nI (by omega) (by decide)) dX8_on_29 ?_
  refine lv_ti (y := (nI (dn sn))) (by rw [nI_clamp (by omega)]; rfl) ?_
  refine lv_icmp_lt (tgt := 48) hx hb dX8_on_30 (by decide) (fun c_2 => ?_) (fun c_2 => ?_)
  · have c_2 := (nI_ltI (a := (i + 1 + se sn)) (b := (dn sn)) (by omega) (by omega)).mp c_2
    have hgh_9 : g / 2 < 2 ^ se sn := half_lt (by rw [← (sq_in (show i + 1 + se sn < dn sn by omega)).1]; exact hg)
    have hp5_9 := pw4 (show se sn ≤ 2 by omega)
    refine lv_aload_n hx hb dX8_on_48 rfl (lv_at hl 3 rfl) ?_
    refine lv_iload_n hx hb dX8_on_49 rfl (lv_at hl 4 rfl) ?_
    refine lv_iload hx hb dX8_on_50 (lv_at hl 1 rfl) ?_
    refine lv_iload hx hb dX8_on_52 (lv_at hl 7 rfl) ?_
    refine lv_iload hx hb dX8_on_54 (lv_at hl 2 rfl) ?_
    refine lv_ishr hx hb dX8_on_56 ?_
    refine lv_topi (fun x_3 ex_3 => ?_)
    refine lv_iconst (v := 1) hx hb dX8_on_57 (by decide) ?_
    refine lv_iand hx hb dX8_on_58 ?_
    refine lv_topi (fun x_4 ex_4 => ?_)
    refine lv_iconst (v := 1) hx hb dX8_on_59 (by decide) ?_
    refine lv_icmp_ne (tgt := 67) hx hb dX8_on_60 (by decide) (fun c_5 => ?_) (fun c_5 => ?_)
    · rw [ex_4, ex_3] at c_5
      refine lv_iconst (v := 0) hx hb dX8_on_67 (by decide) ?_
      refine ro_i (D := D) (va_runV (As := [.int (nI sn), .int (nI (i + 1 + se sn)), .int 0]) (rest := []) ⟨hx, hb, hml, hown, hts⟩ ((n_chanceOf l D k st lo a tx t0 we rd ru rw ca fp wd nu na ts df db sd ffrees se tm gs sn (i + 1 + se sn) 0 (by first | assumption | omega) (by first | assumption | omega)) H.size) (cwV 3 hts (gV tw_1210 tw_1212 tw_41 tw_87 tw_1213) rfl rfl rfl (by decide +kernel) ⟨Nat.le_of_ble_eq_true rfl, Nat.le_of_ble_eq_true rfl⟩) (pV hS hAlo hlo hP hK hDL hZ [0, 3, 2] (by decide) rfl (ci := 8) (q := (RX8, TX8, 44)) (q0 := 0) rfl rfl) rfl rfl hl.1 rfl (lv_room (Nat.le_of_ble_eq_true rfl)) dX8_on_68 ⟨Nat.le_of_ble_eq_true rfl, Nat.le_of_ble_eq_true rfl⟩) hS hA hP (fun r_6 H locs hw_6 hP hS => ?_)
      try dsimp only at hw_6
      refine lv_istore (lv' := [(8, .int r_6), (7, .int (nI (g / 2))), (6, .int (nI (i + 1 + se sn))), (5, .int (nI (se sn))), (0, .ref (a 0)), (1, .int (nI sn)), (2, .int (nI rn)), (3, .int (nI i)), (4, .int (nI g))]) hx hb dX8_on_71 hl (by decide) rfl (fun ls hl => ?_)
      refine lv_iload hx hb dX8_on_73 (lv_at hl 0 rfl) ?_
      refine lv_aload_n hx hb dX8_on_75 rfl (lv_at hl 4 rfl) ?_
      refine va_get (D := D) (ci := 8) (v := .ref (a 19)) (C := RX8) (T := TX8) (N := 44) hx hb hts inX8 hown hK hP 0 rfl rfl 18 (by decide) (hts _ tw_991) (fun _ h9 => h9) rfl dX8_on_76 ?_
      refine lv_iload_n hx hb dX8_on_79 rfl (lv_at hl 6 rfl) ?_
      refine lv_iload_n hx hb dX8_on_80 rfl (lv_at hl 7 rfl) ?_
      refine lv_iconst (v := 1) hx hb dX8_on_81 (by decide) ?_
      refine lv_iadd hx hb dX8_on_82 ?_
      refine lv_ti (y := (nI (i + 1))) (nI_add i 1) ?_
      refine lv_iload hx hb dX8_on_83 (lv_at hl 1 rfl) ?_
      refine lv_iconst (v := 1) hx hb dX8_on_85 (by decide) ?_
      refine lv_iload hx hb dX8_on_86 (lv_at hl 3 rfl) ?_
      refine lv_ishl hx hb dX8_on_88 ?_
      refine lv_ti (y := (nI (2 ^ (se sn)))) (shl1 (se sn) (by omega)) ?_
      refine lv_ior hx hb dX8_on_89 ?_
      refine lv_ti (y := (nI (g / 2 + 2 ^ (se sn)))) (or_bit2 (se sn) (by omega) (g / 2) (by omega)) ?_
      refine ro_i (D := D) (va_runS (As := [.int (nI rn), .int (nI (i + 1)), .int (nI (g / 2 + 2 ^ (se sn)))]) (rest := [.ref (a 19), .int r_6]) ⟨hx, hb, hml, hown, hts⟩ ((m_at l D k st lo rn (i + 1) (g / 2 + 2 ^ (se sn))) H.size) (va_cwS 3 hts (gS tw_1266 tw_1267 tw_87 tw_1268) rfl rfl rfl (by decide +kernel) ⟨Nat.le_of_ble_eq_true rfl, Nat.le_of_ble_eq_true rfl⟩) (pS hS hAlo hlo hP hK hDL hZ [] (by decide) rfl) rfl rfl hl.1 rfl (lv_room (Nat.le_of_ble_eq_true rfl)) dX8_on_90 ⟨Nat.le_of_ble_eq_true rfl, Nat.le_of_ble_eq_true rfl⟩) hS hA hP (fun r_7 H locs hw_7 hP hS => ?_)
      try dsimp only at hw_7
      subst hw_7
      refine va_iald hx hb hK hP 5 1 rfl rfl (vp_in_nI (by omega) (by decide)) dX8_on_93 ?_
      refine lv_ti (y := (fworths (192 * rn + 8 * (i + 1) + (g / 2 + 2 ^ (se sn))))) (by rw [nI_clamp (by omega)]) ?_
      refine lv_aload_n hx hb dX8_on_94 rfl (lv_at hl 4 rfl) ?_
      refine va_get (D := D) (ci := 8) (v := .ref (a 19)) (C := RX8) (T := TX8) (N := 44) hx hb hts inX8 hown hK hP 0 rfl rfl 18 (by decide) (hts _ tw_991) (fun _ h9 => h9) rfl dX8_on_95 ?_
      refine lv_iload_n hx hb dX8_on_98 rfl (lv_at hl 6 rfl) ?_
      refine lv_iload_n hx hb dX8_on_99 rfl (lv_at hl 7 rfl) ?_
      refine lv_iconst (v := 1) hx hb dX8_on_100 (by decide) ?_
      refine lv_iadd hx hb dX8_on_101 ?_
      refine lv_ti (y := (nI (i + 1))) (nI_add i 1) ?_
      refine lv_iload hx hb dX8_on_102 (lv_at hl 1 rfl) ?_
      refine ro_i (D := D) (va_runS (As := [.int (nI rn), .int (nI (i + 1)), .int (nI (g / 2))]) (rest := [.ref (a 19), .int (fworths (192 * rn + 8 * (i + 1) + (g / 2 + 2 ^ (se sn)))), .int r_6]) ⟨hx, hb, hml, hown, hts⟩ ((m_at l D k st lo rn (i + 1) (g / 2)) H.size) (va_cwS 3 hts (gS tw_1266 tw_1267 tw_87 tw_1268) rfl rfl rfl (by decide +kernel) ⟨Nat.le_of_ble_eq_true rfl, Nat.le_of_ble_eq_true rfl⟩) (pS hS hAlo hlo hP hK hDL hZ [] (by decide) rfl) rfl rfl hl.1 rfl (lv_room (Nat.le_of_ble_eq_true rfl)) dX8_on_104 ⟨Nat.le_of_ble_eq_true rfl, Nat.le_of_ble_eq_true rfl⟩) hS hA hP (fun r_8 H locs hw_8 hP hS => ?_)
      try dsimp only at hw_8
      subst hw_8
      refine va_iald hx hb hK hP 5 1 rfl rfl (vp_in_nI (by omega) (by decide)) dX8_on_107 ?_
      refine lv_ti (y := (fworths (192 * rn + 8 * (i + 1) + (g / 2)))) (by rw [nI_clamp (by omega)]) ?_
      refine ro_i (D := D) (va_runS (As := [.int r_6, .int (fworths (192 * rn + 8 * (i + 1) + (g / 2 + 2 ^ (se sn)))), .int (fworths (192 * rn + 8 * (i + 1) + (g / 2)))]) (rest := []) ⟨hx, hb, hml, hown, hts⟩ ((n_mixed l D k st lo r_6 (fworths (192 * rn + 8 * (i + 1) + (g / 2 + 2 ^ (se sn)))) (fworths (192 * rn + 8 * (i + 1) + (g / 2)))) H.size) (va_cwS 3 hts (gS tw_1269 tw_1270 tw_87 tw_1271) rfl rfl rfl (by decide +kernel) ⟨Nat.le_of_ble_eq_true rfl, Nat.le_of_ble_eq_true rfl⟩) (pS hS hAlo hlo hP hK hDL hZ [] (by decide) rfl) rfl rfl hl.1 rfl (lv_room (Nat.le_of_ble_eq_true rfl)) dX8_on_108 ⟨Nat.le_of_ble_eq_true rfl, Nat.le_of_ble_eq_true rfl⟩) hS hA hP (fun r_9 H locs hw_9 hP hS => ?_)
      try dsimp only at hw_9
      exact W.iret (v := r_9) hx hb hr (fun t ht hW => ⟨⟨r_9, (), rfl, nxm_1 (W := fun h => fworths (slN rn (i + 1) h)) (show i + 1 + se sn < dn sn by omega) (by rw [(pbm_0 (by omega) hg8 c_5)]; exact hw_6.trans (mChance (by omega))) (congrArg fworths (show 192 * rn + 8 * (i + 1) + (g / 2 + 2 ^ se sn) = slN rn (i + 1) (g / 2 + 2 ^ se sn) by unfold slN; omega)) (congrArg fworths (show 192 * rn + 8 * (i + 1) + (g / 2) = slN rn (i + 1) (g / 2) by unfold slN; omega)) hw_9, trivial⟩, hS.F ht⟩) hS.2.2 dX8_on_111
    · rw [ex_4, ex_3] at c_5
      refine lv_iconst (v := 1) hx hb dX8_on_63 (by decide) ?_
      refine lv_goto (tgt := 68) hx hb dX8_on_64 (by decide) ?_
      refine ro_i (D := D) (va_runV (As := [.int (nI sn), .int (nI (i + 1 + se sn)), .int 1]) (rest := []) ⟨hx, hb, hml, hown, hts⟩ ((n_chanceOf l D k st lo a tx t0 we rd ru rw ca fp wd nu na ts df db sd ffrees se tm gs sn (i + 1 + se sn) 1 (by first | assumption | omega) (by first | assumption | omega)) H.size) (cwV 3 hts (gV tw_1210 tw_1212 tw_41 tw_87 tw_1213) rfl rfl rfl (by decide +kernel) ⟨Nat.le_of_ble_eq_true rfl, Nat.le_of_ble_eq_true rfl⟩) (pV hS hAlo hlo hP hK hDL hZ [0, 3, 2] (by decide) rfl (ci := 8) (q := (RX8, TX8, 44)) (q0 := 0) rfl rfl) rfl rfl hl.1 rfl (lv_room (Nat.le_of_ble_eq_true rfl)) dX8_on_68 ⟨Nat.le_of_ble_eq_true rfl, Nat.le_of_ble_eq_true rfl⟩) hS hA hP (fun r_10 H locs hw_10 hP hS => ?_)
      try dsimp only at hw_10
      refine lv_istore (lv' := [(8, .int r_10), (7, .int (nI (g / 2))), (6, .int (nI (i + 1 + se sn))), (5, .int (nI (se sn))), (0, .ref (a 0)), (1, .int (nI sn)), (2, .int (nI rn)), (3, .int (nI i)), (4, .int (nI g))]) hx hb dX8_on_71 hl (by decide) rfl (fun ls hl => ?_)
      refine lv_iload hx hb dX8_on_73 (lv_at hl 0 rfl) ?_
      refine lv_aload_n hx hb dX8_on_75 rfl (lv_at hl 4 rfl) ?_
      refine va_get (D := D) (ci := 8) (v := .ref (a 19)) (C := RX8) (T := TX8) (N := 44) hx hb hts inX8 hown hK hP 0 rfl rfl 18 (by decide) (hts _ tw_991) (fun _ h9 => h9) rfl dX8_on_76 ?_
      refine lv_iload_n hx hb dX8_on_79 rfl (lv_at hl 6 rfl) ?_
      refine lv_iload_n hx hb dX8_on_80 rfl (lv_at hl 7 rfl) ?_
      refine lv_iconst (v := 1) hx hb dX8_on_81 (by decide) ?_
      refine lv_iadd hx hb dX8_on_82 ?_
      refine lv_ti (y := (nI (i + 1))) (nI_add i 1) ?_
      refine lv_iload hx hb dX8_on_83 (lv_at hl 1 rfl) ?_
      refine lv_iconst (v := 1) hx hb dX8_on_85 (by decide) ?_
      refine lv_iload hx hb dX8_on_86 (lv_at hl 3 rfl) ?_
      refine lv_ishl hx hb dX8_on_88 ?_
      refine lv_ti (y := (nI (2 ^ (se sn)))) (shl1 (se sn) (by omega)) ?_
      refine lv_ior hx hb dX8_on_89 ?_
      refine lv_ti (y := (nI (g / 2 + 2 ^ (se sn)))) (or_bit2 (se sn) (by omega) (g / 2) (by omega)) ?_
      refine ro_i (D := D) (va_runS (As := [.int (nI rn), .int (nI (i + 1)), .int (nI (g / 2 + 2 ^ (se sn)))]) (rest := [.ref (a 19), .int r_10]) ⟨hx, hb, hml, hown, hts⟩ ((m_at l D k st lo rn (i + 1) (g / 2 + 2 ^ (se sn))) H.size) (va_cwS 3 hts (gS tw_1266 tw_1267 tw_87 tw_1268) rfl rfl rfl (by decide +kernel) ⟨Nat.le_of_ble_eq_true rfl, Nat.le_of_ble_eq_true rfl⟩) (pS hS hAlo hlo hP hK hDL hZ [] (by decide) rfl) rfl rfl hl.1 rfl (lv_room (Nat.le_of_ble_eq_true rfl)) dX8_on_90 ⟨Nat.le_of_ble_eq_true rfl, Nat.le_of_ble_eq_true rfl⟩) hS hA hP (fun r_11 H locs hw_11 hP hS => ?_)
      try dsimp only at hw_11
      subst hw_11
      refine va_iald hx hb hK hP 5 1 rfl rfl (vp_in_nI (by omega) (by decide)) dX8_on_93 ?_
      refine lv_ti (y := (fworths (192 * rn + 8 * (i + 1) + (g / 2 + 2 ^ (se sn))))) (by rw [nI_clamp (by omega)]) ?_
      refine lv_aload_n hx hb dX8_on_94 rfl (lv_at hl 4 rfl) ?_
      refine va_get (D := D) (ci := 8) (v := .ref (a 19)) (C := RX8) (T := TX8) (N := 44) hx hb hts inX8 hown hK hP 0 rfl rfl 18 (by decide) (hts _ tw_991) (fun _ h9 => h9) rfl dX8_on_95 ?_
      refine lv_iload_n hx hb dX8_on_98 rfl (lv_at hl 6 rfl) ?_
      refine lv_iload_n hx hb dX8_on_99 rfl (lv_at hl 7 rfl) ?_
      refine lv_iconst (v := 1) hx hb dX8_on_100 (by decide) ?_
      refine lv_iadd hx hb dX8_on_101 ?_
      refine lv_ti (y := (nI (i + 1))) (nI_add i 1) ?_
      refine lv_iload hx hb dX8_on_102 (lv_at hl 1 rfl) ?_
      refine ro_i (D := D) (va_runS (As := [.int (nI rn), .int (nI (i + 1)), .int (nI (g / 2))]) (rest := [.ref (a 19), .int (fworths (192 * rn + 8 * (i + 1) + (g / 2 + 2 ^ (se sn)))), .int r_10]) ⟨hx, hb, hml, hown, hts⟩ ((m_at l D k st lo rn (i + 1) (g / 2)) H.size) (va_cwS 3 hts (gS tw_1266 tw_1267 tw_87 tw_1268) rfl rfl rfl (by decide +kernel) ⟨Nat.le_of_ble_eq_true rfl, Nat.le_of_ble_eq_true rfl⟩) (pS hS hAlo hlo hP hK hDL hZ [] (by decide) rfl) rfl rfl hl.1 rfl (lv_room (Nat.le_of_ble_eq_true rfl)) dX8_on_104 ⟨Nat.le_of_ble_eq_true rfl, Nat.le_of_ble_eq_true rfl⟩) hS hA hP (fun r_12 H locs hw_12 hP hS => ?_)
      try dsimp only at hw_12
      subst hw_12
      refine va_iald hx hb hK hP 5 1 rfl rfl (vp_in_nI (by omega) (by decide)) dX8_on_107 ?_
      refine lv_ti (y := (fworths (192 * rn + 8 * (i + 1) + (g / 2)))) (by rw [nI_clamp (by omega)]) ?_
      refine ro_i (D := D) (va_runS (As := [.int r_10, .int (fworths (192 * rn + 8 * (i + 1) + (g / 2 + 2 ^ (se sn)))), .int (fworths (192 * rn + 8 * (i + 1) + (g / 2)))]) (rest := []) ⟨hx, hb, hml, hown, hts⟩ ((n_mixed l D k st lo r_10 (fworths (192 * rn + 8 * (i + 1) + (g / 2 + 2 ^ (se sn)))) (fworths (192 * rn + 8 * (i + 1) + (g / 2)))) H.size) (va_cwS 3 hts (gS tw_1269 tw_1270 tw_87 tw_1271) rfl rfl rfl (by decide +kernel) ⟨Nat.le_of_ble_eq_true rfl, Nat.le_of_ble_eq_true rfl⟩) (pS hS hAlo hlo hP hK hDL hZ [] (by decide) rfl) rfl rfl hl.1 rfl (lv_room (Nat.le_of_ble_eq_true rfl)) dX8_on_108 ⟨Nat.le_of_ble_eq_true rfl, Nat.le_of_ble_eq_true rfl⟩) hS hA hP (fun r_13 H locs hw_13 hP hS => ?_)
      try dsimp only at hw_13
      exact W.iret (v := r_13) hx hb hr (fun t ht hW => ⟨⟨r_13, (), rfl, nxm_1 (W := fun h => fworths (slN rn (i + 1) h)) (show i + 1 + se sn < dn sn by omega) (by rw [(pbm_1 (by omega) hg8 c_5)]; exact hw_10.trans (mChance (by omega))) (congrArg fworths (show 192 * rn + 8 * (i + 1) + (g / 2 + 2 ^ se sn) = slN rn (i + 1) (g / 2 + 2 ^ se sn) by unfold slN; omega)) (congrArg fworths (show 192 * rn + 8 * (i + 1) + (g / 2) = slN rn (i + 1) (g / 2) by unfold slN; omega)) hw_13, trivial⟩, hS.F ht⟩) hS.2.2 dX8_on_111
  · have c_2 : ¬ ((i + 1 + se sn) < (dn sn)) := fun h => c_2 ((nI_ltI (a := (i + 1 + se sn)) (b := (dn sn)) (by omega) (by omega)).mpr h)
    refine lv_aload_n hx hb dX8_on_33 rfl (lv_at hl 3 rfl) ?_
    refine va_get (D := D) (ci := 8) (v := .ref (a 19)) (C := RX8) (T := TX8) (N := 44) hx hb hts inX8 hown hK hP 0 rfl rfl 18 (by decide) (hts _ tw_991) (fun _ h9 => h9) rfl dX8_on_34 ?_
    refine lv_iload_n hx hb dX8_on_37 rfl (lv_at hl 5 rfl) ?_
    refine lv_iload_n hx hb dX8_on_38 rfl (lv_at hl 6 rfl) ?_
    refine lv_iconst (v := 1) hx hb dX8_on_39 (by decide) ?_
    refine lv_iadd hx hb dX8_on_40 ?_
    refine lv_ti (y := (nI (i + 1))) (nI_add i 1) ?_
    refine lv_iload hx hb dX8_on_41 (lv_at hl 0 rfl) ?_
    refine ro_i (D := D) (va_runS (As := [.int (nI rn), .int (nI (i + 1)), .int (nI (g / 2))]) (rest := [.ref (a 19)]) ⟨hx, hb, hml, hown, hts⟩ ((m_at l D k st lo rn (i + 1) (g / 2)) H.size) (va_cwS 3 hts (gS tw_1266 tw_1267 tw_87 tw_1268) rfl rfl rfl (by decide +kernel) ⟨Nat.le_of_ble_eq_true rfl, Nat.le_of_ble_eq_true rfl⟩) (pS hS hAlo hlo hP hK hDL hZ [] (by decide) rfl) rfl rfl hl.1 rfl (lv_room (Nat.le_of_ble_eq_true rfl)) dX8_on_43 ⟨Nat.le_of_ble_eq_true rfl, Nat.le_of_ble_eq_true rfl⟩) hS hA hP (fun r_14 H locs hw_14 hP hS => ?_)
    try dsimp only at hw_14
    subst hw_14
    refine va_iald hx hb hK hP 5 1 rfl rfl (vp_in_nI (by omega) (by decide)) dX8_on_46 ?_
    refine lv_ti (y := (fworths (192 * rn + 8 * (i + 1) + (g / 2)))) (by rw [nI_clamp (by omega)]) ?_
    exact W.iret (v := (fworths (192 * rn + 8 * (i + 1) + (g / 2)))) hx hb hr (fun t ht hW => ⟨⟨(fworths (192 * rn + 8 * (i + 1) + (g / 2))), (), rfl, nx_0 (W := fun h => fworths (slN rn (i + 1) h)) (show ¬ i + 1 + se sn < dn sn by omega) (congrArg fworths (show 192 * rn + 8 * (i + 1) + (g / 2) = slN rn (i + 1) (g / 2) by unfold slN; omega)), trivial⟩, hS.F ht⟩) hS.2.2 dX8_on_47


set_option maxHeartbeats 4000000 in
set_option maxRecDepth 100000 in
theorem n_startOf (l : Launch) (D : va_G) (k : Nat → ClassId) (st : Nat → Nat) (lo : Nat) (a : Nat → Nat) (tx : Nat) (t0 : Nat) (we : Nat) (rd : Nat) (ru : Nat) (rw : Nat) (ca : Nat) (fp : Int32) (wd : Int64) (nu : Int32) (na : Int32) (ts : Int32) (df : Int32) (db : Int32) (sd : Int32) (dn : Nat → Nat) (se : Nat → Nat) (tm : Nat → Nat) (gs : Nat → Int32) (ffrees : Nat → Int32) (fprices : Nat → Int32) (fworths : Nat → Int32) (fbegin : Nat → Int32) (sn : Nat) (rn : Nat) (E9 : Int32) (hdn : ∀ j, dn j ≤ 24) (hse : ∀ j, se j ≤ 2) (hs : sn < 3) (hrn : rn ≤ 3) (h0 : 0 < dn sn) (hE : wwOK (sdM dn (sg se tm gs) ffrees fprices sn) (se sn) rn E9 0 fworths) : CWi l D k st lo yX8_startOf cX8_startOf 7 (some .int) ({ frames := 2, cells := 0, slots := 0, locals := 47 }) 0 0 [.ref (a 0), .int (nI sn), .int (nI rn)] [((a 0), .inr (8, (fX8 a (nI tx) fp (nI t0) wd (nI we) nu na (nI rd) ts (nI ru) (nI rw) (nI ca) df db sd))), (aI k (a 1) 3 (nF dn)), (aI k (a 4) 27 (sg se tm gs)), (aI k (a 2) 72 ffrees), (aI k (a 3) 72 fprices), (aI k (a 19) 768 fworths), (aI k (a 23) 8 fbegin)] (fun (r : Int32) (fbegin_ : (Nat → Int32)) => r = pSv (sdM dn (sg se tm gs) ffrees fprices sn) (se sn) rn E9) (fun (fbegin_ : (Nat → Int32)) => [((a 0), .inr (8, (fX8 a (nI tx) fp (nI t0) wd (nI we) nu na (nI rd) ts (nI ru) (nI rw) (nI ca) df db sd))), (aI k (a 1) 3 (nF dn)), (aI k (a 4) 27 (sg se tm gs)), (aI k (a 2) 72 ffrees), (aI k (a 3) 72 fprices), (aI k (a 19) 768 fworths), (aI k (a 23) 8 fbegin_)]) := by
  intro sz
  refine Met.ofW (cc := cX8_startOf) (maxL := 7) (ret := (some .int)) (by decide) rfl ?_
  intro p e s m args below meth c s₁ B hml hv
  obtain ⟨rfl, hsz, hlo, hP, hK, hDL, hZ⟩ := hv
  have hx := B.exec
  have hb := B.bytes
  have hr := B.returns
  have hts := WS_ts B.pre
  have hown : s.vm.findClass RX8 = some m.cls := findClass_of_methodNamed B.named
  have hlocks := B.notSynchronized
  subst hsz
  have hD := hDL.self (sz := s.heap.size)
  have hAlo := A_lo hDL hlo
  generalize hAe : va_A [((a 0), .inr (8, (fX8 a (nI tx) fp (nI t0) wd (nI we) nu na (nI rd) ts (nI ru) (nI rw) (nI ca) df db sd))), (aI k (a 1) 3 (nF dn)), (aI k (a 4) 27 (sg se tm gs)), (aI k (a 2) 72 ffrees), (aI k (a 3) 72 fprices), (aI k (a 19) 768 fworths), (aI k (a 23) 8 fbegin)] s.heap.size = A at hD hAlo ⊢
  have hA : ∀ q : Nat, s.heap.size ≤ q → A q := fun q h => by rw [← hAe]; exact Or.inr h
  have hS : va_S A s.heap s.heap [] := va_S.rf
  have hl := lv_entry ([.ref (a 0), .int (nI sn), .int (nI rn)]) (n := 7) (Nat.le_of_ble_eq_true rfl)
  rw [lg_entry_eq]
  generalize (lg_sl ([.ref (a 0), .int (nI sn), .int (nI rn)]) ++ List.replicate (7 - (lg_sl ([.ref (a 0), .int (nI sn), .int (nI rn)])).length) Slot.unset).toArray = ls at hl ⊢
  have hl : lv_has ls 7 [(0, .ref (a 0)), (1, .int (nI sn)), (2, .int (nI rn))] := hl
  have hd_9 := hdn sn
  have hd_8 := hse sn
  refine lv_aload_n hx hb dX8_startOf_0 rfl (lv_at hl 0 rfl) ?_
  refine lv_iload_n hx hb dX8_startOf_1 rfl (lv_at hl 1 rfl) ?_
  refine lv_iconst (v := 0) hx hb dX8_startOf_2 (by decide) ?_
  refine ro_i (D := D) (va_runV (As := [.int (nI sn), .int 0]) (rest := []) ⟨hx, hb, hml, hown, hts⟩ ((n_seen l D k st lo a tx t0 we rd ru rw ca fp wd nu na ts df db sd dn se tm gs sn 0 hdn hse (by first | assumption | omega) (by first | assumption | omega)) s.heap.size) (cwV 2 hts (gV tw_1246 tw_1248 tw_48 tw_87 tw_1249) rfl rfl rfl (by decide +kernel) ⟨Nat.le_of_ble_eq_true rfl, Nat.le_of_ble_eq_true rfl⟩) (pV hS hAlo hlo hP hK (va_Dlo hD hAlo) hZ [0, 1, 2] (by decide) rfl (ci := 8) (q := (RX8, TX8, 44)) (q0 := 0) rfl rfl) rfl rfl hl.1 rfl (lv_room (Nat.le_of_ble_eq_true rfl)) dX8_startOf_3 ⟨Nat.le_of_ble_eq_true rfl, Nat.le_of_ble_eq_true rfl⟩) hS hA hP (fun r_1 H locs hw_1 hP hS => ?_)
  try dsimp only at hw_1
  obtain ⟨sv_2, esv_2⟩ : ∃ z : Nat, z = sqN (se sn) (dn sn) 0 := ⟨_, rfl⟩
  rw [← esv_2] at hw_1
  subst hw_1
  have hsv_2 : sv_2 ≤ 3 ∧ sv_2 ≤ dn sn - 0 ∧ sv_2 ≤ se sn + 1 ∧ (0 < dn sn - 0 → 1 ≤ sv_2) := by have hse9 := hse sn; rw [esv_2]; unfold sqN; omega
  have hpv_2 := p8 (show sv_2 ≤ 3 by omega)
  have hpe_2 : 2 ^ sv_2 = 2 ^ sqN (se sn) (dn sn) 0 := by rw [esv_2]
  refine lv_istore_n (lv' := [(3, .int (nI sv_2)), (0, .ref (a 0)), (1, .int (nI sn)), (2, .int (nI rn))]) hx hb dX8_startOf_6 rfl hl (by decide) rfl (fun ls hl => ?_)
  refine lv_iconst (v := 0) hx hb dX8_startOf_7 (by decide) ?_
  refine lv_istore (lv' := [(4, .int 0), (3, .int (nI sv_2)), (0, .ref (a 0)), (1, .int (nI sn)), (2, .int (nI rn))]) hx hb dX8_startOf_8 hl (by decide) rfl (fun ls hl => ?_)
  refine W_loop (σ := Nat × (Nat → Int32)) (fun (n_ : Nat) (x_ : Nat × (Nat → Int32)) (H : Heap) (locs : List Loc) (ls : Array Slot) => match x_ with | (g2_3, fb_3) => n_ = 2 ^ sv_2 - g2_3 ∧ (g2_3 ≤ 2 ^ sv_2 ∧ ∀ h, h < g2_3 → fb_3 h = pWo (sdM dn (sg se tm gs) ffrees fprices sn) (se sn) rn E9 0 h) ∧ va_P D classes [((a 0), .inr (8, (fX8 a (nI tx) fp (nI t0) wd (nI we) nu na (nI rd) ts (nI ru) (nI rw) (nI ca) df db sd))), (aI k (a 1) 3 (nF dn)), (aI k (a 4) 27 (sg se tm gs)), (aI k (a 2) 72 ffrees), (aI k (a 3) 72 fprices), (aI k (a 19) 768 fworths), (aI k (a 23) 8 fb_3)] H ∧ va_D A [((a 0), .inr (8, (fX8 a (nI tx) fp (nI t0) wd (nI we) nu na (nI rd) ts (nI ru) (nI rw) (nI ca) df db sd))), (aI k (a 1) 3 (nF dn)), (aI k (a 4) 27 (sg se tm gs)), (aI k (a 2) 72 ffrees), (aI k (a 3) 72 fprices), (aI k (a 19) 768 fworths), (aI k (a 23) 8 fb_3)] ∧ va_S A s.heap H locs ∧ lv_has ls 7 [(4, .int (nI g2_3)), (3, .int (nI sv_2)), (0, .ref (a 0)), (1, .int (nI sn)), (2, .int (nI rn))]) (fun n_3 x_3 H locs ls hI ih_3 => ?_) _ (0, fbegin) ⟨rfl, ⟨Nat.zero_le _, fun h hh => absurd hh (Nat.not_lt_zero h)⟩, hP, hD, hS, (lv_sub hl [0, 1, 2, 3, 4] rfl)⟩
  obtain ⟨g2_3, fb_3⟩ := x_3
  obtain ⟨hm_3, hv_3, hP, hD, hS, hl⟩ := hI
  subst hm_3
  refine lv_iload hx hb dX8_startOf_10 (lv_at hl 0 rfl) ?_
  refine lv_iconst (v := 1) hx hb dX8_startOf_12 (by decide) ?_
  refine lv_iload_n hx hb dX8_startOf_13 rfl (lv_at hl 1 rfl) ?_
  refine lv_ishl hx hb dX8_startOf_14 ?_
  refine lv_ti (y := (nI (2 ^ sv_2))) (shl1 sv_2 (by omega)) ?_
  refine lv_icmp_ge (tgt := 43) hx hb dX8_startOf_15 (by decide) (fun c_4 => ?_) (fun c_4 => ?_)
  · have c_4 := (nI_leI (a := (2 ^ sv_2)) (b := g2_3) (by omega) (by omega)).mp c_4
    have hF_9 : ∀ h, h < 2 ^ (sqN (se sn) (dn sn) 0) → fb_3 h = pFo (sdM dn (sg se tm gs) ffrees fprices sn) (fun h => pWo (sdM dn (sg se tm gs) ffrees fprices sn) (se sn) rn E9 0 h) (sqN (se sn) (dn sn) 0) (0) h := fun h hh => hv_3.2 h (by rw [← esv_2] at hh; omega)
    refine lv_iload_n hx hb dX8_startOf_43 rfl (lv_at hl 1 rfl) ?_
    refine lv_iconst (v := 1) hx hb dX8_startOf_44 (by decide) ?_
    refine lv_isub hx hb dX8_startOf_45 ?_
    refine lv_ti (y := (nI sv_2 - 1)) rfl ?_
    refine lv_istore (lv' := [(4, .int (nI sv_2 - 1)), (3, .int (nI sv_2)), (0, .ref (a 0)), (1, .int (nI sn)), (2, .int (nI rn))]) hx hb dX8_startOf_46 hl (by decide) rfl (fun ls hl => ?_)
    refine W_loop (σ := Nat × (Nat → Int32)) (fun (n_ : Nat) (x_ : Nat × (Nat → Int32)) (H : Heap) (locs : List Loc) (ls : Array Slot) => match x_ with | (q_5, fb_5) => n_ = 2 * q_5 ∧ (q_5 ≤ sv_2 ∧ ∀ h, h < 2 ^ q_5 → fb_5 h = pFo (sdM dn (sg se tm gs) ffrees fprices sn) (fun h => pWo (sdM dn (sg se tm gs) ffrees fprices sn) (se sn) rn E9 0 h) (sqN (se sn) (dn sn) 0) ((sqN (se sn) (dn sn) 0) - q_5) h) ∧ va_P D classes [((a 0), .inr (8, (fX8 a (nI tx) fp (nI t0) wd (nI we) nu na (nI rd) ts (nI ru) (nI rw) (nI ca) df db sd))), (aI k (a 1) 3 (nF dn)), (aI k (a 4) 27 (sg se tm gs)), (aI k (a 2) 72 ffrees), (aI k (a 3) 72 fprices), (aI k (a 19) 768 fworths), (aI k (a 23) 8 fb_5)] H ∧ va_D A [((a 0), .inr (8, (fX8 a (nI tx) fp (nI t0) wd (nI we) nu na (nI rd) ts (nI ru) (nI rw) (nI ca) df db sd))), (aI k (a 1) 3 (nF dn)), (aI k (a 4) 27 (sg se tm gs)), (aI k (a 2) 72 ffrees), (aI k (a 3) 72 fprices), (aI k (a 19) 768 fworths), (aI k (a 23) 8 fb_5)] ∧ va_S A s.heap H locs ∧ lv_has ls 7 [(4, .int (nI q_5 - 1)), (3, .int (nI sv_2)), (0, .ref (a 0)), (1, .int (nI sn)), (2, .int (nI rn))]) (fun n_5 x_5 H locs ls hI ih_5 => ?_) _ (sv_2, fb_3) ⟨rfl, ⟨by omega, fun h hh => by rw [show (sqN (se sn) (dn sn) 0) - sv_2 = 0 by omega]; exact hF_9 h (by rw [← esv_2]; exact hh)⟩, hP, hD, hS, (lv_sub hl [0, 1, 2, 3, 4] rfl)⟩
    obtain ⟨q_5, fb_5⟩ := x_5
    obtain ⟨hm_5, hv_5, hP, hD, hS, hl⟩ := hI
    subst hm_5
    rcases q_5 with _ | q_5
    · rw [dn0] at hl
      refine lv_iload hx hb dX8_startOf_48 (lv_at hl 0 rfl) ?_
      refine lv_if_lt (tgt := 140) hx hb dX8_startOf_50 (by decide) (fun _ => ?_) (fun h => absurd (by decide) h)
      refine lv_aload_n hx hb dX8_startOf_140 rfl (lv_at hl 2 rfl) ?_
      refine va_get (D := D) (ci := 8) (v := .ref (a 23)) (C := RX8) (T := TX8) (N := 44) hx hb hts inX8 hown hK hP 0 rfl rfl 22 (by decide) (hts _ tw_995) (fun _ h9 => h9) rfl dX8_startOf_141 ?_
      refine lv_iconst (v := 0) hx hb dX8_startOf_144 (by decide) ?_
      refine va_iald hx hb hK hP 6 1 rfl rfl (by unfold vp_in; decide) dX8_startOf_145 ?_
      refine lv_ti (y := (fb_5 0)) (by rfl) ?_
      have hP9 := hP.sub (ws' := [((a 0), .inr (8, (fX8 a (nI tx) fp (nI t0) wd (nI we) nu na (nI rd) ts (nI ru) (nI rw) (nI ca) df db sd))), (aI k (a 1) 3 (nF dn)), (aI k (a 4) 27 (sg se tm gs)), (aI k (a 2) 72 ffrees), (aI k (a 3) 72 fprices), (aI k (a 19) 768 fworths), (aI k (a 23) 8 fb_5)]) [0, 1, 2, 3, 4, 5, 6] rfl
      have hD9 := hD.sub (ws' := [((a 0), .inr (8, (fX8 a (nI tx) fp (nI t0) wd (nI we) nu na (nI rd) ts (nI ru) (nI rw) (nI ca) df db sd))), (aI k (a 1) 3 (nF dn)), (aI k (a 4) 27 (sg se tm gs)), (aI k (a 2) 72 ffrees), (aI k (a 3) 72 fprices), (aI k (a 19) 768 fworths), (aI k (a 23) 8 fb_5)]) [0, 1, 2, 3, 4, 5, 6] (by decide) rfl
      exact W.iret (v := (fb_5 0)) hx hb hr (fun t ht hW => ⟨⟨(fb_5 0), fb_5, rfl, hv_5.2 0 (by decide), by rw [ht]; exact hP9, hD9⟩, hS.F ht⟩) hS.2.2 dX8_startOf_146
    · rw [nI_pred] at hl
      refine lv_iload hx hb dX8_startOf_48 (lv_at hl 0 rfl) ?_
      refine lv_if_lt (tgt := 140) hx hb dX8_startOf_50 (by decide) (fun h => absurd h (nI_pos0 (by omega))) (fun _ => ?_)
      refine lv_iconst (v := 0) hx hb dX8_startOf_53 (by decide) ?_
      refine lv_istore (lv' := [(5, .int 0), (4, .int (nI q_5)), (3, .int (nI sv_2)), (0, .ref (a 0)), (1, .int (nI sn)), (2, .int (nI rn))]) hx hb dX8_startOf_54 hl (by decide) rfl (fun ls hl => ?_)
      have hp4_5 := pw4 (show q_5 ≤ 2 by omega)
      refine W_loop (σ := Nat × (Nat → Int32)) (fun (n_ : Nat) (x_ : Nat × (Nat → Int32)) (H : Heap) (locs : List Loc) (ls : Array Slot) => match x_ with | (g3_6, fb3_6) => n_ = 2 ^ q_5 - g3_6 ∧ (g3_6 ≤ 2 ^ q_5 ∧ (∀ h, h < g3_6 → fb3_6 h = pFo (sdM dn (sg se tm gs) ffrees fprices sn) (fun h => pWo (sdM dn (sg se tm gs) ffrees fprices sn) (se sn) rn E9 0 h) (sqN (se sn) (dn sn) 0) ((sqN (se sn) (dn sn) 0) - q_5) h) ∧ (∀ h, g3_6 ≤ h → h < 2 ^ (q_5 + 1) → fb3_6 h = pFo (sdM dn (sg se tm gs) ffrees fprices sn) (fun h => pWo (sdM dn (sg se tm gs) ffrees fprices sn) (se sn) rn E9 0 h) (sqN (se sn) (dn sn) 0) ((sqN (se sn) (dn sn) 0) - (q_5 + 1)) h)) ∧ va_P D classes [((a 0), .inr (8, (fX8 a (nI tx) fp (nI t0) wd (nI we) nu na (nI rd) ts (nI ru) (nI rw) (nI ca) df db sd))), (aI k (a 1) 3 (nF dn)), (aI k (a 4) 27 (sg se tm gs)), (aI k (a 2) 72 ffrees), (aI k (a 3) 72 fprices), (aI k (a 19) 768 fworths), (aI k (a 23) 8 fb3_6)] H ∧ va_D A [((a 0), .inr (8, (fX8 a (nI tx) fp (nI t0) wd (nI we) nu na (nI rd) ts (nI ru) (nI rw) (nI ca) df db sd))), (aI k (a 1) 3 (nF dn)), (aI k (a 4) 27 (sg se tm gs)), (aI k (a 2) 72 ffrees), (aI k (a 3) 72 fprices), (aI k (a 19) 768 fworths), (aI k (a 23) 8 fb3_6)] ∧ va_S A s.heap H locs ∧ lv_has ls 7 [(5, .int (nI g3_6)), (4, .int (nI q_5)), (3, .int (nI sv_2)), (0, .ref (a 0)), (1, .int (nI sn)), (2, .int (nI rn))]) (fun n_6 x_6 H locs ls hI ih_6 => ?_) _ (0, fb_5) ⟨rfl, ⟨Nat.zero_le _, fun h hh => absurd hh (Nat.not_lt_zero h), fun h _ hh => hv_5.2 h hh⟩, hP, hD, hS, (lv_sub hl [0, 1, 2, 3, 4, 5] rfl)⟩
      obtain ⟨g3_6, fb3_6⟩ := x_6
      obtain ⟨hm_6, hv_6, hP, hD, hS, hl⟩ := hI
      subst hm_6
      refine lv_iload hx hb dX8_startOf_56 (lv_at hl 0 rfl) ?_
      refine lv_iconst (v := 1) hx hb dX8_startOf_58 (by decide) ?_
      refine lv_iload hx hb dX8_startOf_59 (lv_at hl 1 rfl) ?_
      refine lv_ishl hx hb dX8_startOf_61 ?_
      refine lv_ti (y := (nI (2 ^ q_5))) (shl1 q_5 (by omega)) ?_
      refine lv_icmp_ge (tgt := 134) hx hb dX8_startOf_62 (by decide) (fun c_7 => ?_) (fun c_7 => ?_)
      · have c_7 := (nI_leI (a := (2 ^ q_5)) (b := g3_6) (by omega) (by omega)).mp c_7
        refine lv_iinc (v := (nI q_5 - 1)) (lv' := [(4, .int (nI q_5 - 1)), (5, .int (nI g3_6)), (3, .int (nI sv_2)), (0, .ref (a 0)), (1, .int (nI sn)), (2, .int (nI rn))]) hx hb dX8_startOf_134 hl (k := 1) rfl (dn1 _) (by decide) rfl (fun ls hl => ?_)
        refine lv_goto (tgt := 48) hx hb dX8_startOf_137 (by decide) ?_
        exact ih_5 _ (q_5, fb3_6) _ _ _ (by omega) ⟨rfl, ⟨by omega, fun h hh => hv_6.2.1 h (by omega)⟩, hP, hD, hS, (lv_sub hl [0, 2, 3, 4, 5] rfl)⟩
      · have c_7 : ¬ ((2 ^ q_5) ≤ g3_6) := fun h => c_7 ((nI_leI (a := (2 ^ q_5)) (b := g3_6) (by omega) (by omega)).mpr h)
        refine lv_iload hx hb dX8_startOf_65 (lv_at hl 1 rfl) ?_
        refine lv_if_le (tgt := 87) hx hb dX8_startOf_67 (by decide) (fun c_8 => ?_) (fun c_8 => ?_)
        · have c_8 := (nI_leI (a := q_5) (b := 0) (by omega) (by omega)).mp c_8
          refine lv_iconst (v := 0) hx hb dX8_startOf_87 (by decide) ?_
          refine lv_istore (lv' := [(6, .int 0), (5, .int (nI g3_6)), (4, .int (nI q_5)), (3, .int (nI sv_2)), (0, .ref (a 0)), (1, .int (nI sn)), (2, .int (nI rn))]) hx hb dX8_startOf_88 hl (by decide) rfl (fun ls hl => ?_)
          refine lv_aload_n hx hb dX8_startOf_90 rfl (lv_at hl 4 rfl) ?_
          refine va_get (D := D) (ci := 8) (v := .ref (a 23)) (C := RX8) (T := TX8) (N := 44) hx hb hts inX8 hown hK hP 0 rfl rfl 22 (by decide) (hts _ tw_995) (fun _ h9 => h9) rfl dX8_startOf_91 ?_
          refine lv_iload hx hb dX8_startOf_94 (lv_at hl 1 rfl) ?_
          refine lv_aload_n hx hb dX8_startOf_96 rfl (lv_at hl 4 rfl) ?_
          refine lv_iload_n hx hb dX8_startOf_97 rfl (lv_at hl 5 rfl) ?_
          refine lv_iload hx hb dX8_startOf_98 (lv_at hl 2 rfl) ?_
          refine lv_iload hx hb dX8_startOf_100 (lv_at hl 0 rfl) ?_
          refine ro_i (D := D) (va_runV (As := [.int (nI sn), .int (nI q_5), .int 0]) (rest := [.int (nI g3_6), .ref (a 23)]) ⟨hx, hb, hml, hown, hts⟩ ((n_chanceOf l D k st lo a tx t0 we rd ru rw ca fp wd nu na ts df db sd ffrees se tm gs sn q_5 0 (by first | assumption | omega) (by first | assumption | omega)) H.size) (cwV 3 hts (gV tw_1210 tw_1212 tw_41 tw_87 tw_1213) rfl rfl rfl (by decide +kernel) ⟨Nat.le_of_ble_eq_true rfl, Nat.le_of_ble_eq_true rfl⟩) (pV hS hAlo hlo hP hK (va_Dlo hD hAlo) hZ [0, 3, 2] (by decide) rfl (ci := 8) (q := (RX8, TX8, 44)) (q0 := 0) rfl rfl) rfl rfl hl.1 rfl (lv_room (Nat.le_of_ble_eq_true rfl)) dX8_startOf_102 ⟨Nat.le_of_ble_eq_true rfl, Nat.le_of_ble_eq_true rfl⟩) hS hA hP (fun r_9 H locs hw_9 hP hS => ?_)
          try dsimp only at hw_9
          refine lv_aload_n hx hb dX8_startOf_105 rfl (lv_at hl 4 rfl) ?_
          refine va_get (D := D) (ci := 8) (v := .ref (a 23)) (C := RX8) (T := TX8) (N := 44) hx hb hts inX8 hown hK hP 0 rfl rfl 22 (by decide) (hts _ tw_995) (fun _ h9 => h9) rfl dX8_startOf_106 ?_
          refine lv_iload hx hb dX8_startOf_109 (lv_at hl 1 rfl) ?_
          refine lv_iconst (v := 1) hx hb dX8_startOf_111 (by decide) ?_
          refine lv_iload hx hb dX8_startOf_112 (lv_at hl 2 rfl) ?_
          refine lv_ishl hx hb dX8_startOf_114 ?_
          refine lv_ti (y := (nI (2 ^ q_5))) (shl1 q_5 (by omega)) ?_
          refine lv_ior hx hb dX8_startOf_115 ?_
          refine lv_ti (y := (nI (g3_6 + 2 ^ q_5))) (or_bit2 q_5 (by omega) g3_6 (by omega)) ?_
          refine va_iald hx hb hK hP 6 1 rfl rfl (vp_in_nI (by omega) (by decide)) dX8_startOf_116 ?_
          refine lv_ti (y := (fb3_6 (g3_6 + 2 ^ q_5))) (by rw [nI_clamp (by omega)]) ?_
          refine lv_aload_n hx hb dX8_startOf_117 rfl (lv_at hl 4 rfl) ?_
          refine va_get (D := D) (ci := 8) (v := .ref (a 23)) (C := RX8) (T := TX8) (N := 44) hx hb hts inX8 hown hK hP 0 rfl rfl 22 (by decide) (hts _ tw_995) (fun _ h9 => h9) rfl dX8_startOf_118 ?_
          refine lv_iload hx hb dX8_startOf_121 (lv_at hl 1 rfl) ?_
          refine va_iald hx hb hK hP 6 1 rfl rfl (vp_in_nI (by omega) (by decide)) dX8_startOf_123 ?_
          refine lv_ti (y := (fb3_6 g3_6)) (by rw [nI_clamp (by omega)]) ?_
          refine ro_i (D := D) (va_runS (As := [.int r_9, .int (fb3_6 (g3_6 + 2 ^ q_5)), .int (fb3_6 g3_6)]) (rest := [.int (nI g3_6), .ref (a 23)]) ⟨hx, hb, hml, hown, hts⟩ ((n_mixed l D k st lo r_9 (fb3_6 (g3_6 + 2 ^ q_5)) (fb3_6 g3_6)) H.size) (va_cwS 3 hts (gS tw_1269 tw_1270 tw_87 tw_1271) rfl rfl rfl (by decide +kernel) ⟨Nat.le_of_ble_eq_true rfl, Nat.le_of_ble_eq_true rfl⟩) (pS hS hAlo hlo hP hK (va_Dlo hD hAlo) hZ [] (by decide) rfl) rfl rfl hl.1 rfl (lv_room (Nat.le_of_ble_eq_true rfl)) dX8_startOf_124 ⟨Nat.le_of_ble_eq_true rfl, Nat.le_of_ble_eq_true rfl⟩) hS hA hP (fun r_10 H locs hw_10 hP hS => ?_)
          try dsimp only at hw_10
          refine va_iast hx hb hK hP hD hS 6 1 rfl rfl (vp_in_nI (by omega) (by decide)) dX8_startOf_127 (fun H locs hP hD hS => ?_)
          replace hP : va_P D classes [((a 0), .inr (8, (fX8 a (nI tx) fp (nI t0) wd (nI we) nu na (nI rd) ts (nI ru) (nI rw) (nI ca) df db sd))), (aI k (a 1) 3 (nF dn)), (aI k (a 4) 27 (sg se tm gs)), (aI k (a 2) 72 ffrees), (aI k (a 3) 72 fprices), (aI k (a 19) 768 fworths), (aI k (a 23) 8 (upd fb3_6 (Int32.toNatClampNeg (nI g3_6)) r_10))] H := hP
          replace hD : va_D A [((a 0), .inr (8, (fX8 a (nI tx) fp (nI t0) wd (nI we) nu na (nI rd) ts (nI ru) (nI rw) (nI ca) df db sd))), (aI k (a 1) 3 (nF dn)), (aI k (a 4) 27 (sg se tm gs)), (aI k (a 2) 72 ffrees), (aI k (a 3) 72 fprices), (aI k (a 19) 768 fworths), (aI k (a 23) 8 (upd fb3_6 (Int32.toNatClampNeg (nI g3_6)) r_10))] := hD
          rw [nI_clamp (n := g3_6) (by omega)] at hP hD
          replace hP : va_P D classes [((a 0), .inr (8, (fX8 a (nI tx) fp (nI t0) wd (nI we) nu na (nI rd) ts (nI ru) (nI rw) (nI ca) df db sd))), (aI k (a 1) 3 (nF dn)), (aI k (a 4) 27 (sg se tm gs)), (aI k (a 2) 72 ffrees), (aI k (a 3) 72 fprices), (aI k (a 19) 768 fworths), (aI k (a 23) 8 (upd fb3_6 g3_6 r_10))] H := hP
          replace hD : va_D A [((a 0), .inr (8, (fX8 a (nI tx) fp (nI t0) wd (nI we) nu na (nI rd) ts (nI ru) (nI rw) (nI ca) df db sd))), (aI k (a 1) 3 (nF dn)), (aI k (a 4) 27 (sg se tm gs)), (aI k (a 2) 72 ffrees), (aI k (a 3) 72 fprices), (aI k (a 19) 768 fworths), (aI k (a 23) 8 (upd fb3_6 g3_6 r_10))] := hD
          refine lv_iinc (v := (nI (g3_6 + 1))) (lv' := [(5, .int (nI (g3_6 + 1))), (6, .int 0), (4, .int (nI q_5)), (3, .int (nI sv_2)), (0, .ref (a 0)), (1, .int (nI sn)), (2, .int (nI rn))]) hx hb dX8_startOf_128 hl (k := 1) rfl (nI_add g3_6 1) (by decide) rfl (fun ls hl => ?_)
          refine lv_goto (tgt := 56) hx hb dX8_startOf_131 (by decide) ?_
          have hst_6 := fo_stepM (d := (sdM dn (sg se tm gs) ffrees fprices sn)) (W := (fun h => pWo (sdM dn (sg se tm gs) ffrees fprices sn) (se sn) rn E9 0 h)) (q := (sqN (se sn) (dn sn) 0)) (show q_5 < (sqN (se sn) (dn sn) 0) by omega) (show g3_6 < 2 ^ q_5 by omega) hv_6.2.1 hv_6.2.2 (by rw [(show pAh g3_6 q_5 = 0 by rw [show q_5 = 0 by omega]; exact ah_z)]; exact hw_9.trans (mChance (show q_5 < dn sn by omega))) rfl rfl hw_10
          exact ih_6 _ (g3_6 + 1, (upd fb3_6 g3_6 r_10)) _ _ _ (by omega) ⟨rfl, ⟨by omega, hst_6.1, hst_6.2⟩, hP, hD, hS, (lv_sub hl [0, 2, 3, 4, 5, 6] rfl)⟩
        · have c_8 : ¬ (q_5 ≤ 0) := fun h => c_8 ((nI_leI (a := q_5) (b := 0) (by omega) (by omega)).mpr h)
          refine lv_iload hx hb dX8_startOf_70 (lv_at hl 0 rfl) ?_
          refine lv_iload hx hb dX8_startOf_72 (lv_at hl 1 rfl) ?_
          refine lv_iconst (v := 1) hx hb dX8_startOf_74 (by decide) ?_
          refine lv_isub hx hb dX8_startOf_75 ?_
          refine lv_ti (y := (nI (q_5 - 1))) (pk_sub (a := q_5) (b := 1) (by omega)) ?_
          refine lv_ishr hx hb dX8_startOf_76 ?_
          refine lv_topi (fun x_12 ex_12 => ?_)
          refine lv_iconst (v := 1) hx hb dX8_startOf_77 (by decide) ?_
          refine lv_iand hx hb dX8_startOf_78 ?_
          refine lv_topi (fun x_13 ex_13 => ?_)
          refine lv_iconst (v := 1) hx hb dX8_startOf_79 (by decide) ?_
          refine lv_icmp_ne (tgt := 87) hx hb dX8_startOf_80 (by decide) (fun c_14 => ?_) (fun c_14 => ?_)
          · rw [ex_13, ex_12] at c_14
            refine lv_iconst (v := 0) hx hb dX8_startOf_87 (by decide) ?_
            refine lv_istore (lv' := [(6, .int 0), (5, .int (nI g3_6)), (4, .int (nI q_5)), (3, .int (nI sv_2)), (0, .ref (a 0)), (1, .int (nI sn)), (2, .int (nI rn))]) hx hb dX8_startOf_88 hl (by decide) rfl (fun ls hl => ?_)
            refine lv_aload_n hx hb dX8_startOf_90 rfl (lv_at hl 4 rfl) ?_
            refine va_get (D := D) (ci := 8) (v := .ref (a 23)) (C := RX8) (T := TX8) (N := 44) hx hb hts inX8 hown hK hP 0 rfl rfl 22 (by decide) (hts _ tw_995) (fun _ h9 => h9) rfl dX8_startOf_91 ?_
            refine lv_iload hx hb dX8_startOf_94 (lv_at hl 1 rfl) ?_
            refine lv_aload_n hx hb dX8_startOf_96 rfl (lv_at hl 4 rfl) ?_
            refine lv_iload_n hx hb dX8_startOf_97 rfl (lv_at hl 5 rfl) ?_
            refine lv_iload hx hb dX8_startOf_98 (lv_at hl 2 rfl) ?_
            refine lv_iload hx hb dX8_startOf_100 (lv_at hl 0 rfl) ?_
            refine ro_i (D := D) (va_runV (As := [.int (nI sn), .int (nI q_5), .int 0]) (rest := [.int (nI g3_6), .ref (a 23)]) ⟨hx, hb, hml, hown, hts⟩ ((n_chanceOf l D k st lo a tx t0 we rd ru rw ca fp wd nu na ts df db sd ffrees se tm gs sn q_5 0 (by first | assumption | omega) (by first | assumption | omega)) H.size) (cwV 3 hts (gV tw_1210 tw_1212 tw_41 tw_87 tw_1213) rfl rfl rfl (by decide +kernel) ⟨Nat.le_of_ble_eq_true rfl, Nat.le_of_ble_eq_true rfl⟩) (pV hS hAlo hlo hP hK (va_Dlo hD hAlo) hZ [0, 3, 2] (by decide) rfl (ci := 8) (q := (RX8, TX8, 44)) (q0 := 0) rfl rfl) rfl rfl hl.1 rfl (lv_room (Nat.le_of_ble_eq_true rfl)) dX8_startOf_102 ⟨Nat.le_of_ble_eq_true rfl, Nat.le_of_ble_eq_true rfl⟩) hS hA hP (fun r_15 H locs hw_15 hP hS => ?_)
            try dsimp only at hw_15
            refine lv_aload_n hx hb dX8_startOf_105 rfl (lv_at hl 4 rfl) ?_
            refine va_get (D := D) (ci := 8) (v := .ref (a 23)) (C := RX8) (T := TX8) (N := 44) hx hb hts inX8 hown hK hP 0 rfl rfl 22 (by decide) (hts _ tw_995) (fun _ h9 => h9) rfl dX8_startOf_106 ?_
            refine lv_iload hx hb dX8_startOf_109 (lv_at hl 1 rfl) ?_
            refine lv_iconst (v := 1) hx hb dX8_startOf_111 (by decide) ?_
            refine lv_iload hx hb dX8_startOf_112 (lv_at hl 2 rfl) ?_
            refine lv_ishl hx hb dX8_startOf_114 ?_
            refine lv_ti (y := (nI (2 ^ q_5))) (shl1 q_5 (by omega)) ?_
            refine lv_ior hx hb dX8_startOf_115 ?_
            refine lv_ti (y := (nI (g3_6 + 2 ^ q_5))) (or_bit2 q_5 (by omega) g3_6 (by omega)) ?_
            refine va_iald hx hb hK hP 6 1 rfl rfl (vp_in_nI (by omega) (by decide)) dX8_startOf_116 ?_
            refine lv_ti (y := (fb3_6 (g3_6 + 2 ^ q_5))) (by rw [nI_clamp (by omega)]) ?_
            refine lv_aload_n hx hb dX8_startOf_117 rfl (lv_at hl 4 rfl) ?_
            refine va_get (D := D) (ci := 8) (v := .ref (a 23)) (C := RX8) (T := TX8) (N := 44) hx hb hts inX8 hown hK hP 0 rfl rfl 22 (by decide) (hts _ tw_995) (fun _ h9 => h9) rfl dX8_startOf_118 ?_
            refine lv_iload hx hb dX8_startOf_121 (lv_at hl 1 rfl) ?_
            refine va_iald hx hb hK hP 6 1 rfl rfl (vp_in_nI (by omega) (by decide)) dX8_startOf_123 ?_
            refine lv_ti (y := (fb3_6 g3_6)) (by rw [nI_clamp (by omega)]) ?_
            refine ro_i (D := D) (va_runS (As := [.int r_15, .int (fb3_6 (g3_6 + 2 ^ q_5)), .int (fb3_6 g3_6)]) (rest := [.int (nI g3_6), .ref (a 23)]) ⟨hx, hb, hml, hown, hts⟩ ((n_mixed l D k st lo r_15 (fb3_6 (g3_6 + 2 ^ q_5)) (fb3_6 g3_6)) H.size) (va_cwS 3 hts (gS tw_1269 tw_1270 tw_87 tw_1271) rfl rfl rfl (by decide +kernel) ⟨Nat.le_of_ble_eq_true rfl, Nat.le_of_ble_eq_true rfl⟩) (pS hS hAlo hlo hP hK (va_Dlo hD hAlo) hZ [] (by decide) rfl) rfl rfl hl.1 rfl (lv_room (Nat.le_of_ble_eq_true rfl)) dX8_startOf_124 ⟨Nat.le_of_ble_eq_true rfl, Nat.le_of_ble_eq_true rfl⟩) hS hA hP (fun r_16 H locs hw_16 hP hS => ?_)
            try dsimp only at hw_16
            refine va_iast hx hb hK hP hD hS 6 1 rfl rfl (vp_in_nI (by omega) (by decide)) dX8_startOf_127 (fun H locs hP hD hS => ?_)
            replace hP : va_P D classes [((a 0), .inr (8, (fX8 a (nI tx) fp (nI t0) wd (nI we) nu na (nI rd) ts (nI ru) (nI rw) (nI ca) df db sd))), (aI k (a 1) 3 (nF dn)), (aI k (a 4) 27 (sg se tm gs)), (aI k (a 2) 72 ffrees), (aI k (a 3) 72 fprices), (aI k (a 19) 768 fworths), (aI k (a 23) 8 (upd fb3_6 (Int32.toNatClampNeg (nI g3_6)) r_16))] H := hP
            replace hD : va_D A [((a 0), .inr (8, (fX8 a (nI tx) fp (nI t0) wd (nI we) nu na (nI rd) ts (nI ru) (nI rw) (nI ca) df db sd))), (aI k (a 1) 3 (nF dn)), (aI k (a 4) 27 (sg se tm gs)), (aI k (a 2) 72 ffrees), (aI k (a 3) 72 fprices), (aI k (a 19) 768 fworths), (aI k (a 23) 8 (upd fb3_6 (Int32.toNatClampNeg (nI g3_6)) r_16))] := hD
            rw [nI_clamp (n := g3_6) (by omega)] at hP hD
            replace hP : va_P D classes [((a 0), .inr (8, (fX8 a (nI tx) fp (nI t0) wd (nI we) nu na (nI rd) ts (nI ru) (nI rw) (nI ca) df db sd))), (aI k (a 1) 3 (nF dn)), (aI k (a 4) 27 (sg se tm gs)), (aI k (a 2) 72 ffrees), (aI k (a 3) 72 fprices), (aI k (a 19) 768 fworths), (aI k (a 23) 8 (upd fb3_6 g3_6 r_16))] H := hP
            replace hD : va_D A [((a 0), .inr (8, (fX8 a (nI tx) fp (nI t0) wd (nI we) nu na (nI rd) ts (nI ru) (nI rw) (nI ca) df db sd))), (aI k (a 1) 3 (nF dn)), (aI k (a 4) 27 (sg se tm gs)), (aI k (a 2) 72 ffrees), (aI k (a 3) 72 fprices), (aI k (a 19) 768 fworths), (aI k (a 23) 8 (upd fb3_6 g3_6 r_16))] := hD
            refine lv_iinc (v := (nI (g3_6 + 1))) (lv' := [(5, .int (nI (g3_6 + 1))), (6, .int 0), (4, .int (nI q_5)), (3, .int (nI sv_2)), (0, .ref (a 0)), (1, .int (nI sn)), (2, .int (nI rn))]) hx hb dX8_startOf_128 hl (k := 1) rfl (nI_add g3_6 1) (by decide) rfl (fun ls hl => ?_)
            refine lv_goto (tgt := 56) hx hb dX8_startOf_131 (by decide) ?_
            have hst_6 := fo_stepM (d := (sdM dn (sg se tm gs) ffrees fprices sn)) (W := (fun h => pWo (sdM dn (sg se tm gs) ffrees fprices sn) (se sn) rn E9 0 h)) (q := (sqN (se sn) (dn sn) 0)) (show q_5 < (sqN (se sn) (dn sn) 0) by omega) (show g3_6 < 2 ^ q_5 by omega) hv_6.2.1 hv_6.2.2 (by rw [(ahm_0 (by omega) (by omega) c_14)]; exact hw_15.trans (mChance (show q_5 < dn sn by omega))) rfl rfl hw_16
            exact ih_6 _ (g3_6 + 1, (upd fb3_6 g3_6 r_16)) _ _ _ (by omega) ⟨rfl, ⟨by omega, hst_6.1, hst_6.2⟩, hP, hD, hS, (lv_sub hl [0, 2, 3, 4, 5, 6] rfl)⟩
          · rw [ex_13, ex_12] at c_14
            refine lv_iconst (v := 1) hx hb dX8_startOf_83 (by decide) ?_
            refine lv_goto (tgt := 88) hx hb dX8_startOf_84 (by decide) ?_
            refine lv_istore (lv' := [(6, .int 1), (5, .int (nI g3_6)), (4, .int (nI q_5)), (3, .int (nI sv_2)), (0, .ref (a 0)), (1, .int (nI sn)), (2, .int (nI rn))]) hx hb dX8_startOf_88 hl (by decide) rfl (fun ls hl => ?_)
            refine lv_aload_n hx hb dX8_startOf_90 rfl (lv_at hl 4 rfl) ?_
            refine va_get (D := D) (ci := 8) (v := .ref (a 23)) (C := RX8) (T := TX8) (N := 44) hx hb hts inX8 hown hK hP 0 rfl rfl 22 (by decide) (hts _ tw_995) (fun _ h9 => h9) rfl dX8_startOf_91 ?_
            refine lv_iload hx hb dX8_startOf_94 (lv_at hl 1 rfl) ?_
            refine lv_aload_n hx hb dX8_startOf_96 rfl (lv_at hl 4 rfl) ?_
            refine lv_iload_n hx hb dX8_startOf_97 rfl (lv_at hl 5 rfl) ?_
            refine lv_iload hx hb dX8_startOf_98 (lv_at hl 2 rfl) ?_
            refine lv_iload hx hb dX8_startOf_100 (lv_at hl 0 rfl) ?_
            refine ro_i (D := D) (va_runV (As := [.int (nI sn), .int (nI q_5), .int 1]) (rest := [.int (nI g3_6), .ref (a 23)]) ⟨hx, hb, hml, hown, hts⟩ ((n_chanceOf l D k st lo a tx t0 we rd ru rw ca fp wd nu na ts df db sd ffrees se tm gs sn q_5 1 (by first | assumption | omega) (by first | assumption | omega)) H.size) (cwV 3 hts (gV tw_1210 tw_1212 tw_41 tw_87 tw_1213) rfl rfl rfl (by decide +kernel) ⟨Nat.le_of_ble_eq_true rfl, Nat.le_of_ble_eq_true rfl⟩) (pV hS hAlo hlo hP hK (va_Dlo hD hAlo) hZ [0, 3, 2] (by decide) rfl (ci := 8) (q := (RX8, TX8, 44)) (q0 := 0) rfl rfl) rfl rfl hl.1 rfl (lv_room (Nat.le_of_ble_eq_true rfl)) dX8_startOf_102 ⟨Nat.le_of_ble_eq_true rfl, Nat.le_of_ble_eq_true rfl⟩) hS hA hP (fun r_18 H locs hw_18 hP hS => ?_)
            try dsimp only at hw_18
            refine lv_aload_n hx hb dX8_startOf_105 rfl (lv_at hl 4 rfl) ?_
            refine va_get (D := D) (ci := 8) (v := .ref (a 23)) (C := RX8) (T := TX8) (N := 44) hx hb hts inX8 hown hK hP 0 rfl rfl 22 (by decide) (hts _ tw_995) (fun _ h9 => h9) rfl dX8_startOf_106 ?_
            refine lv_iload hx hb dX8_startOf_109 (lv_at hl 1 rfl) ?_
            refine lv_iconst (v := 1) hx hb dX8_startOf_111 (by decide) ?_
            refine lv_iload hx hb dX8_startOf_112 (lv_at hl 2 rfl) ?_
            refine lv_ishl hx hb dX8_startOf_114 ?_
            refine lv_ti (y := (nI (2 ^ q_5))) (shl1 q_5 (by omega)) ?_
            refine lv_ior hx hb dX8_startOf_115 ?_
            refine lv_ti (y := (nI (g3_6 + 2 ^ q_5))) (or_bit2 q_5 (by omega) g3_6 (by omega)) ?_
            refine va_iald hx hb hK hP 6 1 rfl rfl (vp_in_nI (by omega) (by decide)) dX8_startOf_116 ?_
            refine lv_ti (y := (fb3_6 (g3_6 + 2 ^ q_5))) (by rw [nI_clamp (by omega)]) ?_
            refine lv_aload_n hx hb dX8_startOf_117 rfl (lv_at hl 4 rfl) ?_
            refine va_get (D := D) (ci := 8) (v := .ref (a 23)) (C := RX8) (T := TX8) (N := 44) hx hb hts inX8 hown hK hP 0 rfl rfl 22 (by decide) (hts _ tw_995) (fun _ h9 => h9) rfl dX8_startOf_118 ?_
            refine lv_iload hx hb dX8_startOf_121 (lv_at hl 1 rfl) ?_
            refine va_iald hx hb hK hP 6 1 rfl rfl (vp_in_nI (by omega) (by decide)) dX8_startOf_123 ?_
            refine lv_ti (y := (fb3_6 g3_6)) (by rw [nI_clamp (by omega)]) ?_
            refine ro_i (D := D) (va_runS (As := [.int r_18, .int (fb3_6 (g3_6 + 2 ^ q_5)), .int (fb3_6 g3_6)]) (rest := [.int (nI g3_6), .ref (a 23)]) ⟨hx, hb, hml, hown, hts⟩ ((n_mixed l D k st lo r_18 (fb3_6 (g3_6 + 2 ^ q_5)) (fb3_6 g3_6)) H.size) (va_cwS 3 hts (gS tw_1269 tw_1270 tw_87 tw_1271) rfl rfl rfl (by decide +kernel) ⟨Nat.le_of_ble_eq_true rfl, Nat.le_of_ble_eq_true rfl⟩) (pS hS hAlo hlo hP hK (va_Dlo hD hAlo) hZ [] (by decide) rfl) rfl rfl hl.1 rfl (lv_room (Nat.le_of_ble_eq_true rfl)) dX8_startOf_124 ⟨Nat.le_of_ble_eq_true rfl, Nat.le_of_ble_eq_true rfl⟩) hS hA hP (fun r_19 H locs hw_19 hP hS => ?_)
            try dsimp only at hw_19
            refine va_iast hx hb hK hP hD hS 6 1 rfl rfl (vp_in_nI (by omega) (by decide)) dX8_startOf_127 (fun H locs hP hD hS => ?_)
            replace hP : va_P D classes [((a 0), .inr (8, (fX8 a (nI tx) fp (nI t0) wd (nI we) nu na (nI rd) ts (nI ru) (nI rw) (nI ca) df db sd))), (aI k (a 1) 3 (nF dn)), (aI k (a 4) 27 (sg se tm gs)), (aI k (a 2) 72 ffrees), (aI k (a 3) 72 fprices), (aI k (a 19) 768 fworths), (aI k (a 23) 8 (upd fb3_6 (Int32.toNatClampNeg (nI g3_6)) r_19))] H := hP
            replace hD : va_D A [((a 0), .inr (8, (fX8 a (nI tx) fp (nI t0) wd (nI we) nu na (nI rd) ts (nI ru) (nI rw) (nI ca) df db sd))), (aI k (a 1) 3 (nF dn)), (aI k (a 4) 27 (sg se tm gs)), (aI k (a 2) 72 ffrees), (aI k (a 3) 72 fprices), (aI k (a 19) 768 fworths), (aI k (a 23) 8 (upd fb3_6 (Int32.toNatClampNeg (nI g3_6)) r_19))] := hD
            rw [nI_clamp (n := g3_6) (by omega)] at hP hD
            replace hP : va_P D classes [((a 0), .inr (8, (fX8 a (nI tx) fp (nI t0) wd (nI we) nu na (nI rd) ts (nI ru) (nI rw) (nI ca) df db sd))), (aI k (a 1) 3 (nF dn)), (aI k (a 4) 27 (sg se tm gs)), (aI k (a 2) 72 ffrees), (aI k (a 3) 72 fprices), (aI k (a 19) 768 fworths), (aI k (a 23) 8 (upd fb3_6 g3_6 r_19))] H := hP
            replace hD : va_D A [((a 0), .inr (8, (fX8 a (nI tx) fp (nI t0) wd (nI we) nu na (nI rd) ts (nI ru) (nI rw) (nI ca) df db sd))), (aI k (a 1) 3 (nF dn)), (aI k (a 4) 27 (sg se tm gs)), (aI k (a 2) 72 ffrees), (aI k (a 3) 72 fprices), (aI k (a 19) 768 fworths), (aI k (a 23) 8 (upd fb3_6 g3_6 r_19))] := hD
            refine lv_iinc (v := (nI (g3_6 + 1))) (lv' := [(5, .int (nI (g3_6 + 1))), (6, .int 1), (4, .int (nI q_5)), (3, .int (nI sv_2)), (0, .ref (a 0)), (1, .int (nI sn)), (2, .int (nI rn))]) hx hb dX8_startOf_128 hl (k := 1) rfl (nI_add g3_6 1) (by decide) rfl (fun ls hl => ?_)
            refine lv_goto (tgt := 56) hx hb dX8_startOf_131 (by decide) ?_
            have hst_6 := fo_stepM (d := (sdM dn (sg se tm gs) ffrees fprices sn)) (W := (fun h => pWo (sdM dn (sg se tm gs) ffrees fprices sn) (se sn) rn E9 0 h)) (q := (sqN (se sn) (dn sn) 0)) (show q_5 < (sqN (se sn) (dn sn) 0) by omega) (show g3_6 < 2 ^ q_5 by omega) hv_6.2.1 hv_6.2.2 (by rw [(ahm_1 (by omega) (by omega) (by omega) c_14)]; exact hw_18.trans (mChance (show q_5 < dn sn by omega))) rfl rfl hw_19
            exact ih_6 _ (g3_6 + 1, (upd fb3_6 g3_6 r_19)) _ _ _ (by omega) ⟨rfl, ⟨by omega, hst_6.1, hst_6.2⟩, hP, hD, hS, (lv_sub hl [0, 2, 3, 4, 5, 6] rfl)⟩
  · have c_4 : ¬ ((2 ^ sv_2) ≤ g2_3) := fun h => c_4 ((nI_leI (a := (2 ^ sv_2)) (b := g2_3) (by omega) (by omega)).mpr h)
    refine lv_aload_n hx hb dX8_startOf_18 rfl (lv_at hl 2 rfl) ?_
    refine va_get (D := D) (ci := 8) (v := .ref (a 23)) (C := RX8) (T := TX8) (N := 44) hx hb hts inX8 hown hK hP 0 rfl rfl 22 (by decide) (hts _ tw_995) (fun _ h9 => h9) rfl dX8_startOf_19 ?_
    refine lv_iload hx hb dX8_startOf_22 (lv_at hl 0 rfl) ?_
    refine lv_aload_n hx hb dX8_startOf_24 rfl (lv_at hl 2 rfl) ?_
    refine va_get (D := D) (ci := 8) (v := .ref (a 19)) (C := RX8) (T := TX8) (N := 44) hx hb hts inX8 hown hK hP 0 rfl rfl 18 (by decide) (hts _ tw_991) (fun _ h9 => h9) rfl dX8_startOf_25 ?_
    refine lv_iload_n hx hb dX8_startOf_28 rfl (lv_at hl 4 rfl) ?_
    refine lv_iconst (v := 0) hx hb dX8_startOf_29 (by decide) ?_
    refine lv_iload hx hb dX8_startOf_30 (lv_at hl 0 rfl) ?_
    refine ro_i (D := D) (va_runS (As := [.int (nI rn), .int 0, .int (nI g2_3)]) (rest := [.ref (a 19), .int (nI g2_3), .ref (a 23)]) ⟨hx, hb, hml, hown, hts⟩ ((m_at l D k st lo rn 0 g2_3) H.size) (va_cwS 3 hts (gS tw_1266 tw_1267 tw_87 tw_1268) rfl rfl rfl (by decide +kernel) ⟨Nat.le_of_ble_eq_true rfl, Nat.le_of_ble_eq_true rfl⟩) (pS hS hAlo hlo hP hK (va_Dlo hD hAlo) hZ [] (by decide) rfl) rfl rfl hl.1 rfl (lv_room (Nat.le_of_ble_eq_true rfl)) dX8_startOf_32 ⟨Nat.le_of_ble_eq_true rfl, Nat.le_of_ble_eq_true rfl⟩) hS hA hP (fun r_21 H locs hw_21 hP hS => ?_)
    try dsimp only at hw_21
    subst hw_21
    refine va_iald hx hb hK hP 5 1 rfl rfl (vp_in_nI (by omega) (by decide)) dX8_startOf_35 ?_
    refine lv_ti (y := (fworths (192 * rn + 8 * 0 + g2_3))) (by rw [nI_clamp (by omega)]) ?_
    refine va_iast hx hb hK hP hD hS 6 1 rfl rfl (vp_in_nI (by omega) (by decide)) dX8_startOf_36 (fun H locs hP hD hS => ?_)
    replace hP : va_P D classes [((a 0), .inr (8, (fX8 a (nI tx) fp (nI t0) wd (nI we) nu na (nI rd) ts (nI ru) (nI rw) (nI ca) df db sd))), (aI k (a 1) 3 (nF dn)), (aI k (a 4) 27 (sg se tm gs)), (aI k (a 2) 72 ffrees), (aI k (a 3) 72 fprices), (aI k (a 19) 768 fworths), (aI k (a 23) 8 (upd fb_3 (Int32.toNatClampNeg (nI g2_3)) (fworths (192 * rn + 8 * 0 + g2_3))))] H := hP
    replace hD : va_D A [((a 0), .inr (8, (fX8 a (nI tx) fp (nI t0) wd (nI we) nu na (nI rd) ts (nI ru) (nI rw) (nI ca) df db sd))), (aI k (a 1) 3 (nF dn)), (aI k (a 4) 27 (sg se tm gs)), (aI k (a 2) 72 ffrees), (aI k (a 3) 72 fprices), (aI k (a 19) 768 fworths), (aI k (a 23) 8 (upd fb_3 (Int32.toNatClampNeg (nI g2_3)) (fworths (192 * rn + 8 * 0 + g2_3))))] := hD
    rw [nI_clamp (n := g2_3) (by omega)] at hP hD
    replace hP : va_P D classes [((a 0), .inr (8, (fX8 a (nI tx) fp (nI t0) wd (nI we) nu na (nI rd) ts (nI ru) (nI rw) (nI ca) df db sd))), (aI k (a 1) 3 (nF dn)), (aI k (a 4) 27 (sg se tm gs)), (aI k (a 2) 72 ffrees), (aI k (a 3) 72 fprices), (aI k (a 19) 768 fworths), (aI k (a 23) 8 (upd fb_3 g2_3 (fworths (192 * rn + 8 * 0 + g2_3))))] H := hP
    replace hD : va_D A [((a 0), .inr (8, (fX8 a (nI tx) fp (nI t0) wd (nI we) nu na (nI rd) ts (nI ru) (nI rw) (nI ca) df db sd))), (aI k (a 1) 3 (nF dn)), (aI k (a 4) 27 (sg se tm gs)), (aI k (a 2) 72 ffrees), (aI k (a 3) 72 fprices), (aI k (a 19) 768 fworths), (aI k (a 23) 8 (upd fb_3 g2_3 (fworths (192 * rn + 8 * 0 + g2_3))))] := hD
    refine lv_iinc (v := (nI (g2_3 + 1))) (lv' := [(4, .int (nI (g2_3 + 1))), (3, .int (nI sv_2)), (0, .ref (a 0)), (1, .int (nI sn)), (2, .int (nI rn))]) hx hb dX8_startOf_37 hl (k := 0) rfl (nI_add g2_3 1) (by decide) rfl (fun ls hl => ?_)
    refine lv_goto (tgt := 10) hx hb dX8_startOf_40 (by decide) ?_
    exact ih_3 _ (g2_3 + 1, (upd fb_3 g2_3 (fworths (192 * rn + 8 * 0 + g2_3)))) _ _ _ (by omega) ⟨rfl, ⟨by omega, la_upd hv_3.2 ((congrArg fworths (show 192 * rn + 8 * 0 + g2_3 = slN rn 0 g2_3 by unfold slN; omega)).trans (hE 0 (by omega) (show 0 < dn sn by omega) g2_3 (show g2_3 < 2 ^ sqN (se sn) (dn sn) 0 by rw [← esv_2]; omega)))⟩, hP, hD, hS, (lv_sub hl [0, 1, 2, 3, 4] rfl)⟩


theorem f_glueP12 : True := trivial
/-! feed -/
theorem c255 : ∀ i, i < 32 → (255#32).getLsbD i = decide (i < 8) := by decide +kernel
theorem d255 : ∀ i, i < 32 → (255#64).getLsbD i = decide (i < 8) := by decide +kernel
theorem by_bits (x : Int64) : x.toInt32.toInt8.toInt32.toInt8.toInt32 &&& 255 = (x &&& 255).toInt32 := by
  apply Int32.toBitVec_inj.mp
  apply BitVec.eq_of_getLsbD_eq
  intro i hi
  show (((((x.toBitVec.signExtend 32).signExtend 8).signExtend 32).signExtend 8).signExtend 32 &&& 255#32).getLsbD i = ((x.toBitVec &&& 255#64).signExtend 32).getLsbD i
  have h1 : i < 64 := by omega
  rw [BitVec.getLsbD_and, c255 i hi]
  simp only [BitVec.getLsbD_signExtend, BitVec.getLsbD_and, d255 i hi]
  by_cases h : i < 8
  · simp [h, hi, h1]
  · simp [h, hi, h1]
/-- the byte k of a long, from its lowest -/
def byW (w : Int64) (k : Nat) : Int32 := ((w >>> ((nI (8 * k)).toInt64 &&& 63)) &&& 255).toInt32
theorem byW_x {w x : Int64} {y z : Int32} {k : Nat} (h1 : x = w >>> ((nI (8 * k)).toInt64 &&& 63)) (h2 : y = x.toInt32) (h3 : z = y.toInt8.toInt32) : (vp_nar .byte z) &&& 255 = byW w k := by
  show z.toInt8.toInt32 &&& 255 = _
  rw [h3, h2, h1]
  exact by_bits _
def feB (b : Nat → Int32) (tz : Nat) (w : Int64) (n m : Nat) : Nat → Int32 := fun j => if tz ≤ j ∧ j < tz + m then byW w (n - 1 - (j - tz)) else b j
theorem feB_0 {b : Nat → Int32} {tz n : Nat} {w : Int64} : feB b tz w n 0 = b := by
  funext j
  unfold feB
  rw [if_neg (by omega)]
theorem feB_s {b : Nat → Int32} {tz n q : Nat} {w : Int64} (hq : q + 1 ≤ n) : upd (feB b tz w n (n - (q + 1))) (tz + (n - (q + 1))) (byW w q) = feB b tz w n (n - q) := by
  funext j
  show (if j = tz + (n - (q + 1)) then byW w q else (if tz ≤ j ∧ j < tz + (n - (q + 1)) then byW w (n - 1 - (j - tz)) else b j)) = (if tz ≤ j ∧ j < tz + (n - q) then byW w (n - 1 - (j - tz)) else b j)
  by_cases h : j = tz + (n - (q + 1))
  · rw [if_pos h, if_pos (by omega), show n - 1 - (j - tz) = q by omega]
  · rw [if_neg h]
    by_cases h1 : tz ≤ j ∧ j < tz + (n - (q + 1))
    · rw [if_pos h1, if_pos (by omega)]
    · rw [if_neg h1, if_neg (by omega)]
theorem bF_upd {f : Nat → Int32} {i : Nat} {v : Int32} : bF (upd f i v) = upd (bF f) i (v &&& 255) := by
  funext j
  show (if j = i then v else f j) &&& 255 = (if j = i then v &&& 255 else f j &&& 255)
  by_cases h : j = i
  · rw [if_pos h, if_pos h]
  · rw [if_neg h, if_neg h]
theorem fe_step {f b : Nat → Int32} {t tz n q : Nat} {w : Int64} {v : Int32} (hB : bF f = feB b tz w n (n - (q + 1))) (ht : t = tz + (n - (q + 1))) (hq : q + 1 ≤ n) (hv : v &&& 255 = byW w q) : bF (upd f t v) = feB b tz w n (n - q) := by
  rw [bF_upd, hv, hB, ht, feB_s hq]
theorem fe_stepM {f b : Nat → Int32} {t tz n q : Nat} {w : Int64} (hB : f = feB b tz w n (n - (q + 1))) (ht : t = tz + (n - (q + 1))) (hq : q + 1 ≤ n) : upd f t (byW w q) = feB b tz w n (n - q) := by
  rw [hB, ht, feB_s hq]
def feP (p0 : Int32) (w : Int64) (tz : Nat) (b : Nat → Int32) (r : Int32) (tz' : Nat) (b' : Nat → Int32) : Prop := (¬ inB p0 1 8 → r = -1002 ∧ tz' = tz ∧ b' = b) ∧ ∀ n : Nat, 1 ≤ n → n ≤ 8 → p0 = nI n → (240 < tz + n → r = -1004 ∧ tz' = tz ∧ b' = b) ∧ (tz + n ≤ 240 → r = nI (tz + n) ∧ tz' = tz + n ∧ b' = feB b tz w n n)
theorem fe_in {n : Nat} (h1 : 1 ≤ n) (h2 : n ≤ 8) : inB (nI n) 1 8 := ⟨(nI_leI (a := 1) (b := n) (by omega) (by omega)).mpr h1, (nI_leI (a := n) (b := 8) (by omega) (by omega)).mpr h2⟩
theorem fe_out {p0 : Int32} {w : Int64} {tz : Nat} {b : Nat → Int32} (h : ¬ inB p0 1 8) : feP p0 w tz b (-1002) tz b := ⟨fun _ => ⟨rfl, rfl, rfl⟩, fun n h1 h2 e => absurd (by rw [e]; exact fe_in h1 h2) h⟩
theorem fe_full {w : Int64} {tz n : Nat} {b : Nat → Int32} (h1 : 1 ≤ n) (h2 : n ≤ 8) (h : 240 < tz + n) : feP (nI n) w tz b (-1004) tz b := by
  refine ⟨fun q => absurd (fe_in h1 h2) q, fun k h3 h4 e => ?_⟩
  have := nI_inj (by omega) (by omega) e
  subst this
  exact ⟨fun _ => ⟨rfl, rfl, rfl⟩, fun q => absurd h (by omega)⟩
theorem fe_ok {w : Int64} {tz n x : Nat} {r : Int32} {b c : Nat → Int32} (h1 : 1 ≤ n) (h2 : n ≤ 8) (h : tz + n ≤ 240) (hr : r = nI x) (hx : x = tz + n) (hc : c = feB b tz w n n) : feP (nI n) w tz b r x c := by
  refine ⟨fun q => absurd (fe_in h1 h2) q, fun k h3 h4 e => ?_⟩
  have := nI_inj (by omega) (by omega) e
  subst this
  exact ⟨fun q => absurd h (by omega), fun _ => ⟨by rw [hr, hx], hx, hc⟩⟩
theorem feP_fun {p0 : Int32} {w : Int64} {tz x y : Nat} {b c d : Nat → Int32} {r q : Int32} (h : feP p0 w tz b r x c) (g : feP p0 w tz b q y d) : r = q ∧ x = y ∧ c = d := by
  rcases Classical.em (inB p0 1 8) with hi | hi
  · obtain ⟨n, h1, h2, e⟩ := inB_ofc (a := 1) (b := 8) (by omega) (by omega) hi
    have a1 := h.2 n h1 h2 e
    have a2 := g.2 n h1 h2 e
    rcases Nat.lt_or_ge 240 (tz + n) with z | z
    · obtain ⟨u1, u2, u3⟩ := a1.1 z
      obtain ⟨v1, v2, v3⟩ := a2.1 z
      exact ⟨u1.trans v1.symm, u2.trans v2.symm, u3.trans v3.symm⟩
    · obtain ⟨u1, u2, u3⟩ := a1.2 z
      obtain ⟨v1, v2, v3⟩ := a2.2 z
      exact ⟨u1.trans v1.symm, u2.trans v2.symm, u3.trans v3.symm⟩
  · obtain ⟨u1, u2, u3⟩ := h.1 hi
    obtain ⟨v1, v2, v3⟩ := g.1 hi
    exact ⟨u1.trans v1.symm, u2.trans v2.symm, u3.trans v3.symm⟩
/-! street -/
def d3 {T : Type} (a b c : T) (q : Nat) : T := match q with | 0 => a | 1 => b | _ => c
def d4 {T : Type} (a b c d : T) (q : Nat) : T := match q with | 0 => a | 1 => b | 2 => c | _ => d
def stP (pz : Int32) (b : Nat → Int32) (n : Nat) (fp : Int32) (sd : Nat → SDt) (r : Int32) (n' : Nat) (fp' : Int32) (sd' : Nat → SDt) : Prop := (¬ inB pz 0 2 → r = -1001 ∧ n' = n ∧ fp' = fp ∧ (∀ q, q < 3 → sd' q = sd q)) ∧ (inB pz 0 2 → n' = 0 ∧ ((∃ e pl : Nat, 1 ≤ e ∧ e ≤ 4 ∧ (stF b n 0).1 = e ∧ (stF b n 0).2.1 = pl ∧ r = -10 - nI e ∧ fp' = nI pl ∧ (∀ q, q < 3 → sd' q = sd q)) ∨ (∃ (sn : Nat) (σ : PSt), sn < 3 ∧ pz = nI sn ∧ stF b n 0 = (0, 0, σ) ∧ r = nI σ.1 ∧ fp' = -1 ∧ sd' sn = sdP σ ∧ (∀ q, q < 3 → q ≠ sn → sd' q = sd q))))
theorem stP_of {pz : Int32} {b : Nat → Int32} {n n' : Nat} {fp r fp' : Int32} {sd sd' : Nat → SDt} (h : (¬ inB pz 0 2 → r = -1001 ∧ n' = n ∧ fp' = fp ∧ (∀ q, sd' q = sd q)) ∧ (inB pz 0 2 → n' = 0 ∧ ((∃ e pl : Nat, 1 ≤ e ∧ e ≤ 4 ∧ (stF b n 0).1 = e ∧ (stF b n 0).2.1 = pl ∧ r = -10 - nI e ∧ fp' = nI pl ∧ (∀ q, sd' q = sd q)) ∨ (∃ (sn : Nat) (σ : PSt), sn < 3 ∧ pz = nI sn ∧ stF b n 0 = (0, 0, σ) ∧ r = nI σ.1 ∧ fp' = -1 ∧ sd' sn = sdP σ ∧ (∀ q, q ≠ sn → sd' q = sd q))))) : stP pz b n fp sd r n' fp' sd' := by
  refine ⟨fun hi => ?_, fun hi => ?_⟩
  · obtain ⟨h1, h2, h3, h4⟩ := h.1 hi
    exact ⟨h1, h2, h3, fun q _ => h4 q⟩
  · obtain ⟨h1, h2⟩ := h.2 hi
    refine ⟨h1, ?_⟩
    rcases h2 with ⟨e, pl, a1, a2, a3, a4, a5, a6, a7⟩ | ⟨sn, σ, a1, a2, a3, a4, a5, a6, a7⟩
    · exact .inl ⟨e, pl, a1, a2, a3, a4, a5, a6, fun q _ => a7 q⟩
    · exact .inr ⟨sn, σ, a1, a2, a3, a4, a5, a6, fun q _ hn => a7 q hn⟩
theorem stP_fun {pz : Int32} {b : Nat → Int32} {n n' m' : Nat} {fp r fp' q fq' : Int32} {sd sd' se se' : Nat → SDt} (h : stP pz b n fp sd r n' fp' sd') (g : stP pz b n fp se q m' fq' se') (e : ∀ i, i < 3 → sd i = se i) : r = q ∧ n' = m' ∧ fp' = fq' ∧ ∀ i, i < 3 → sd' i = se' i := by
  rcases Classical.em (inB pz 0 2) with hi | hi
  · obtain ⟨h1, h2⟩ := h.2 hi
    obtain ⟨g1, g2⟩ := g.2 hi
    rcases h2 with ⟨e1, pl, a1, a2, a3, a4, a5, a6, a7⟩ | ⟨sn, σ, a1, a2, a3, a4, a5, a6, a7⟩
    · rcases g2 with ⟨e2, pm, c1, c2, c3, c4, c5, c6, c7⟩ | ⟨tn, τ, c1, c2, c3, c4, c5, c6, c7⟩
      · have x1 : e1 = e2 := a3.symm.trans c3
        have x2 : pl = pm := a4.symm.trans c4
        exact ⟨by rw [a5, c5, x1], h1.trans g1.symm, by rw [a6, c6, x2], fun i hi => (a7 i hi).trans ((e i hi).trans (c7 i hi).symm)⟩
      · rw [c3] at a3
        exact absurd a3 (by show ¬ 0 = e1; omega)
    · rcases g2 with ⟨e2, pm, c1, c2, c3, c4, c5, c6, c7⟩ | ⟨tn, τ, c1, c2, c3, c4, c5, c6, c7⟩
      · rw [a3] at c3
        exact absurd c3 (by show ¬ 0 = e2; omega)
      · have x1 : sn = tn := nI_inj (by omega) (by omega) (a2.symm.trans c2)
        have x2 : σ = τ := congrArg (fun z => z.2.2) (a3.symm.trans c3)
        subst x1 x2
        refine ⟨a4.trans c4.symm, h1.trans g1.symm, a5.trans c5.symm, fun i hi => ?_⟩
        by_cases hs : i = sn
        · subst hs
          exact a6.trans c6.symm
        · exact (a7 i hi hs).trans ((e i hi).trans (c7 i hi hs).symm)
  · obtain ⟨u1, u2, u3, u4⟩ := h.1 hi
    obtain ⟨v1, v2, v3, v4⟩ := g.1 hi
    exact ⟨u1.trans v1.symm, u2.trans v2.symm, u3.trans v3.symm, fun i hi => (u4 i hi).trans ((e i hi).trans (v4 i hi).symm)⟩
theorem neg10 {e : Nat} (h1 : 1 ≤ e) (h2 : e ≤ 4) : ¬ (0 : Int32) ≤ -10 - nI e := by
  rcases (show e = 1 ∨ e = 2 ∨ e = 3 ∨ e = 4 by omega) with rfl | rfl | rfl | rfl <;> decide
theorem sd_cp {n see tm : Nat} {g g0 gg ff f0 fp p0 : Nat → Int32} (hn : n ≤ 24) (hg : gg = va_cpy g g0 0 0 10) : sdX n see tm gg (va_cpy ff f0 0 0 24) (va_cpy fp p0 0 0 24) = sdX n see tm g ff fp := by
  have e1 : nG (vv n see tm gg) = nG (vv n see tm g) := by
    funext j
    unfold nG
    by_cases hj : 1 ≤ j ∧ j ≤ 9
    · rw [if_pos hj, if_pos hj]
      have h0 : ¬ j = 0 := by omega
      unfold vv
      rw [if_neg h0, if_neg h0]
      by_cases h6 : j = 6
      · rw [if_pos h6, if_pos h6]
      · rw [if_neg h6, if_neg h6]
        by_cases h8 : j = 8
        · rw [if_pos h8, if_pos h8]
        · rw [if_neg h8, if_neg h8, hg, pk_cpy_in (by omega) (by omega), show 0 + (j - 0) = j by omega]
    · rw [if_neg hj, if_neg hj]
  have e2 : ∀ x y : Nat → Int32, clp n (va_cpy x y 0 0 24) = clp n x := by
    intro x y
    funext j
    unfold clp
    by_cases hj : j < n
    · rw [if_pos hj, if_pos hj, pk_cpy_in (by omega) (by omega), show 0 + (j - 0) = j by omega]
    · rw [if_neg hj, if_neg hj]
  show (n, nG (vv n see tm gg), clp n (va_cpy ff f0 0 0 24), clp n (va_cpy fp p0 0 0 24)) = (n, nG (vv n see tm g), clp n ff, clp n fp)
  rw [e1, e2, e2]


set_option maxHeartbeats 4000000 in
set_option maxRecDepth 100000 in
theorem y_append (l : Launch) (D : va_G) (k : Nat → ClassId) (st : Nat → Nat) (lo : Nat) (x0 : Nat) (x1 : Nat) (tz : Nat) (ta : Int32) (na : Int32) (fn : Int32) (fb : Int32) (fx : Nat → Int32) (p0 : Int32) (hz : tz < 240) : CWv l D k st lo yX6_append cX6_append 2 none ({ frames := 0, cells := 0, slots := 0, locals := 0 }) 0 0 [.ref x0, .int p0] [(x0, .inr (6, (fX6 x1 (nI tz) ta na fn fb))), (aB k x1 240 fx)] (fun (u : Nat × (Nat → Int32)) => match u with | (tz_, fx_) => tz_ = tz + 1 ∧ fx_ = upd fx tz (vp_nar .byte p0)) (fun (u : Nat × (Nat → Int32)) => match u with | (tz_, fx_) => [(x0, .inr (6, (fX6 x1 (nI tz_) ta na fn fb))), (aB k x1 240 fx_)]) := by
  intro sz
  refine Met.ofW (cc := cX6_append) (maxL := 2) (ret := none) (by decide) rfl ?_
  intro p e s m args below meth c s₁ B hml hv
  obtain ⟨rfl, hsz, hlo, hP, hK, hDL, hZ⟩ := hv
  have hx := B.exec
  have hb := B.bytes
  have hr := B.returns
  have hts := WS_ts B.pre
  have hown : s.vm.findClass RX6 = some m.cls := findClass_of_methodNamed B.named
  have hlocks := B.notSynchronized
  subst hsz
  have hD := hDL.self (sz := s.heap.size)
  have hAlo := A_lo hDL hlo
  generalize hAe : va_A [(x0, .inr (6, (fX6 x1 (nI tz) ta na fn fb))), (aB k x1 240 fx)] s.heap.size = A at hD hAlo ⊢
  have hA : ∀ q : Nat, s.heap.size ≤ q → A q := fun q h => by rw [← hAe]; exact Or.inr h
  have hS : va_S A s.heap s.heap [] := va_S.rf
  have hl := lv_entry ([.ref x0, .int p0]) (n := 2) (Nat.le_of_ble_eq_true rfl)
  rw [lg_entry_eq]
  generalize (lg_sl ([.ref x0, .int p0]) ++ List.replicate (2 - (lg_sl ([.ref x0, .int p0])).length) Slot.unset).toArray = ls at hl ⊢
  have hl : lv_has ls 2 [(0, .ref x0), (1, .int p0)] := hl
  refine lv_aload_n hx hb dX6_append_0 rfl (lv_at hl 0 rfl) ?_
  refine va_get (D := D) (ci := 6) (v := .int (nI tz)) (C := RX6) (T := TX6) (N := 6) hx hb hts inX6 hown hK hP 0 rfl rfl 1 (by decide) (hts _ tw_110) (fun _ h9 => h9) rfl dX6_append_1 ?_
  refine lv_sipush (v := 240) hx hb dX6_append_4 (by decide) ?_
  refine lv_icmp_ge (tgt := 30) hx hb dX6_append_7 (by decide) (fun h => absurd ((nI_leI (a := 240) (b := tz) (by omega) (by omega)).mp h) (by omega)) (fun _ => ?_)
  refine lv_aload_n hx hb dX6_append_10 rfl (lv_at hl 0 rfl) ?_
  refine va_get (D := D) (ci := 6) (v := .ref x1) (C := RX6) (T := TX6) (N := 6) hx hb hts inX6 hown hK hP 0 rfl rfl 0 (by decide) (hts _ tw_109) (fun _ h9 => h9) rfl dX6_append_11 ?_
  refine lv_aload_n hx hb dX6_append_14 rfl (lv_at hl 0 rfl) ?_
  refine va_get (D := D) (ci := 6) (v := .int (nI tz)) (C := RX6) (T := TX6) (N := 6) hx hb hts inX6 hown hK hP 0 rfl rfl 1 (by decide) (hts _ tw_110) (fun _ h9 => h9) rfl dX6_append_15 ?_
  refine lv_iload_n hx hb dX6_append_18 rfl (lv_at hl 1 rfl) ?_
  refine va_bast hx hb hK hP hD hS 1 0 rfl rfl (vp_in_nI (by omega) (by decide)) dX6_append_19 (fun H locs hP hD hS => ?_)
  replace hP : va_P D classes [(x0, .inr (6, (fX6 x1 (nI tz) ta na fn fb))), (aB k x1 240 (upd fx (Int32.toNatClampNeg (nI tz)) (vp_nar .byte p0)))] H := hP
  replace hD : va_D A [(x0, .inr (6, (fX6 x1 (nI tz) ta na fn fb))), (aB k x1 240 (upd fx (Int32.toNatClampNeg (nI tz)) (vp_nar .byte p0)))] := hD
  rw [nI_clamp (n := tz) (by omega)] at hP hD
  replace hP : va_P D classes [(x0, .inr (6, (fX6 x1 (nI tz) ta na fn fb))), (aB k x1 240 (upd fx tz (vp_nar .byte p0)))] H := hP
  replace hD : va_D A [(x0, .inr (6, (fX6 x1 (nI tz) ta na fn fb))), (aB k x1 240 (upd fx tz (vp_nar .byte p0)))] := hD
  refine lv_aload_n hx hb dX6_append_20 rfl (lv_at hl 0 rfl) ?_
  refine lv_dup hx hb dX6_append_21 rfl ?_
  refine va_get (D := D) (ci := 6) (v := .int (nI tz)) (C := RX6) (T := TX6) (N := 6) hx hb hts inX6 hown hK hP 0 rfl rfl 1 (by decide) (hts _ tw_110) (fun _ h9 => h9) rfl dX6_append_22 ?_
  refine lv_iconst (v := 1) hx hb dX6_append_25 (by decide) ?_
  refine lv_iadd hx hb dX6_append_26 ?_
  refine lv_ti (y := (nI (tz + 1))) (nI_add tz 1) ?_
  refine va_put (D := D) (ci := 6) (v := .int (nI (tz + 1))) (ty := .int) (C := RX6) (T := TX6) (N := 6) hx hb hts inX6 tyX6 tyX6_ok nmX6 hown hK hP hD hS 0 rfl rfl 1 (by decide) (hts _ tw_110) (fun _ h9 => h9) rfl (by decide +kernel) rfl rfl (Nat.le_of_ble_eq_true rfl) dX6_append_27 (fun H locs hP hD hS => ?_)
  replace hP : va_P D classes [(x0, .inr (6, (fX6 x1 (nI (tz + 1)) ta na fn fb))), (aB k x1 240 (upd fx tz (vp_nar .byte p0)))] H := hP
  replace hD : va_D A [(x0, .inr (6, (fX6 x1 (nI (tz + 1)) ta na fn fb))), (aB k x1 240 (upd fx tz (vp_nar .byte p0)))] := hD
  have hP9 := hP.sub (ws' := [(x0, .inr (6, (fX6 x1 (nI (tz + 1)) ta na fn fb))), (aB k x1 240 (upd fx tz (vp_nar .byte p0)))]) [0, 1] rfl
  have hD9 := hD.sub (ws' := [(x0, .inr (6, (fX6 x1 (nI (tz + 1)) ta na fn fb))), (aB k x1 240 (upd fx tz (vp_nar .byte p0)))]) [0, 1] (by decide) rfl
  exact W.vret hx hb hr (fun t ht hW => ⟨⟨((tz + 1), (upd fx tz (vp_nar .byte p0))), rfl, ⟨rfl, rfl⟩, by rw [ht]; exact hP9, hD9⟩, hS.F ht⟩) hS.2.2 dX6_append_30


set_option maxHeartbeats 4000000 in
set_option maxRecDepth 100000 in
theorem y_feed (l : Launch) (D : va_G) (k : Nat → ClassId) (st : Nat → Nat) (lo : Nat) (a : Nat → Nat) (rk : Nat) (lfa : Int32) (tz : Nat) (ta : Int32) (na : Int32) (fn : Int32) (fb : Int32) (fx : Nat → Int32) (p0 : Int32) (q1 : Int64) (hz : tz ≤ 240) : CWi l D k st lo yX7_feed cX7_feed 5 (some .int) ({ frames := 1, cells := 0, slots := 0, locals := 21 }) 0 0 [.ref (a 0), .int p0, .long q1] [((a 0), .inr (7, (fX7 (a 1) (a 3) (a 19) (a 35) (a 40) (nI rk) lfa (a 53) (a 56) (a 63) (a 64) (a 68)))), ((a 1), .inr (6, (fX6 (a 2) (nI tz) ta na fn fb))), (aB k (a 2) 240 fx)] (fun (r : Int32) (u : Nat × (Nat → Int32)) => match u with | (tz_, fx_) => feP p0 q1 tz (bF fx) r tz_ (bF fx_) ∧ tz_ ≤ 240) (fun (u : Nat × (Nat → Int32)) => match u with | (tz_, fx_) => [((a 0), .inr (7, (fX7 (a 1) (a 3) (a 19) (a 35) (a 40) (nI rk) lfa (a 53) (a 56) (a 63) (a 64) (a 68)))), ((a 1), .inr (6, (fX6 (a 2) (nI tz_) ta na fn fb))), (aB k (a 2) 240 fx_)]) := by
  intro sz
  refine Met.ofW (cc := cX7_feed) (maxL := 5) (ret := (some .int)) (by decide) rfl ?_
  intro p e s m args below meth c s₁ B hml hv
  obtain ⟨rfl, hsz, hlo, hP, hK, hDL, hZ⟩ := hv
  have hx := B.exec
  have hb := B.bytes
  have hr := B.returns
  have hts := WS_ts B.pre
  have hown : s.vm.findClass RX7 = some m.cls := findClass_of_methodNamed B.named
  have hlocks := B.notSynchronized
  subst hsz
  have hD := hDL.self (sz := s.heap.size)
  have hAlo := A_lo hDL hlo
  generalize hAe : va_A [((a 0), .inr (7, (fX7 (a 1) (a 3) (a 19) (a 35) (a 40) (nI rk) lfa (a 53) (a 56) (a 63) (a 64) (a 68)))), ((a 1), .inr (6, (fX6 (a 2) (nI tz) ta na fn fb))), (aB k (a 2) 240 fx)] s.heap.size = A at hD hAlo ⊢
  have hA : ∀ q : Nat, s.heap.size ≤ q → A q := fun q h => by rw [← hAe]; exact Or.inr h
  have hS : va_S A s.heap s.heap [] := va_S.rf
  have hl := lv_entry ([.ref (a 0), .int p0, .long q1]) (n := 5) (Nat.le_of_ble_eq_true rfl)
  rw [lg_entry_eq]
  generalize (lg_sl ([.ref (a 0), .int p0, .long q1]) ++ List.replicate (5 - (lg_sl ([.ref (a 0), .int p0, .long q1])).length) Slot.unset).toArray = ls at hl ⊢
  have hl : lv_has ls 5 [(0, .ref (a 0)), (1, .int p0), (2, .long q1)] := hl
  refine lv_iload_n hx hb dX7_feed_0 rfl (lv_at hl 1 rfl) ?_
  refine lv_iconst (v := 1) hx hb dX7_feed_1 (by decide) ?_
  refine lv_icmp_lt (tgt := 11) hx hb dX7_feed_2 (by decide) (fun c_1 => ?_) (fun c_1 => ?_)
  · refine lv_sipush (v := (-1002)) hx hb dX7_feed_11 (by decide) ?_
    have hP9 := hP.sub (ws' := [((a 0), .inr (7, (fX7 (a 1) (a 3) (a 19) (a 35) (a 40) (nI rk) lfa (a 53) (a 56) (a 63) (a 64) (a 68)))), ((a 1), .inr (6, (fX6 (a 2) (nI tz) ta na fn fb))), (aB k (a 2) 240 fx)]) [0, 1, 2] rfl
    have hD9 := hD.sub (ws' := [((a 0), .inr (7, (fX7 (a 1) (a 3) (a 19) (a 35) (a 40) (nI rk) lfa (a 53) (a 56) (a 63) (a 64) (a 68)))), ((a 1), .inr (6, (fX6 (a 2) (nI tz) ta na fn fb))), (aB k (a 2) 240 fx)]) [0, 1, 2] (by decide) rfl
    exact W.iret (v := (-1002)) hx hb hr (fun t ht hW => ⟨⟨(-1002), (tz, fx), rfl, ⟨fe_out (fun h => absurd c_1 (Int32.not_lt.mpr h.1)), by omega⟩, by rw [ht]; exact hP9, hD9⟩, hS.F ht⟩) hS.2.2 dX7_feed_14
  · refine lv_iload_n hx hb dX7_feed_5 rfl (lv_at hl 1 rfl) ?_
    refine lv_bipush (v := 8) hx hb dX7_feed_6 (by decide) ?_
    refine lv_icmp_le (tgt := 15) hx hb dX7_feed_8 (by decide) (fun c_2 => ?_) (fun c_2 => ?_)
    · obtain ⟨nb_3, hnl_3, hnh_3, rfl⟩ := inB_ofc (a := 1) (b := 8) (by omega) (by omega) ⟨Int32.not_lt.mp c_1, c_2⟩
      refine lv_aload_n hx hb dX7_feed_15 rfl (lv_at hl 0 rfl) ?_
      refine va_get (D := D) (ci := 7) (v := .ref (a 1)) (C := RX7) (T := TX7) (N := 12) hx hb hts inX7 hown hK hP 0 rfl rfl 0 (by decide) (hts _ tw_305) (fun _ h9 => h9) rfl dX7_feed_16 ?_
      refine va_get (D := D) (ci := 6) (v := .int (nI tz)) (C := RX6) (T := TX6) (N := 6) hx hb hts inX6 hown hK hP 1 rfl rfl 1 (by decide) (hts _ tw_111) (fun _ h9 => h9) rfl dX7_feed_19 ?_
      refine lv_iload_n hx hb dX7_feed_22 rfl (lv_at hl 1 rfl) ?_
      refine lv_iadd hx hb dX7_feed_23 ?_
      refine lv_ti (y := (nI (tz + nb_3))) (nI_add tz nb_3) ?_
      refine lv_sipush (v := 240) hx hb dX7_feed_24 (by decide) ?_
      refine lv_icmp_le (tgt := 34) hx hb dX7_feed_27 (by decide) (fun c_4 => ?_) (fun c_4 => ?_)
      · have c_4 := (nI_leI (a := (tz + nb_3)) (b := 240) (by omega) (by omega)).mp c_4
        refine lv_iload_n hx hb dX7_feed_34 rfl (lv_at hl 1 rfl) ?_
        refine lv_iconst (v := 1) hx hb dX7_feed_35 (by decide) ?_
        refine lv_isub hx hb dX7_feed_36 ?_
        refine lv_ti (y := (nI nb_3 - 1)) rfl ?_
        refine lv_istore (lv' := [(4, .int (nI nb_3 - 1)), (0, .ref (a 0)), (1, .int (nI nb_3)), (2, .long q1)]) hx hb dX7_feed_37 hl (by decide) rfl (fun ls hl => ?_)
        refine W_loop (σ := Nat × Nat × (Nat → Int32)) (fun (n_ : Nat) (x_ : Nat × Nat × (Nat → Int32)) (H : Heap) (locs : List Loc) (ls : Array Slot) => match x_ with | (q_5, tz2_5, fx2_5) => n_ = 2 * q_5 ∧ (q_5 ≤ nb_3 ∧ tz2_5 = tz + (nb_3 - q_5) ∧ bF fx2_5 = feB (bF fx) tz q1 nb_3 (nb_3 - q_5)) ∧ va_P D classes [((a 0), .inr (7, (fX7 (a 1) (a 3) (a 19) (a 35) (a 40) (nI rk) lfa (a 53) (a 56) (a 63) (a 64) (a 68)))), ((a 1), .inr (6, (fX6 (a 2) (nI tz2_5) ta na fn fb))), (aB k (a 2) 240 fx2_5)] H ∧ va_D A [((a 0), .inr (7, (fX7 (a 1) (a 3) (a 19) (a 35) (a 40) (nI rk) lfa (a 53) (a 56) (a 63) (a 64) (a 68)))), ((a 1), .inr (6, (fX6 (a 2) (nI tz2_5) ta na fn fb))), (aB k (a 2) 240 fx2_5)] ∧ va_S A s.heap H locs ∧ lv_has ls 5 [(4, .int (nI q_5 - 1)), (0, .ref (a 0)), (1, .int (nI nb_3)), (2, .long q1)]) (fun n_5 x_5 H locs ls hI ih_5 => ?_) _ (nb_3, tz, fx) ⟨rfl, ⟨by omega, by omega, by rw [Nat.sub_self, feB_0]⟩, hP, hD, hS, (lv_sub hl [0, 1, 2, 3] rfl)⟩
        obtain ⟨q_5, tz2_5, fx2_5⟩ := x_5
        obtain ⟨hm_5, hv_5, hP, hD, hS, hl⟩ := hI
        subst hm_5
        rcases q_5 with _ | q_5
        · rw [dn0] at hl
          refine lv_iload hx hb dX7_feed_39 (lv_at hl 0 rfl) ?_
          refine lv_if_lt (tgt := 66) hx hb dX7_feed_41 (by decide) (fun _ => ?_) (fun h => absurd (by decide) h)
          refine lv_aload_n hx hb dX7_feed_66 rfl (lv_at hl 1 rfl) ?_
          refine va_get (D := D) (ci := 7) (v := .ref (a 1)) (C := RX7) (T := TX7) (N := 12) hx hb hts inX7 hown hK hP 0 rfl rfl 0 (by decide) (hts _ tw_305) (fun _ h9 => h9) rfl dX7_feed_67 ?_
          refine va_get (D := D) (ci := 6) (v := .int (nI tz2_5)) (C := RX6) (T := TX6) (N := 6) hx hb hts inX6 hown hK hP 1 rfl rfl 1 (by decide) (hts _ tw_111) (fun _ h9 => h9) rfl dX7_feed_70 ?_
          have hP9 := hP.sub (ws' := [((a 0), .inr (7, (fX7 (a 1) (a 3) (a 19) (a 35) (a 40) (nI rk) lfa (a 53) (a 56) (a 63) (a 64) (a 68)))), ((a 1), .inr (6, (fX6 (a 2) (nI tz2_5) ta na fn fb))), (aB k (a 2) 240 fx2_5)]) [0, 1, 2] rfl
          have hD9 := hD.sub (ws' := [((a 0), .inr (7, (fX7 (a 1) (a 3) (a 19) (a 35) (a 40) (nI rk) lfa (a 53) (a 56) (a 63) (a 64) (a 68)))), ((a 1), .inr (6, (fX6 (a 2) (nI tz2_5) ta na fn fb))), (aB k (a 2) 240 fx2_5)]) [0, 1, 2] (by decide) rfl
          exact W.iret (v := (nI tz2_5)) hx hb hr (fun t ht hW => ⟨⟨(nI tz2_5), (tz2_5, fx2_5), rfl, ⟨fe_ok (by omega) (by omega) (by omega) rfl (by omega) (by have h9 := hv_5.2.2; exact h9), by omega⟩, by rw [ht]; exact hP9, hD9⟩, hS.F ht⟩) hS.2.2 dX7_feed_73
        · rw [nI_pred] at hl
          refine lv_iload hx hb dX7_feed_39 (lv_at hl 0 rfl) ?_
          refine lv_if_lt (tgt := 66) hx hb dX7_feed_41 (by decide) (fun h => absurd h (nI_pos0 (by omega))) (fun _ => ?_)
          refine lv_aload_n hx hb dX7_feed_44 rfl (lv_at hl 1 rfl) ?_
          refine va_get (D := D) (ci := 7) (v := .ref (a 1)) (C := RX7) (T := TX7) (N := 12) hx hb hts inX7 hown hK hP 0 rfl rfl 0 (by decide) (hts _ tw_305) (fun _ h9 => h9) rfl dX7_feed_45 ?_
          refine lv_lload_n hx hb dX7_feed_48 rfl (lv_at hl 3 rfl) ?_
          refine lv_bipush (v := 8) hx hb dX7_feed_49 (by decide) ?_
          refine lv_iload hx hb dX7_feed_51 (lv_at hl 0 rfl) ?_
          refine lv_imul hx hb dX7_feed_53 ?_
          refine lv_ti (y := (nI (8 * q_5))) (pk_mul 8 q_5) ?_
          refine lv_lshr hx hb dX7_feed_54 rfl ?_
          refine lv_topl (fun x_6 ex_6 => ?_)
          refine lv_l2i hx hb dX7_feed_55 rfl ?_
          refine lv_topi (fun x_7 ex_7 => ?_)
          refine lv_i2b hx hb dX7_feed_56 rfl ?_
          refine lv_topi (fun x_8 ex_8 => ?_)
          refine rw_v (D := D) (wr := [((a 0), .inr (7, (fX7 (a 1) (a 3) (a 19) (a 35) (a 40) (nI rk) lfa (a 53) (a 56) (a 63) (a 64) (a 68))))]) (va_runV (As := [.int x_8]) (rest := []) ⟨hx, hb, hml, hown, hts⟩ ((y_append l D k st lo (a 1) (a 2) tz2_5 ta na fn fb fx2_5 x_8 (by omega)) H.size) (cwV 1 hts (gV tw_346 tw_347 tw_348 tw_80 tw_349) rfl rfl rfl (by decide +kernel) ⟨Nat.le_of_ble_eq_true rfl, Nat.le_of_ble_eq_true rfl⟩) (pV hS hAlo hlo hP hK (va_Dlo hD hAlo) hZ [1, 2] (by decide) rfl (ci := 6) (q := (RX6, TX6, 6)) (q0 := 0) rfl rfl) rfl rfl hl.1 rfl (lv_room (Nat.le_of_ble_eq_true rfl)) dX7_feed_57 ⟨Nat.le_of_ble_eq_true rfl, Nat.le_of_ble_eq_true rfl⟩) hS hA hP hD [1, 2] [0] rfl rfl (by decide) (by decide) (fun u H locs hw_9 hP hD hS => ?_)
          obtain ⟨tz__9, fx__9⟩ := u
          replace hP : va_P D classes [((a 0), .inr (7, (fX7 (a 1) (a 3) (a 19) (a 35) (a 40) (nI rk) lfa (a 53) (a 56) (a 63) (a 64) (a 68)))), ((a 1), .inr (6, (fX6 (a 2) (nI tz__9) ta na fn fb))), (aB k (a 2) 240 fx__9)] H := hP
          replace hD : va_D A [((a 0), .inr (7, (fX7 (a 1) (a 3) (a 19) (a 35) (a 40) (nI rk) lfa (a 53) (a 56) (a 63) (a 64) (a 68)))), ((a 1), .inr (6, (fX6 (a 2) (nI tz__9) ta na fn fb))), (aB k (a 2) 240 fx__9)] := hD
          try dsimp only at hw_9
          refine lv_iinc (v := (nI q_5 - 1)) (lv' := [(4, .int (nI q_5 - 1)), (0, .ref (a 0)), (1, .int (nI nb_3)), (2, .long q1)]) hx hb dX7_feed_60 hl (k := 0) rfl (dn1 _) (by decide) rfl (fun ls hl => ?_)
          refine lv_goto (tgt := 39) hx hb dX7_feed_63 (by decide) ?_
          exact ih_5 _ (q_5, tz__9, fx__9) _ _ _ (by omega) ⟨rfl, ⟨by omega, by omega, by rw [hw_9.2]; exact fe_step hv_5.2.2 hv_5.2.1 (by omega) (byW_x ex_6 ex_7 ex_8)⟩, hP, hD, hS, (lv_sub hl [0, 1, 2, 3] rfl)⟩
      · have c_4 : ¬ ((tz + nb_3) ≤ 240) := fun h => c_4 ((nI_leI (a := (tz + nb_3)) (b := 240) (by omega) (by omega)).mpr h)
        refine lv_sipush (v := (-1004)) hx hb dX7_feed_30 (by decide) ?_
        have hP9 := hP.sub (ws' := [((a 0), .inr (7, (fX7 (a 1) (a 3) (a 19) (a 35) (a 40) (nI rk) lfa (a 53) (a 56) (a 63) (a 64) (a 68)))), ((a 1), .inr (6, (fX6 (a 2) (nI tz) ta na fn fb))), (aB k (a 2) 240 fx)]) [0, 1, 2] rfl
        have hD9 := hD.sub (ws' := [((a 0), .inr (7, (fX7 (a 1) (a 3) (a 19) (a 35) (a 40) (nI rk) lfa (a 53) (a 56) (a 63) (a 64) (a 68)))), ((a 1), .inr (6, (fX6 (a 2) (nI tz) ta na fn fb))), (aB k (a 2) 240 fx)]) [0, 1, 2] (by decide) rfl
        exact W.iret (v := (-1004)) hx hb hr (fun t ht hW => ⟨⟨(-1004), (tz, fx), rfl, ⟨fe_full (by omega) (by omega) (by omega), by omega⟩, by rw [ht]; exact hP9, hD9⟩, hS.F ht⟩) hS.2.2 dX7_feed_33
    · refine lv_sipush (v := (-1002)) hx hb dX7_feed_11 (by decide) ?_
      have hP9 := hP.sub (ws' := [((a 0), .inr (7, (fX7 (a 1) (a 3) (a 19) (a 35) (a 40) (nI rk) lfa (a 53) (a 56) (a 63) (a 64) (a 68)))), ((a 1), .inr (6, (fX6 (a 2) (nI tz) ta na fn fb))), (aB k (a 2) 240 fx)]) [0, 1, 2] rfl
      have hD9 := hD.sub (ws' := [((a 0), .inr (7, (fX7 (a 1) (a 3) (a 19) (a 35) (a 40) (nI rk) lfa (a 53) (a 56) (a 63) (a 64) (a 68)))), ((a 1), .inr (6, (fX6 (a 2) (nI tz) ta na fn fb))), (aB k (a 2) 240 fx)]) [0, 1, 2] (by decide) rfl
      exact W.iret (v := (-1002)) hx hb hr (fun t ht hW => ⟨⟨(-1002), (tz, fx), rfl, ⟨fe_out (fun h => absurd h.2 c_2), by omega⟩, by rw [ht]; exact hP9, hD9⟩, hS.F ht⟩) hS.2.2 dX7_feed_14


set_option maxHeartbeats 4000000 in
set_option maxRecDepth 100000 in
theorem n_feed (l : Launch) (D : va_G) (k : Nat → ClassId) (st : Nat → Nat) (lo : Nat) (a : Nat → Nat) (tx : Nat) (t0 : Nat) (we : Nat) (rd : Nat) (ru : Nat) (rw : Nat) (ca : Nat) (fp : Int32) (wd : Int64) (nu : Int32) (na : Int32) (ts : Int32) (df : Int32) (db : Int32) (sd : Int32) (ftext : Nat → Int32) (p0 : Int32) (q1 : Int64) (htx : tx ≤ 240) : CWi l D k st lo yX8_feed cX8_feed 5 (some .int) ({ frames := 1, cells := 0, slots := 0, locals := 25 }) 0 0 [.ref (a 0), .int p0, .long q1] [((a 0), .inr (8, (fX8 a (nI tx) fp (nI t0) wd (nI we) nu na (nI rd) ts (nI ru) (nI rw) (nI ca) df db sd))), (aI k (a 5) 240 ftext)] (fun (r : Int32) (u : Nat × (Nat → Int32)) => match u with | (tx_, ftext_) => feP p0 q1 tx ftext r tx_ ftext_ ∧ tx_ ≤ 240) (fun (u : Nat × (Nat → Int32)) => match u with | (tx_, ftext_) => [((a 0), .inr (8, (fX8 a (nI tx_) fp (nI t0) wd (nI we) nu na (nI rd) ts (nI ru) (nI rw) (nI ca) df db sd))), (aI k (a 5) 240 ftext_)]) := by
  intro sz
  refine Met.ofW (cc := cX8_feed) (maxL := 5) (ret := (some .int)) (by decide) rfl ?_
  intro p e s m args below meth c s₁ B hml hv
  obtain ⟨rfl, hsz, hlo, hP, hK, hDL, hZ⟩ := hv
  have hx := B.exec
  have hb := B.bytes
  have hr := B.returns
  have hts := WS_ts B.pre
  have hown : s.vm.findClass RX8 = some m.cls := findClass_of_methodNamed B.named
  have hlocks := B.notSynchronized
  subst hsz
  have hD := hDL.self (sz := s.heap.size)
  have hAlo := A_lo hDL hlo
  generalize hAe : va_A [((a 0), .inr (8, (fX8 a (nI tx) fp (nI t0) wd (nI we) nu na (nI rd) ts (nI ru) (nI rw) (nI ca) df db sd))), (aI k (a 5) 240 ftext)] s.heap.size = A at hD hAlo ⊢
  have hA : ∀ q : Nat, s.heap.size ≤ q → A q := fun q h => by rw [← hAe]; exact Or.inr h
  have hS : va_S A s.heap s.heap [] := va_S.rf
  have hl := lv_entry ([.ref (a 0), .int p0, .long q1]) (n := 5) (Nat.le_of_ble_eq_true rfl)
  rw [lg_entry_eq]
  generalize (lg_sl ([.ref (a 0), .int p0, .long q1]) ++ List.replicate (5 - (lg_sl ([.ref (a 0), .int p0, .long q1])).length) Slot.unset).toArray = ls at hl ⊢
  have hl : lv_has ls 5 [(0, .ref (a 0)), (1, .int p0), (2, .long q1)] := hl
  refine lv_iload_n hx hb dX8_feed_0 rfl (lv_at hl 1 rfl) ?_
  refine lv_i2l (v := p0.toInt64) hx hb dX8_feed_1 rfl ?_
  refine lv_lconst (v := (1 : Int32).toInt64) hx hb dX8_feed_2 (by decide) ?_
  refine lv_ldc2 hx hb hown (hts _ tw_1110) dX8_feed_3 ?_
  refine lv_tl (y := ((8 : Int32).toInt64)) (by decide) ?_
  refine ro_i (D := D) (va_runS (As := [.long (p0.toInt64), .long ((1 : Int32).toInt64), .long ((8 : Int32).toInt64)]) (rest := []) ⟨hx, hb, hml, hown, hts⟩ ((k_in l D k st lo p0 (1 : Int32) (8 : Int32)) s.heap.size) (va_cwS 3 hts (gS tw_1111 tw_1112 tw_87 tw_1113) rfl rfl rfl (by decide +kernel) ⟨Nat.le_of_ble_eq_true rfl, Nat.le_of_ble_eq_true rfl⟩) (pS hS hAlo hlo hP hK (va_Dlo hD hAlo) hZ [] (by decide) rfl) rfl rfl hl.1 rfl (lv_room (Nat.le_of_ble_eq_true rfl)) dX8_feed_6 ⟨Nat.le_of_ble_eq_true rfl, Nat.le_of_ble_eq_true rfl⟩) hS hA hP (fun r_1 H locs hw_1 hP hS => ?_)
  try dsimp only at hw_1
  rcases hw_1 with ⟨rfl, hw_1⟩ | ⟨rfl, hw_1⟩
  · refine lv_if_ne (tgt := 16) hx hb dX8_feed_9 (by decide) (fun _ => ?_) (fun h => absurd h (by decide))
    obtain ⟨nn_9, hna_9, hnb_9, rfl⟩ := inB_ofc (a := 1) (b := 8) (by omega) (by omega) hw_1
    refine lv_aload_n hx hb dX8_feed_16 rfl (lv_at hl 0 rfl) ?_
    refine va_get (D := D) (ci := 8) (v := .int (nI tx)) (C := RX8) (T := TX8) (N := 44) hx hb hts inX8 hown hK hP 0 rfl rfl 5 (by decide) (hts _ tw_978) (fun _ h9 => h9) rfl dX8_feed_17 ?_
    refine lv_iload_n hx hb dX8_feed_20 rfl (lv_at hl 1 rfl) ?_
    refine lv_iadd hx hb dX8_feed_21 ?_
    refine lv_ti (y := (nI (tx + nn_9))) (nI_add tx nn_9) ?_
    refine lv_sipush (v := 240) hx hb dX8_feed_22 (by decide) ?_
    refine lv_icmp_le (tgt := 32) hx hb dX8_feed_25 (by decide) (fun c_2 => ?_) (fun c_2 => ?_)
    · have c_2 := (nI_leI (a := (tx + nn_9)) (b := 240) (by omega) (by omega)).mp c_2
      refine lv_iload_n hx hb dX8_feed_32 rfl (lv_at hl 1 rfl) ?_
      refine lv_iconst (v := 1) hx hb dX8_feed_33 (by decide) ?_
      refine lv_isub hx hb dX8_feed_34 ?_
      refine lv_ti (y := (nI nn_9 - 1)) rfl ?_
      refine lv_istore (lv' := [(4, .int (nI nn_9 - 1)), (0, .ref (a 0)), (1, .int (nI nn_9)), (2, .long q1)]) hx hb dX8_feed_35 hl (by decide) rfl (fun ls hl => ?_)
      refine W_loop (σ := Nat × Nat × (Nat → Int32)) (fun (n_ : Nat) (x_ : Nat × Nat × (Nat → Int32)) (H : Heap) (locs : List Loc) (ls : Array Slot) => match x_ with | (q_3, t_3, ft_3) => n_ = 2 * q_3 ∧ (t_3 + q_3 ≤ 240 ∧ q_3 ≤ nn_9 ∧ t_3 = tx + (nn_9 - q_3) ∧ ft_3 = feB ftext tx q1 nn_9 (nn_9 - q_3)) ∧ va_P D classes [((a 0), .inr (8, (fX8 a (nI t_3) fp (nI t0) wd (nI we) nu na (nI rd) ts (nI ru) (nI rw) (nI ca) df db sd))), (aI k (a 5) 240 ft_3)] H ∧ va_D A [((a 0), .inr (8, (fX8 a (nI t_3) fp (nI t0) wd (nI we) nu na (nI rd) ts (nI ru) (nI rw) (nI ca) df db sd))), (aI k (a 5) 240 ft_3)] ∧ va_S A s.heap H locs ∧ lv_has ls 5 [(4, .int (nI q_3 - 1)), (0, .ref (a 0)), (1, .int (nI nn_9)), (2, .long q1)]) (fun n_3 x_3 H locs ls hI ih_3 => ?_) _ (nn_9, tx, ftext) ⟨rfl, ⟨by omega, by omega, by omega, by rw [Nat.sub_self, feB_0]⟩, hP, hD, hS, (lv_sub hl [0, 1, 2, 3] rfl)⟩
      obtain ⟨q_3, t_3, ft_3⟩ := x_3
      obtain ⟨hm_3, hv_3, hP, hD, hS, hl⟩ := hI
      subst hm_3
      rcases q_3 with _ | q_3
      · rw [dn0] at hl
        refine lv_iload hx hb dX8_feed_37 (lv_at hl 0 rfl) ?_
        refine lv_if_lt (tgt := 79) hx hb dX8_feed_39 (by decide) (fun _ => ?_) (fun h => absurd (by decide) h)
        refine lv_aload_n hx hb dX8_feed_79 rfl (lv_at hl 1 rfl) ?_
        refine va_get (D := D) (ci := 8) (v := .int (nI t_3)) (C := RX8) (T := TX8) (N := 44) hx hb hts inX8 hown hK hP 0 rfl rfl 5 (by decide) (hts _ tw_978) (fun _ h9 => h9) rfl dX8_feed_80 ?_
        have hP9 := hP.sub (ws' := [((a 0), .inr (8, (fX8 a (nI t_3) fp (nI t0) wd (nI we) nu na (nI rd) ts (nI ru) (nI rw) (nI ca) df db sd))), (aI k (a 5) 240 ft_3)]) [0, 1] rfl
        have hD9 := hD.sub (ws' := [((a 0), .inr (8, (fX8 a (nI t_3) fp (nI t0) wd (nI we) nu na (nI rd) ts (nI ru) (nI rw) (nI ca) df db sd))), (aI k (a 5) 240 ft_3)]) [0, 1] (by decide) rfl
        exact W.iret (v := (nI t_3)) hx hb hr (fun t ht hW => ⟨⟨(nI t_3), (t_3, ft_3), rfl, ⟨fe_ok (by omega) (by omega) (by omega) rfl (by omega) (by have h9 := hv_3.2.2.2; exact h9), by omega⟩, by rw [ht]; exact hP9, hD9⟩, hS.F ht⟩) hS.2.2 dX8_feed_83
      · rw [nI_pred] at hl
        refine lv_iload hx hb dX8_feed_37 (lv_at hl 0 rfl) ?_
        refine lv_if_lt (tgt := 79) hx hb dX8_feed_39 (by decide) (fun h => absurd h (nI_pos0 (by omega))) (fun _ => ?_)
        refine lv_aload_n hx hb dX8_feed_42 rfl (lv_at hl 1 rfl) ?_
        refine va_get (D := D) (ci := 8) (v := .ref (a 5)) (C := RX8) (T := TX8) (N := 44) hx hb hts inX8 hown hK hP 0 rfl rfl 4 (by decide) (hts _ tw_977) (fun _ h9 => h9) rfl dX8_feed_43 ?_
        refine lv_aload_n hx hb dX8_feed_46 rfl (lv_at hl 1 rfl) ?_
        refine va_get (D := D) (ci := 8) (v := .int (nI t_3)) (C := RX8) (T := TX8) (N := 44) hx hb hts inX8 hown hK hP 0 rfl rfl 5 (by decide) (hts _ tw_978) (fun _ h9 => h9) rfl dX8_feed_47 ?_
        refine lv_lload_n hx hb dX8_feed_50 rfl (lv_at hl 3 rfl) ?_
        refine lv_bipush (v := 8) hx hb dX8_feed_51 (by decide) ?_
        refine lv_iload hx hb dX8_feed_53 (lv_at hl 0 rfl) ?_
        refine lv_imul hx hb dX8_feed_55 ?_
        refine lv_ti (y := (nI (8 * q_3))) (pk_mul 8 q_3) ?_
        refine lv_lshr hx hb dX8_feed_56 rfl ?_
        refine lv_topl (fun x_4 ex_4 => ?_)
        refine lv_ldc2 hx hb hown (hts _ tw_1114) dX8_feed_57 ?_
        refine lv_tl (y := ((255 : Int32).toInt64)) (by decide) ?_
        refine lv_land hx hb dX8_feed_60 ?_
        refine lv_topl (fun x_5 ex_5 => ?_)
        refine lv_l2i hx hb dX8_feed_61 rfl ?_
        refine lv_topi (fun x_6 ex_6 => ?_)
        refine va_iast hx hb hK hP hD hS 1 1 rfl rfl (vp_in_nI (by omega) (by decide)) dX8_feed_62 (fun H locs hP hD hS => ?_)
        replace hP : va_P D classes [((a 0), .inr (8, (fX8 a (nI t_3) fp (nI t0) wd (nI we) nu na (nI rd) ts (nI ru) (nI rw) (nI ca) df db sd))), (aI k (a 5) 240 (upd ft_3 (Int32.toNatClampNeg (nI t_3)) x_6))] H := hP
        replace hD : va_D A [((a 0), .inr (8, (fX8 a (nI t_3) fp (nI t0) wd (nI we) nu na (nI rd) ts (nI ru) (nI rw) (nI ca) df db sd))), (aI k (a 5) 240 (upd ft_3 (Int32.toNatClampNeg (nI t_3)) x_6))] := hD
        rw [nI_clamp (n := t_3) (by omega)] at hP hD
        replace hP : va_P D classes [((a 0), .inr (8, (fX8 a (nI t_3) fp (nI t0) wd (nI we) nu na (nI rd) ts (nI ru) (nI rw) (nI ca) df db sd))), (aI k (a 5) 240 (upd ft_3 t_3 x_6))] H := hP
        replace hD : va_D A [((a 0), .inr (8, (fX8 a (nI t_3) fp (nI t0) wd (nI we) nu na (nI rd) ts (nI ru) (nI rw) (nI ca) df db sd))), (aI k (a 5) 240 (upd ft_3 t_3 x_6))] := hD
        refine lv_aload_n hx hb dX8_feed_63 rfl (lv_at hl 1 rfl) ?_
        refine lv_dup hx hb dX8_feed_64 rfl ?_
        refine va_get (D := D) (ci := 8) (v := .int (nI t_3)) (C := RX8) (T := TX8) (N := 44) hx hb hts inX8 hown hK hP 0 rfl rfl 5 (by decide) (hts _ tw_978) (fun _ h9 => h9) rfl dX8_feed_65 ?_
        refine lv_iconst (v := 1) hx hb dX8_feed_68 (by decide) ?_
        refine lv_iadd hx hb dX8_feed_69 ?_
        refine lv_ti (y := (nI (t_3 + 1))) (nI_add t_3 1) ?_
        refine va_put (D := D) (ci := 8) (v := .int (nI (t_3 + 1))) (ty := .int) (C := RX8) (T := TX8) (N := 44) hx hb hts inX8 tyX8 tyX8_ok nmX8 hown hK hP hD hS 0 rfl rfl 5 (by decide) (hts _ tw_978) (fun _ h9 => h9) rfl (by decide +kernel) rfl rfl (Nat.le_of_ble_eq_true rfl) dX8_feed_70 (fun H locs hP hD hS => ?_)
        replace hP : va_P D classes [((a 0), .inr (8, (fX8 a (nI (t_3 + 1)) fp (nI t0) wd (nI we) nu na (nI rd) ts (nI ru) (nI rw) (nI ca) df db sd))), (aI k (a 5) 240 (upd ft_3 t_3 x_6))] H := hP
        replace hD : va_D A [((a 0), .inr (8, (fX8 a (nI (t_3 + 1)) fp (nI t0) wd (nI we) nu na (nI rd) ts (nI ru) (nI rw) (nI ca) df db sd))), (aI k (a 5) 240 (upd ft_3 t_3 x_6))] := hD
        refine lv_iinc (v := (nI q_3 - 1)) (lv' := [(4, .int (nI q_3 - 1)), (0, .ref (a 0)), (1, .int (nI nn_9)), (2, .long q1)]) hx hb dX8_feed_73 hl (k := 0) rfl (dn1 _) (by decide) rfl (fun ls hl => ?_)
        refine lv_goto (tgt := 37) hx hb dX8_feed_76 (by decide) ?_
        exact ih_3 _ (q_3, t_3 + 1, (upd ft_3 t_3 x_6)) _ _ _ (by omega) ⟨rfl, ⟨by omega, by omega, by omega, by rw [ex_6, ex_5, ex_4, show ((255 : Int32).toInt64) = (255 : Int64) from by decide]; exact fe_stepM hv_3.2.2.2 hv_3.2.2.1 (by omega)⟩, hP, hD, hS, (lv_sub hl [0, 1, 2, 3] rfl)⟩
    · have c_2 : ¬ ((tx + nn_9) ≤ 240) := fun h => c_2 ((nI_leI (a := (tx + nn_9)) (b := 240) (by omega) (by omega)).mpr h)
      refine lv_sipush (v := (-1004)) hx hb dX8_feed_28 (by decide) ?_
      have hP9 := hP.sub (ws' := [((a 0), .inr (8, (fX8 a (nI tx) fp (nI t0) wd (nI we) nu na (nI rd) ts (nI ru) (nI rw) (nI ca) df db sd))), (aI k (a 5) 240 ftext)]) [0, 1] rfl
      have hD9 := hD.sub (ws' := [((a 0), .inr (8, (fX8 a (nI tx) fp (nI t0) wd (nI we) nu na (nI rd) ts (nI ru) (nI rw) (nI ca) df db sd))), (aI k (a 5) 240 ftext)]) [0, 1] (by decide) rfl
      exact W.iret (v := (-1004)) hx hb hr (fun t ht hW => ⟨⟨(-1004), (tx, ftext), rfl, ⟨fe_full (by omega) (by omega) (by omega), by omega⟩, by rw [ht]; exact hP9, hD9⟩, hS.F ht⟩) hS.2.2 dX8_feed_31
  · refine lv_if_ne (tgt := 16) hx hb dX8_feed_9 (by decide) (fun h => absurd (by decide) h) (fun _ => ?_)
    refine lv_sipush (v := (-1002)) hx hb dX8_feed_12 (by decide) ?_
    have hP9 := hP.sub (ws' := [((a 0), .inr (8, (fX8 a (nI tx) fp (nI t0) wd (nI we) nu na (nI rd) ts (nI ru) (nI rw) (nI ca) df db sd))), (aI k (a 5) 240 ftext)]) [0, 1] rfl
    have hD9 := hD.sub (ws' := [((a 0), .inr (8, (fX8 a (nI tx) fp (nI t0) wd (nI we) nu na (nI rd) ts (nI ru) (nI rw) (nI ca) df db sd))), (aI k (a 5) 240 ftext)]) [0, 1] (by decide) rfl
    exact W.iret (v := (-1002)) hx hb hr (fun t ht hW => ⟨⟨(-1002), (tx, ftext), rfl, ⟨fe_out hw_1, by omega⟩, by rw [ht]; exact hP9, hD9⟩, hS.F ht⟩) hS.2.2 dX8_feed_15


set_option maxHeartbeats 4000000 in
set_option maxRecDepth 100000 in
theorem y_closeText (l : Launch) (D : va_G) (k : Nat → ClassId) (st : Nat → Nat) (lo : Nat) (a : Nat → Nat) (rk : Nat) (lfa : Int32) (tz : Nat) (ta : Int32) (na : Int32) (fn : Int32) (fb : Int32)  : CWi l D k st lo yX7_closeText cX7_closeText 1 (some .int) ({ frames := 1, cells := 0, slots := 0, locals := 20 }) 0 0 [.ref (a 0)] [((a 0), .inr (7, (fX7 (a 1) (a 3) (a 19) (a 35) (a 40) (nI rk) lfa (a 53) (a 56) (a 63) (a 64) (a 68)))), ((a 1), .inr (6, (fX6 (a 2) (nI tz) ta na fn fb)))] (fun (r : Int32) (u : Int32 × Nat) => match u with | (lfa_, tz_) => tz_ = 0 ∧ (fn = 0 → r = 0 ∧ lfa_ = -1) ∧ (¬ fn = 0 → r = -10 - fn ∧ lfa_ = fb)) (fun (u : Int32 × Nat) => match u with | (lfa_, tz_) => [((a 0), .inr (7, (fX7 (a 1) (a 3) (a 19) (a 35) (a 40) (nI rk) lfa_ (a 53) (a 56) (a 63) (a 64) (a 68)))), ((a 1), .inr (6, (fX6 (a 2) (nI tz_) ta na fn fb)))]) := by
  intro sz
  refine Met.ofW (cc := cX7_closeText) (maxL := 1) (ret := (some .int)) (by decide) rfl ?_
  intro p e s m args below meth c s₁ B hml hv
  obtain ⟨rfl, hsz, hlo, hP, hK, hDL, hZ⟩ := hv
  have hx := B.exec
  have hb := B.bytes
  have hr := B.returns
  have hts := WS_ts B.pre
  have hown : s.vm.findClass RX7 = some m.cls := findClass_of_methodNamed B.named
  have hlocks := B.notSynchronized
  subst hsz
  have hD := hDL.self (sz := s.heap.size)
  have hAlo := A_lo hDL hlo
  generalize hAe : va_A [((a 0), .inr (7, (fX7 (a 1) (a 3) (a 19) (a 35) (a 40) (nI rk) lfa (a 53) (a 56) (a 63) (a 64) (a 68)))), ((a 1), .inr (6, (fX6 (a 2) (nI tz) ta na fn fb)))] s.heap.size = A at hD hAlo ⊢
  have hA : ∀ q : Nat, s.heap.size ≤ q → A q := fun q h => by rw [← hAe]; exact Or.inr h
  have hS : va_S A s.heap s.heap [] := va_S.rf
  have hl := lv_entry ([.ref (a 0)]) (n := 1) (Nat.le_of_ble_eq_true rfl)
  rw [lg_entry_eq]
  generalize (lg_sl ([.ref (a 0)]) ++ List.replicate (1 - (lg_sl ([.ref (a 0)])).length) Slot.unset).toArray = ls at hl ⊢
  have hl : lv_has ls 1 [(0, .ref (a 0))] := hl
  refine lv_aload_n hx hb dX7_closeText_0 rfl (lv_at hl 0 rfl) ?_
  refine va_get (D := D) (ci := 7) (v := .ref (a 1)) (C := RX7) (T := TX7) (N := 12) hx hb hts inX7 hown hK hP 0 rfl rfl 0 (by decide) (hts _ tw_305) (fun _ h9 => h9) rfl dX7_closeText_1 ?_
  refine lv_iconst (v := 0) hx hb dX7_closeText_4 (by decide) ?_
  refine va_put (D := D) (ci := 6) (v := .int 0) (ty := .int) (C := RX6) (T := TX6) (N := 6) hx hb hts inX6 tyX6 tyX6_ok nmX6 hown hK hP hD hS 1 rfl rfl 1 (by decide) (hts _ tw_111) (fun _ h9 => h9) rfl (by decide +kernel) rfl rfl (Nat.le_of_ble_eq_true rfl) dX7_closeText_5 (fun H locs hP hD hS => ?_)
  replace hP : va_P D classes [((a 0), .inr (7, (fX7 (a 1) (a 3) (a 19) (a 35) (a 40) (nI rk) lfa (a 53) (a 56) (a 63) (a 64) (a 68)))), ((a 1), .inr (6, (fX6 (a 2) 0 ta na fn fb)))] H := hP
  replace hD : va_D A [((a 0), .inr (7, (fX7 (a 1) (a 3) (a 19) (a 35) (a 40) (nI rk) lfa (a 53) (a 56) (a 63) (a 64) (a 68)))), ((a 1), .inr (6, (fX6 (a 2) 0 ta na fn fb)))] := hD
  refine lv_aload_n hx hb dX7_closeText_8 rfl (lv_at hl 0 rfl) ?_
  refine va_get (D := D) (ci := 7) (v := .ref (a 1)) (C := RX7) (T := TX7) (N := 12) hx hb hts inX7 hown hK hP 0 rfl rfl 0 (by decide) (hts _ tw_305) (fun _ h9 => h9) rfl dX7_closeText_9 ?_
  refine ro_i (D := D) (va_runV (As := []) (rest := []) ⟨hx, hb, hml, hown, hts⟩ ((x_failed_r l D k st lo (a 1) (a 2) 0 ta na fn fb) H.size) (cwV 0 hts (gV tw_500 tw_368 tw_369 tw_80 tw_370) rfl rfl rfl (by decide +kernel) ⟨Nat.le_of_ble_eq_true rfl, Nat.le_of_ble_eq_true rfl⟩) (pV hS hAlo hlo hP hK (va_Dlo hD hAlo) hZ [1] (by decide) rfl (ci := 6) (q := (RX6, TX6, 6)) (q0 := 0) rfl rfl) rfl rfl hl.1 rfl (lv_room (Nat.le_of_ble_eq_true rfl)) dX7_closeText_12 ⟨Nat.le_of_ble_eq_true rfl, Nat.le_of_ble_eq_true rfl⟩) hS hA hP (fun r_1 H locs hw_1 hP hS => ?_)
  try dsimp only at hw_1
  rcases hw_1 with ⟨rfl, hw_1⟩ | ⟨rfl, rfl⟩
  · refine lv_if_ne (tgt := 25) hx hb dX7_closeText_15 (by decide) (fun _ => ?_) (fun h => absurd h (by decide))
    refine lv_aload_n hx hb dX7_closeText_25 rfl (lv_at hl 0 rfl) ?_
    refine lv_aload_n hx hb dX7_closeText_26 rfl (lv_at hl 0 rfl) ?_
    refine va_get (D := D) (ci := 7) (v := .ref (a 1)) (C := RX7) (T := TX7) (N := 12) hx hb hts inX7 hown hK hP 0 rfl rfl 0 (by decide) (hts _ tw_305) (fun _ h9 => h9) rfl dX7_closeText_27 ?_
    refine va_get (D := D) (ci := 6) (v := .int fb) (C := RX6) (T := TX6) (N := 6) hx hb hts inX6 hown hK hP 1 rfl rfl 5 (by decide) (hts _ tw_122) (fun _ h9 => h9) rfl dX7_closeText_30 ?_
    refine va_put (D := D) (ci := 7) (v := .int fb) (ty := .int) (C := RX7) (T := TX7) (N := 12) hx hb hts inX7 tyX7 tyX7_ok nmX7 hown hK hP hD hS 0 rfl rfl 6 (by decide) (hts _ tw_311) (fun _ h9 => h9) rfl (by decide +kernel) rfl rfl (Nat.le_of_ble_eq_true rfl) dX7_closeText_33 (fun H locs hP hD hS => ?_)
    replace hP : va_P D classes [((a 0), .inr (7, (fX7 (a 1) (a 3) (a 19) (a 35) (a 40) (nI rk) fb (a 53) (a 56) (a 63) (a 64) (a 68)))), ((a 1), .inr (6, (fX6 (a 2) 0 ta na fn fb)))] H := hP
    replace hD : va_D A [((a 0), .inr (7, (fX7 (a 1) (a 3) (a 19) (a 35) (a 40) (nI rk) fb (a 53) (a 56) (a 63) (a 64) (a 68)))), ((a 1), .inr (6, (fX6 (a 2) 0 ta na fn fb)))] := hD
    refine lv_bipush (v := (-10)) hx hb dX7_closeText_36 (by decide) ?_
    refine lv_aload_n hx hb dX7_closeText_38 rfl (lv_at hl 0 rfl) ?_
    refine va_get (D := D) (ci := 7) (v := .ref (a 1)) (C := RX7) (T := TX7) (N := 12) hx hb hts inX7 hown hK hP 0 rfl rfl 0 (by decide) (hts _ tw_305) (fun _ h9 => h9) rfl dX7_closeText_39 ?_
    refine va_get (D := D) (ci := 6) (v := .int fn) (C := RX6) (T := TX6) (N := 6) hx hb hts inX6 hown hK hP 1 rfl rfl 4 (by decide) (hts _ tw_120) (fun _ h9 => h9) rfl dX7_closeText_42 ?_
    refine lv_isub hx hb dX7_closeText_45 ?_
    refine lv_topi (fun x_2 ex_2 => ?_)
    have hP9 := hP.sub (ws' := [((a 0), .inr (7, (fX7 (a 1) (a 3) (a 19) (a 35) (a 40) (nI rk) fb (a 53) (a 56) (a 63) (a 64) (a 68)))), ((a 1), .inr (6, (fX6 (a 2) 0 ta na fn fb)))]) [0, 1] rfl
    have hD9 := hD.sub (ws' := [((a 0), .inr (7, (fX7 (a 1) (a 3) (a 19) (a 35) (a 40) (nI rk) fb (a 53) (a 56) (a 63) (a 64) (a 68)))), ((a 1), .inr (6, (fX6 (a 2) 0 ta na fn fb)))]) [0, 1] (by decide) rfl
    exact W.iret (v := x_2) hx hb hr (fun t ht hW => ⟨⟨x_2, (fb, 0), rfl, ⟨rfl, fun h => absurd h hw_1, fun _ => ⟨ex_2, rfl⟩⟩, by rw [ht]; exact hP9, hD9⟩, hS.F ht⟩) hS.2.2 dX7_closeText_46
  · refine lv_if_ne (tgt := 25) hx hb dX7_closeText_15 (by decide) (fun h => absurd (by decide) h) (fun _ => ?_)
    refine lv_aload_n hx hb dX7_closeText_18 rfl (lv_at hl 0 rfl) ?_
    refine lv_iconst (v := (-1)) hx hb dX7_closeText_19 (by decide) ?_
    refine va_put (D := D) (ci := 7) (v := .int (-1)) (ty := .int) (C := RX7) (T := TX7) (N := 12) hx hb hts inX7 tyX7 tyX7_ok nmX7 hown hK hP hD hS 0 rfl rfl 6 (by decide) (hts _ tw_311) (fun _ h9 => h9) rfl (by decide +kernel) rfl rfl (Nat.le_of_ble_eq_true rfl) dX7_closeText_20 (fun H locs hP hD hS => ?_)
    replace hP : va_P D classes [((a 0), .inr (7, (fX7 (a 1) (a 3) (a 19) (a 35) (a 40) (nI rk) (-1) (a 53) (a 56) (a 63) (a 64) (a 68)))), ((a 1), .inr (6, (fX6 (a 2) 0 ta na 0 fb)))] H := hP
    replace hD : va_D A [((a 0), .inr (7, (fX7 (a 1) (a 3) (a 19) (a 35) (a 40) (nI rk) (-1) (a 53) (a 56) (a 63) (a 64) (a 68)))), ((a 1), .inr (6, (fX6 (a 2) 0 ta na 0 fb)))] := hD
    refine lv_iconst (v := 0) hx hb dX7_closeText_23 (by decide) ?_
    have hP9 := hP.sub (ws' := [((a 0), .inr (7, (fX7 (a 1) (a 3) (a 19) (a 35) (a 40) (nI rk) (-1) (a 53) (a 56) (a 63) (a 64) (a 68)))), ((a 1), .inr (6, (fX6 (a 2) 0 ta na 0 fb)))]) [0, 1] rfl
    have hD9 := hD.sub (ws' := [((a 0), .inr (7, (fX7 (a 1) (a 3) (a 19) (a 35) (a 40) (nI rk) (-1) (a 53) (a 56) (a 63) (a 64) (a 68)))), ((a 1), .inr (6, (fX6 (a 2) 0 ta na 0 fb)))]) [0, 1] (by decide) rfl
    exact W.iret (v := 0) hx hb hr (fun t ht hW => ⟨⟨0, ((-1), 0), rfl, ⟨rfl, fun _ => ⟨rfl, rfl⟩, fun h => absurd rfl h⟩, by rw [ht]; exact hP9, hD9⟩, hS.F ht⟩) hS.2.2 dX7_closeText_24


theorem f_lt3 : True := trivial
theorem ltx3 {x : Int32} (h : x ≤ 2) : x < 3 := by
  rw [Int32.lt_iff_toInt_lt]
  rw [Int32.le_iff_toInt_le] at h
  have e1 : (2 : Int32).toInt = 2 := by decide
  have e2 : (3 : Int32).toInt = 3 := by decide
  omega


set_option maxHeartbeats 4000000 in
set_option maxRecDepth 100000 in
theorem y_rule (l : Launch) (D : va_G) (k : Nat → ClassId) (st : Nat → Nat) (lo : Nat) (a : Nat → Nat) (rk : Nat) (lfa : Int32) (tz : Nat) (ta : Int32) (na : Int32) (fn : Int32) (fb : Int32) (fx : Nat → Int32) (rf0 : Int32) (rc0 : Nat) (rr0 : Nat) (rs0 : Nat → Int32) (rb0 : Nat → Int32) (rf1 : Int32) (rc1 : Nat) (rr1 : Nat) (rs1 : Nat → Int32) (rb1 : Nat → Int32) (rf2 : Int32) (rc2 : Nat) (rr2 : Nat) (rs2 : Nat → Int32) (rb2 : Nat → Int32) (rf3 : Int32) (rc3 : Nat) (rr3 : Nat) (rs3 : Nat → Int32) (rb3 : Nat → Int32) (hz : tz ≤ 240) (hrk : rk ≤ 4) (hrc0 : rc0 ≤ 24) (hrr0 : rr0 ≤ 3) (hrc1 : rc1 ≤ 24) (hrr1 : rr1 ≤ 3) (hrc2 : rc2 ≤ 24) (hrr2 : rr2 ≤ 3) (hrc3 : rc3 ≤ 24) (hrr3 : rr3 ≤ 3) : CWi l D k st lo yX7_rule cX7_rule 2 (some .int) ({ frames := 8, cells := 0, slots := 0, locals := 174 }) 0 0 [.ref (a 0)] [((a 0), .inr (7, (fX7 (a 1) (a 3) (a 19) (a 35) (a 40) (nI rk) lfa (a 53) (a 56) (a 63) (a 64) (a 68)))), ((a 1), .inr (6, (fX6 (a 2) (nI tz) ta na fn fb))), (aB k (a 2) 240 fx), ((a 40), .inl (k 5, 4, .inr (.inr (.inr (.inr (a4 (a 41) (a 44) (a 47) (a 50))))))), ((a 41), .inr (3, (fX3 (a 42) (a 43) rf0 (nI rc0) (nI rr0)))), (aI k (a 42) 24 rs0), (aI k (a 43) 24 rb0), ((a 44), .inr (3, (fX3 (a 45) (a 46) rf1 (nI rc1) (nI rr1)))), (aI k (a 45) 24 rs1), (aI k (a 46) 24 rb1), ((a 47), .inr (3, (fX3 (a 48) (a 49) rf2 (nI rc2) (nI rr2)))), (aI k (a 48) 24 rs2), (aI k (a 49) 24 rb2), ((a 50), .inr (3, (fX3 (a 51) (a 52) rf3 (nI rc3) (nI rr3)))), (aI k (a 51) 24 rs3), (aI k (a 52) 24 rb3)] (fun (r : Int32) (u : Nat × Int32 × Nat × Int32 × Int32 × Int32 × Int32 × Int32 × Nat × Nat × (Nat → Int32) × (Nat → Int32) × Int32 × Nat × Nat × (Nat → Int32) × (Nat → Int32) × Int32 × Nat × Nat × (Nat → Int32) × (Nat → Int32) × Int32 × Nat × Nat × (Nat → Int32) × (Nat → Int32)) => match u with | (rk_, lfa_, tz_, ta_, na_, fn_, fb_, rf0_, rc0_, rr0_, rs0_, rb0_, rf1_, rc1_, rr1_, rs1_, rb1_, rf2_, rc2_, rr2_, rs2_, rb2_, rf3_, rc3_, rr3_, rs3_, rb3_) => ruP (bF fx) tz lfa rk (d4 (ruX rf0 rc0 rr0 rs0 rb0) (ruX rf1 rc1 rr1 rs1 rb1) (ruX rf2 rc2 rr2 rs2 rb2) (ruX rf3 rc3 rr3 rs3 rb3)) r tz_ lfa_ rk_ (d4 (ruX rf0_ rc0_ rr0_ rs0_ rb0_) (ruX rf1_ rc1_ rr1_ rs1_ rb1_) (ruX rf2_ rc2_ rr2_ rs2_ rb2_) (ruX rf3_ rc3_ rr3_ rs3_ rb3_)) ∧ tz_ ≤ 240 ∧ rk_ ≤ 4 ∧ rc0_ ≤ 24 ∧ rr0_ ≤ 3 ∧ rc1_ ≤ 24 ∧ rr1_ ≤ 3 ∧ rc2_ ≤ 24 ∧ rr2_ ≤ 3 ∧ rc3_ ≤ 24 ∧ rr3_ ≤ 3) (fun (u : Nat × Int32 × Nat × Int32 × Int32 × Int32 × Int32 × Int32 × Nat × Nat × (Nat → Int32) × (Nat → Int32) × Int32 × Nat × Nat × (Nat → Int32) × (Nat → Int32) × Int32 × Nat × Nat × (Nat → Int32) × (Nat → Int32) × Int32 × Nat × Nat × (Nat → Int32) × (Nat → Int32)) => match u with | (rk_, lfa_, tz_, ta_, na_, fn_, fb_, rf0_, rc0_, rr0_, rs0_, rb0_, rf1_, rc1_, rr1_, rs1_, rb1_, rf2_, rc2_, rr2_, rs2_, rb2_, rf3_, rc3_, rr3_, rs3_, rb3_) => [((a 0), .inr (7, (fX7 (a 1) (a 3) (a 19) (a 35) (a 40) (nI rk_) lfa_ (a 53) (a 56) (a 63) (a 64) (a 68)))), ((a 1), .inr (6, (fX6 (a 2) (nI tz_) ta_ na_ fn_ fb_))), (aB k (a 2) 240 fx), ((a 40), .inl (k 5, 4, .inr (.inr (.inr (.inr (a4 (a 41) (a 44) (a 47) (a 50))))))), ((a 41), .inr (3, (fX3 (a 42) (a 43) rf0_ (nI rc0_) (nI rr0_)))), (aI k (a 42) 24 rs0_), (aI k (a 43) 24 rb0_), ((a 44), .inr (3, (fX3 (a 45) (a 46) rf1_ (nI rc1_) (nI rr1_)))), (aI k (a 45) 24 rs1_), (aI k (a 46) 24 rb1_), ((a 47), .inr (3, (fX3 (a 48) (a 49) rf2_ (nI rc2_) (nI rr2_)))), (aI k (a 48) 24 rs2_), (aI k (a 49) 24 rb2_), ((a 50), .inr (3, (fX3 (a 51) (a 52) rf3_ (nI rc3_) (nI rr3_)))), (aI k (a 51) 24 rs3_), (aI k (a 52) 24 rb3_)]) := by
  intro sz
  refine Met.ofW (cc := cX7_rule) (maxL := 2) (ret := (some .int)) (by decide) rfl ?_
  intro p e s m args below meth c s₁ B hml hv
  obtain ⟨rfl, hsz, hlo, hP, hK, hDL, hZ⟩ := hv
  have hx := B.exec
  have hb := B.bytes
  have hr := B.returns
  have hts := WS_ts B.pre
  have hown : s.vm.findClass RX7 = some m.cls := findClass_of_methodNamed B.named
  have hlocks := B.notSynchronized
  subst hsz
  have hD := hDL.self (sz := s.heap.size)
  have hAlo := A_lo hDL hlo
  generalize hAe : va_A [((a 0), .inr (7, (fX7 (a 1) (a 3) (a 19) (a 35) (a 40) (nI rk) lfa (a 53) (a 56) (a 63) (a 64) (a 68)))), ((a 1), .inr (6, (fX6 (a 2) (nI tz) ta na fn fb))), (aB k (a 2) 240 fx), ((a 40), .inl (k 5, 4, .inr (.inr (.inr (.inr (a4 (a 41) (a 44) (a 47) (a 50))))))), ((a 41), .inr (3, (fX3 (a 42) (a 43) rf0 (nI rc0) (nI rr0)))), (aI k (a 42) 24 rs0), (aI k (a 43) 24 rb0), ((a 44), .inr (3, (fX3 (a 45) (a 46) rf1 (nI rc1) (nI rr1)))), (aI k (a 45) 24 rs1), (aI k (a 46) 24 rb1), ((a 47), .inr (3, (fX3 (a 48) (a 49) rf2 (nI rc2) (nI rr2)))), (aI k (a 48) 24 rs2), (aI k (a 49) 24 rb2), ((a 50), .inr (3, (fX3 (a 51) (a 52) rf3 (nI rc3) (nI rr3)))), (aI k (a 51) 24 rs3), (aI k (a 52) 24 rb3)] s.heap.size = A at hD hAlo ⊢
  have hA : ∀ q : Nat, s.heap.size ≤ q → A q := fun q h => by rw [← hAe]; exact Or.inr h
  have hS : va_S A s.heap s.heap [] := va_S.rf
  have hl := lv_entry ([.ref (a 0)]) (n := 2) (Nat.le_of_ble_eq_true rfl)
  rw [lg_entry_eq]
  generalize (lg_sl ([.ref (a 0)]) ++ List.replicate (2 - (lg_sl ([.ref (a 0)])).length) Slot.unset).toArray = ls at hl ⊢
  have hl : lv_has ls 2 [(0, .ref (a 0))] := hl
  refine lv_aload_n hx hb dX7_rule_0 rfl (lv_at hl 0 rfl) ?_
  refine va_get (D := D) (ci := 7) (v := .ref (a 1)) (C := RX7) (T := TX7) (N := 12) hx hb hts inX7 hown hK hP 0 rfl rfl 0 (by decide) (hts _ tw_305) (fun _ h9 => h9) rfl dX7_rule_1 ?_
  refine va_get (D := D) (ci := 6) (v := .int (nI tz)) (C := RX6) (T := TX6) (N := 6) hx hb hts inX6 hown hK hP 1 rfl rfl 1 (by decide) (hts _ tw_111) (fun _ h9 => h9) rfl dX7_rule_4 ?_
  refine lv_bipush (v := 80) hx hb dX7_rule_7 (by decide) ?_
  refine lv_icmp_le (tgt := 16) hx hb dX7_rule_9 (by decide) (fun c_1 => ?_) (fun c_1 => ?_)
  · have c_1 := (nI_leI (a := tz) (b := 80) (by omega) (by omega)).mp c_1
    refine lv_aload_n hx hb dX7_rule_16 rfl (lv_at hl 0 rfl) ?_
    refine va_get (D := D) (ci := 7) (v := .int (nI rk)) (C := RX7) (T := TX7) (N := 12) hx hb hts inX7 hown hK hP 0 rfl rfl 5 (by decide) (hts _ tw_310) (fun _ h9 => h9) rfl dX7_rule_17 ?_
    refine lv_iconst (v := 4) hx hb dX7_rule_20 (by decide) ?_
    refine lv_icmp_lt (tgt := 28) hx hb dX7_rule_21 (by decide) (fun c_2 => ?_) (fun c_2 => ?_)
    · have c_2 := (nI_ltI (a := rk) (b := 4) (by omega) (by omega)).mp c_2
      rcases (show rk = 0 ∨ rk = 1 ∨ rk = 2 ∨ rk = 3 by omega) with rfl | rfl | rfl | rfl
      · refine lv_aload_n hx hb dX7_rule_28 rfl (lv_at hl 0 rfl) ?_
        refine va_get (D := D) (ci := 7) (v := .ref (a 1)) (C := RX7) (T := TX7) (N := 12) hx hb hts inX7 hown hK hP 0 rfl rfl 0 (by decide) (hts _ tw_305) (fun _ h9 => h9) rfl dX7_rule_29 ?_
        refine rw_v (D := D) (wr := [((a 0), .inr (7, (fX7 (a 1) (a 3) (a 19) (a 35) (a 40) 0 lfa (a 53) (a 56) (a 63) (a 64) (a 68)))), ((a 40), .inl (k 5, 4, .inr (.inr (.inr (.inr (a4 (a 41) (a 44) (a 47) (a 50))))))), ((a 41), .inr (3, (fX3 (a 42) (a 43) rf0 (nI rc0) (nI rr0)))), (aI k (a 42) 24 rs0), (aI k (a 43) 24 rb0), ((a 44), .inr (3, (fX3 (a 45) (a 46) rf1 (nI rc1) (nI rr1)))), (aI k (a 45) 24 rs1), (aI k (a 46) 24 rb1), ((a 47), .inr (3, (fX3 (a 48) (a 49) rf2 (nI rc2) (nI rr2)))), (aI k (a 48) 24 rs2), (aI k (a 49) 24 rb2), ((a 50), .inr (3, (fX3 (a 51) (a 52) rf3 (nI rc3) (nI rr3)))), (aI k (a 51) 24 rs3), (aI k (a 52) 24 rb3)]) (va_runV (As := []) (rest := []) ⟨hx, hb, hml, hown, hts⟩ ((x_rewind l D k st lo (a 1) (a 2) tz ta na fn fb fx) s.heap.size) (cwV 0 hts (gV tw_354 tw_355 tw_356 tw_80 tw_357) rfl rfl rfl (by decide +kernel) ⟨Nat.le_of_ble_eq_true rfl, Nat.le_of_ble_eq_true rfl⟩) (pV hS hAlo hlo hP hK (va_Dlo hD hAlo) hZ [1, 2] (by decide) rfl (ci := 6) (q := (RX6, TX6, 6)) (q0 := 0) rfl rfl) rfl rfl hl.1 rfl (lv_room (Nat.le_of_ble_eq_true rfl)) dX7_rule_32 ⟨Nat.le_of_ble_eq_true rfl, Nat.le_of_ble_eq_true rfl⟩) hS hA hP hD [1, 2] [0, 3, 4, 5, 6, 7, 8, 9, 10, 11, 12, 13, 14, 15] rfl rfl (by decide +kernel) (by decide +kernel) (fun u H locs hw_3 hP hD hS => ?_)
        obtain ⟨ta__3, na__3, fn__3, fb__3⟩ := u
        replace hP : va_P D classes [((a 0), .inr (7, (fX7 (a 1) (a 3) (a 19) (a 35) (a 40) 0 lfa (a 53) (a 56) (a 63) (a 64) (a 68)))), ((a 40), .inl (k 5, 4, .inr (.inr (.inr (.inr (a4 (a 41) (a 44) (a 47) (a 50))))))), ((a 41), .inr (3, (fX3 (a 42) (a 43) rf0 (nI rc0) (nI rr0)))), (aI k (a 42) 24 rs0), (aI k (a 43) 24 rb0), ((a 44), .inr (3, (fX3 (a 45) (a 46) rf1 (nI rc1) (nI rr1)))), (aI k (a 45) 24 rs1), (aI k (a 46) 24 rb1), ((a 47), .inr (3, (fX3 (a 48) (a 49) rf2 (nI rc2) (nI rr2)))), (aI k (a 48) 24 rs2), (aI k (a 49) 24 rb2), ((a 50), .inr (3, (fX3 (a 51) (a 52) rf3 (nI rc3) (nI rr3)))), (aI k (a 51) 24 rs3), (aI k (a 52) 24 rb3), ((a 1), .inr (6, (fX6 (a 2) (nI tz) ta__3 na__3 fn__3 fb__3))), (aB k (a 2) 240 fx)] H := hP
        replace hD : va_D A [((a 0), .inr (7, (fX7 (a 1) (a 3) (a 19) (a 35) (a 40) 0 lfa (a 53) (a 56) (a 63) (a 64) (a 68)))), ((a 40), .inl (k 5, 4, .inr (.inr (.inr (.inr (a4 (a 41) (a 44) (a 47) (a 50))))))), ((a 41), .inr (3, (fX3 (a 42) (a 43) rf0 (nI rc0) (nI rr0)))), (aI k (a 42) 24 rs0), (aI k (a 43) 24 rb0), ((a 44), .inr (3, (fX3 (a 45) (a 46) rf1 (nI rc1) (nI rr1)))), (aI k (a 45) 24 rs1), (aI k (a 46) 24 rb1), ((a 47), .inr (3, (fX3 (a 48) (a 49) rf2 (nI rc2) (nI rr2)))), (aI k (a 48) 24 rs2), (aI k (a 49) 24 rb2), ((a 50), .inr (3, (fX3 (a 51) (a 52) rf3 (nI rc3) (nI rr3)))), (aI k (a 51) 24 rs3), (aI k (a 52) 24 rb3), ((a 1), .inr (6, (fX6 (a 2) (nI tz) ta__3 na__3 fn__3 fb__3))), (aB k (a 2) 240 fx)] := hD
        try dsimp only at hw_3
        obtain ⟨rfl, rfl⟩ := hw_3
        refine lv_aload_n hx hb dX7_rule_35 rfl (lv_at hl 0 rfl) ?_
        refine va_get (D := D) (ci := 7) (v := .ref (a 40)) (C := RX7) (T := TX7) (N := 12) hx hb hts inX7 hown hK hP 0 rfl rfl 4 (by decide) (hts _ tw_309) (fun _ h9 => h9) rfl dX7_rule_36 ?_
        refine lv_aload_n hx hb dX7_rule_39 rfl (lv_at hl 0 rfl) ?_
        refine va_get (D := D) (ci := 7) (v := .int 0) (C := RX7) (T := TX7) (N := 12) hx hb hts inX7 hown hK hP 0 rfl rfl 5 (by decide) (hts _ tw_310) (fun _ h9 => h9) rfl dX7_rule_40 ?_
        refine va_aldq hx hb hK hP 1 5 rfl rfl (by unfold vp_in; decide) dX7_rule_43 ?_
        refine lv_tr (y := .ref (a 41)) rfl ?_
        refine lv_aload_n hx hb dX7_rule_44 rfl (lv_at hl 0 rfl) ?_
        refine va_get (D := D) (ci := 7) (v := .ref (a 1)) (C := RX7) (T := TX7) (N := 12) hx hb hts inX7 hown hK hP 0 rfl rfl 0 (by decide) (hts _ tw_305) (fun _ h9 => h9) rfl dX7_rule_45 ?_
        refine rw_v (D := D) (wr := [((a 0), .inr (7, (fX7 (a 1) (a 3) (a 19) (a 35) (a 40) 0 lfa (a 53) (a 56) (a 63) (a 64) (a 68)))), ((a 40), .inl (k 5, 4, .inr (.inr (.inr (.inr (a4 (a 41) (a 44) (a 47) (a 50))))))), ((a 44), .inr (3, (fX3 (a 45) (a 46) rf1 (nI rc1) (nI rr1)))), (aI k (a 45) 24 rs1), (aI k (a 46) 24 rb1), ((a 47), .inr (3, (fX3 (a 48) (a 49) rf2 (nI rc2) (nI rr2)))), (aI k (a 48) 24 rs2), (aI k (a 49) 24 rb2), ((a 50), .inr (3, (fX3 (a 51) (a 52) rf3 (nI rc3) (nI rr3)))), (aI k (a 51) 24 rs3), (aI k (a 52) 24 rb3)]) (va_runV (As := [.ref (a 1)]) (rest := []) ⟨hx, hb, hml, hown, hts⟩ ((y_Rule_readFrom l D k st lo (a 41) (a 42) (a 43) rf0 rc0 rr0 rs0 rb0 (a 1) (a 2) tz 0 na__3 0 fb__3 fx (by first | assumption | omega) (by first | assumption | omega) (by first | assumption | omega) rfl) H.size) (cwV 1 hts (gV tw_675 tw_676 tw_677 tw_86 tw_678) rfl rfl rfl (by decide +kernel) ⟨Nat.le_of_ble_eq_true rfl, Nat.le_of_ble_eq_true rfl⟩) (pV hS hAlo hlo hP hK (va_Dlo hD hAlo) hZ [2, 3, 4, 14, 15] (by decide) rfl (ci := 3) (q := (RX3, TX3, 5)) (q0 := 0) rfl rfl) rfl rfl hl.1 rfl (lv_room (Nat.le_of_ble_eq_true rfl)) dX7_rule_48 ⟨Nat.le_of_ble_eq_true rfl, Nat.le_of_ble_eq_true rfl⟩) hS hA hP hD [2, 3, 4, 14, 15] [0, 1, 5, 6, 7, 8, 9, 10, 11, 12, 13] rfl rfl (by decide +kernel) (by decide +kernel) (fun u H locs hw_4 hP hD hS => ?_)
        obtain ⟨rf__4, rc__4, rr__4, rs__4, rb__4, ta__4, na__4, fn__4, fb__4⟩ := u
        replace hP : va_P D classes [((a 0), .inr (7, (fX7 (a 1) (a 3) (a 19) (a 35) (a 40) 0 lfa (a 53) (a 56) (a 63) (a 64) (a 68)))), ((a 40), .inl (k 5, 4, .inr (.inr (.inr (.inr (a4 (a 41) (a 44) (a 47) (a 50))))))), ((a 44), .inr (3, (fX3 (a 45) (a 46) rf1 (nI rc1) (nI rr1)))), (aI k (a 45) 24 rs1), (aI k (a 46) 24 rb1), ((a 47), .inr (3, (fX3 (a 48) (a 49) rf2 (nI rc2) (nI rr2)))), (aI k (a 48) 24 rs2), (aI k (a 49) 24 rb2), ((a 50), .inr (3, (fX3 (a 51) (a 52) rf3 (nI rc3) (nI rr3)))), (aI k (a 51) 24 rs3), (aI k (a 52) 24 rb3), ((a 41), .inr (3, (fX3 (a 42) (a 43) rf__4 (nI rc__4) (nI rr__4)))), (aI k (a 42) 24 rs__4), (aI k (a 43) 24 rb__4), ((a 1), .inr (6, (fX6 (a 2) (nI tz) (nI ta__4) na__4 fn__4 fb__4))), (aB k (a 2) 240 fx)] H := hP
        replace hD : va_D A [((a 0), .inr (7, (fX7 (a 1) (a 3) (a 19) (a 35) (a 40) 0 lfa (a 53) (a 56) (a 63) (a 64) (a 68)))), ((a 40), .inl (k 5, 4, .inr (.inr (.inr (.inr (a4 (a 41) (a 44) (a 47) (a 50))))))), ((a 44), .inr (3, (fX3 (a 45) (a 46) rf1 (nI rc1) (nI rr1)))), (aI k (a 45) 24 rs1), (aI k (a 46) 24 rb1), ((a 47), .inr (3, (fX3 (a 48) (a 49) rf2 (nI rc2) (nI rr2)))), (aI k (a 48) 24 rs2), (aI k (a 49) 24 rb2), ((a 50), .inr (3, (fX3 (a 51) (a 52) rf3 (nI rc3) (nI rr3)))), (aI k (a 51) 24 rs3), (aI k (a 52) 24 rb3), ((a 41), .inr (3, (fX3 (a 42) (a 43) rf__4 (nI rc__4) (nI rr__4)))), (aI k (a 42) 24 rs__4), (aI k (a 43) 24 rb__4), ((a 1), .inr (6, (fX6 (a 2) (nI tz) (nI ta__4) na__4 fn__4 fb__4))), (aB k (a 2) 240 fx)] := hD
        try dsimp only at hw_4
        rcases hw_4 with ⟨⟨rfl, hrf_5, hrc_5⟩ | ⟨e_5, pl_5, rfl, he1_5, he2_5, hp1_5, hp2_5, rfl⟩, hw_4⟩
        · refine lv_aload_n hx hb dX7_rule_51 rfl (lv_at hl 0 rfl) ?_
          refine rw_i (D := D) (wr := [((a 40), .inl (k 5, 4, .inr (.inr (.inr (.inr (a4 (a 41) (a 44) (a 47) (a 50))))))), ((a 44), .inr (3, (fX3 (a 45) (a 46) rf1 (nI rc1) (nI rr1)))), (aI k (a 45) 24 rs1), (aI k (a 46) 24 rb1), ((a 47), .inr (3, (fX3 (a 48) (a 49) rf2 (nI rc2) (nI rr2)))), (aI k (a 48) 24 rs2), (aI k (a 49) 24 rb2), ((a 50), .inr (3, (fX3 (a 51) (a 52) rf3 (nI rc3) (nI rr3)))), (aI k (a 51) 24 rs3), (aI k (a 52) 24 rb3), ((a 41), .inr (3, (fX3 (a 42) (a 43) rf__4 (nI rc__4) (nI rr__4)))), (aI k (a 42) 24 rs__4), (aI k (a 43) 24 rb__4), (aB k (a 2) 240 fx)]) (va_runV (As := []) (rest := []) ⟨hx, hb, hml, hown, hts⟩ ((y_closeText l D k st lo a 0 lfa tz (nI ta__4) na__4 0 fb__4) H.size) (cwV 0 hts (gV tw_496 tw_498 tw_2 tw_79 tw_499) rfl rfl rfl (by decide +kernel) ⟨Nat.le_of_ble_eq_true rfl, Nat.le_of_ble_eq_true rfl⟩) (pV hS hAlo hlo hP hK (va_Dlo hD hAlo) hZ [0, 14] (by decide) rfl (ci := 7) (q := (RX7, TX7, 12)) (q0 := 0) rfl rfl) rfl rfl hl.1 rfl (lv_room (Nat.le_of_ble_eq_true rfl)) dX7_rule_52 ⟨Nat.le_of_ble_eq_true rfl, Nat.le_of_ble_eq_true rfl⟩) hS hA hP hD [0, 14] [1, 2, 3, 4, 5, 6, 7, 8, 9, 10, 11, 12, 13, 15] rfl rfl (by decide +kernel) (by decide +kernel) (fun r_6 u H locs hw_6 hP hD hS => ?_)
          obtain ⟨lfa__6, tz__6⟩ := u
          replace hP : va_P D classes [((a 40), .inl (k 5, 4, .inr (.inr (.inr (.inr (a4 (a 41) (a 44) (a 47) (a 50))))))), ((a 44), .inr (3, (fX3 (a 45) (a 46) rf1 (nI rc1) (nI rr1)))), (aI k (a 45) 24 rs1), (aI k (a 46) 24 rb1), ((a 47), .inr (3, (fX3 (a 48) (a 49) rf2 (nI rc2) (nI rr2)))), (aI k (a 48) 24 rs2), (aI k (a 49) 24 rb2), ((a 50), .inr (3, (fX3 (a 51) (a 52) rf3 (nI rc3) (nI rr3)))), (aI k (a 51) 24 rs3), (aI k (a 52) 24 rb3), ((a 41), .inr (3, (fX3 (a 42) (a 43) rf__4 (nI rc__4) (nI rr__4)))), (aI k (a 42) 24 rs__4), (aI k (a 43) 24 rb__4), (aB k (a 2) 240 fx), ((a 0), .inr (7, (fX7 (a 1) (a 3) (a 19) (a 35) (a 40) 0 lfa__6 (a 53) (a 56) (a 63) (a 64) (a 68)))), ((a 1), .inr (6, (fX6 (a 2) (nI tz__6) (nI ta__4) na__4 0 fb__4)))] H := hP
          replace hD : va_D A [((a 40), .inl (k 5, 4, .inr (.inr (.inr (.inr (a4 (a 41) (a 44) (a 47) (a 50))))))), ((a 44), .inr (3, (fX3 (a 45) (a 46) rf1 (nI rc1) (nI rr1)))), (aI k (a 45) 24 rs1), (aI k (a 46) 24 rb1), ((a 47), .inr (3, (fX3 (a 48) (a 49) rf2 (nI rc2) (nI rr2)))), (aI k (a 48) 24 rs2), (aI k (a 49) 24 rb2), ((a 50), .inr (3, (fX3 (a 51) (a 52) rf3 (nI rc3) (nI rr3)))), (aI k (a 51) 24 rs3), (aI k (a 52) 24 rb3), ((a 41), .inr (3, (fX3 (a 42) (a 43) rf__4 (nI rc__4) (nI rr__4)))), (aI k (a 42) 24 rs__4), (aI k (a 43) 24 rb__4), (aB k (a 2) 240 fx), ((a 0), .inr (7, (fX7 (a 1) (a 3) (a 19) (a 35) (a 40) 0 lfa__6 (a 53) (a 56) (a 63) (a 64) (a 68)))), ((a 1), .inr (6, (fX6 (a 2) (nI tz__6) (nI ta__4) na__4 0 fb__4)))] := hD
          try dsimp only at hw_6
          have hcl_7 := hw_6.2.1 rfl
          obtain ⟨hs0_8, hs1_8, hs2_8⟩ := (⟨hw_6.1, hcl_7.1, hcl_7.2⟩ : _ ∧ _ ∧ _)
          replace hs0_8 := hs0_8.symm
          subst hs0_8
          replace hs1_8 := hs1_8.symm
          subst hs1_8
          replace hs2_8 := hs2_8.symm
          subst hs2_8
          refine lv_istore_n (lv' := [(1, .int 0), (0, .ref (a 0))]) hx hb dX7_rule_55 rfl hl (by decide) rfl (fun ls hl => ?_)
          refine lv_iload_n hx hb dX7_rule_56 rfl (lv_at hl 0 rfl) ?_
          refine lv_if_ge (tgt := 62) hx hb dX7_rule_57 (by decide) (fun _ => ?_) (fun h => absurd (by decide) h)
          refine lv_aload_n hx hb dX7_rule_62 rfl (lv_at hl 1 rfl) ?_
          refine lv_dup hx hb dX7_rule_63 rfl ?_
          refine va_get (D := D) (ci := 7) (v := .int 0) (C := RX7) (T := TX7) (N := 12) hx hb hts inX7 hown hK hP 14 rfl rfl 5 (by decide) (hts _ tw_310) (fun _ h9 => h9) rfl dX7_rule_64 ?_
          refine lv_iconst (v := 1) hx hb dX7_rule_67 (by decide) ?_
          refine lv_iadd hx hb dX7_rule_68 ?_
          refine lv_ti (y := 1) (by decide) ?_
          refine va_put (D := D) (ci := 7) (v := .int 1) (ty := .int) (C := RX7) (T := TX7) (N := 12) hx hb hts inX7 tyX7 tyX7_ok nmX7 hown hK hP hD hS 14 rfl rfl 5 (by decide) (hts _ tw_310) (fun _ h9 => h9) rfl (by decide +kernel) rfl rfl (Nat.le_of_ble_eq_true rfl) dX7_rule_69 (fun H locs hP hD hS => ?_)
          replace hP : va_P D classes [((a 40), .inl (k 5, 4, .inr (.inr (.inr (.inr (a4 (a 41) (a 44) (a 47) (a 50))))))), ((a 44), .inr (3, (fX3 (a 45) (a 46) rf1 (nI rc1) (nI rr1)))), (aI k (a 45) 24 rs1), (aI k (a 46) 24 rb1), ((a 47), .inr (3, (fX3 (a 48) (a 49) rf2 (nI rc2) (nI rr2)))), (aI k (a 48) 24 rs2), (aI k (a 49) 24 rb2), ((a 50), .inr (3, (fX3 (a 51) (a 52) rf3 (nI rc3) (nI rr3)))), (aI k (a 51) 24 rs3), (aI k (a 52) 24 rb3), ((a 41), .inr (3, (fX3 (a 42) (a 43) rf__4 (nI rc__4) (nI rr__4)))), (aI k (a 42) 24 rs__4), (aI k (a 43) 24 rb__4), (aB k (a 2) 240 fx), ((a 0), .inr (7, (fX7 (a 1) (a 3) (a 19) (a 35) (a 40) 1 (-1) (a 53) (a 56) (a 63) (a 64) (a 68)))), ((a 1), .inr (6, (fX6 (a 2) 0 (nI ta__4) na__4 0 fb__4)))] H := hP
          replace hD : va_D A [((a 40), .inl (k 5, 4, .inr (.inr (.inr (.inr (a4 (a 41) (a 44) (a 47) (a 50))))))), ((a 44), .inr (3, (fX3 (a 45) (a 46) rf1 (nI rc1) (nI rr1)))), (aI k (a 45) 24 rs1), (aI k (a 46) 24 rb1), ((a 47), .inr (3, (fX3 (a 48) (a 49) rf2 (nI rc2) (nI rr2)))), (aI k (a 48) 24 rs2), (aI k (a 49) 24 rb2), ((a 50), .inr (3, (fX3 (a 51) (a 52) rf3 (nI rc3) (nI rr3)))), (aI k (a 51) 24 rs3), (aI k (a 52) 24 rb3), ((a 41), .inr (3, (fX3 (a 42) (a 43) rf__4 (nI rc__4) (nI rr__4)))), (aI k (a 42) 24 rs__4), (aI k (a 43) 24 rb__4), (aB k (a 2) 240 fx), ((a 0), .inr (7, (fX7 (a 1) (a 3) (a 19) (a 35) (a 40) 1 (-1) (a 53) (a 56) (a 63) (a 64) (a 68)))), ((a 1), .inr (6, (fX6 (a 2) 0 (nI ta__4) na__4 0 fb__4)))] := hD
          refine lv_aload_n hx hb dX7_rule_72 rfl (lv_at hl 1 rfl) ?_
          refine va_get (D := D) (ci := 7) (v := .int 1) (C := RX7) (T := TX7) (N := 12) hx hb hts inX7 hown hK hP 14 rfl rfl 5 (by decide) (hts _ tw_310) (fun _ h9 => h9) rfl dX7_rule_73 ?_
          refine lv_iconst (v := 1) hx hb dX7_rule_76 (by decide) ?_
          refine lv_isub hx hb dX7_rule_77 ?_
          refine lv_ti (y := 0) (by decide) ?_
          have hP9 := hP.sub (ws' := [((a 0), .inr (7, (fX7 (a 1) (a 3) (a 19) (a 35) (a 40) 1 (-1) (a 53) (a 56) (a 63) (a 64) (a 68)))), ((a 1), .inr (6, (fX6 (a 2) 0 (nI ta__4) na__4 0 fb__4))), (aB k (a 2) 240 fx), ((a 40), .inl (k 5, 4, .inr (.inr (.inr (.inr (a4 (a 41) (a 44) (a 47) (a 50))))))), ((a 41), .inr (3, (fX3 (a 42) (a 43) rf__4 (nI rc__4) (nI rr__4)))), (aI k (a 42) 24 rs__4), (aI k (a 43) 24 rb__4), ((a 44), .inr (3, (fX3 (a 45) (a 46) rf1 (nI rc1) (nI rr1)))), (aI k (a 45) 24 rs1), (aI k (a 46) 24 rb1), ((a 47), .inr (3, (fX3 (a 48) (a 49) rf2 (nI rc2) (nI rr2)))), (aI k (a 48) 24 rs2), (aI k (a 49) 24 rb2), ((a 50), .inr (3, (fX3 (a 51) (a 52) rf3 (nI rc3) (nI rr3)))), (aI k (a 51) 24 rs3), (aI k (a 52) 24 rb3)]) [14, 15, 13, 0, 10, 11, 12, 1, 2, 3, 4, 5, 6, 7, 8, 9] rfl
          have hD9 := hD.sub (ws' := [((a 0), .inr (7, (fX7 (a 1) (a 3) (a 19) (a 35) (a 40) 1 (-1) (a 53) (a 56) (a 63) (a 64) (a 68)))), ((a 1), .inr (6, (fX6 (a 2) 0 (nI ta__4) na__4 0 fb__4))), (aB k (a 2) 240 fx), ((a 40), .inl (k 5, 4, .inr (.inr (.inr (.inr (a4 (a 41) (a 44) (a 47) (a 50))))))), ((a 41), .inr (3, (fX3 (a 42) (a 43) rf__4 (nI rc__4) (nI rr__4)))), (aI k (a 42) 24 rs__4), (aI k (a 43) 24 rb__4), ((a 44), .inr (3, (fX3 (a 45) (a 46) rf1 (nI rc1) (nI rr1)))), (aI k (a 45) 24 rs1), (aI k (a 46) 24 rb1), ((a 47), .inr (3, (fX3 (a 48) (a 49) rf2 (nI rc2) (nI rr2)))), (aI k (a 48) 24 rs2), (aI k (a 49) 24 rb2), ((a 50), .inr (3, (fX3 (a 51) (a 52) rf3 (nI rc3) (nI rr3)))), (aI k (a 51) 24 rs3), (aI k (a 52) 24 rb3)]) [14, 15, 13, 0, 10, 11, 12, 1, 2, 3, 4, 5, 6, 7, 8, 9] (by decide +kernel) rfl
          exact W.iret (v := 0) hx hb hr (fun t ht hW => ⟨⟨0, (1, (-1), 0, (nI ta__4), na__4, 0, fb__4, rf__4, rc__4, rr__4, rs__4, rb__4, rf1, rc1, rr1, rs1, rb1, rf2, rc2, rr2, rs2, rb2, rf3, rc3, rr3, rs3, rb3), rfl, ⟨⟨fun h => absurd h (by omega), fun _ h => absurd h (by omega), fun _ _ => ⟨rfl, (fun q hq => absurd hq (by omega)), .inr ⟨hrf_5, rfl, rfl, rfl⟩⟩⟩, by omega, by omega, by omega, by omega, by omega, by omega, by omega, by omega, by omega, by omega⟩, by rw [ht]; exact hP9, hD9⟩, hS.F ht⟩) hS.2.2 dX7_rule_78
        · refine lv_aload_n hx hb dX7_rule_51 rfl (lv_at hl 0 rfl) ?_
          refine rw_i (D := D) (wr := [((a 40), .inl (k 5, 4, .inr (.inr (.inr (.inr (a4 (a 41) (a 44) (a 47) (a 50))))))), ((a 44), .inr (3, (fX3 (a 45) (a 46) rf1 (nI rc1) (nI rr1)))), (aI k (a 45) 24 rs1), (aI k (a 46) 24 rb1), ((a 47), .inr (3, (fX3 (a 48) (a 49) rf2 (nI rc2) (nI rr2)))), (aI k (a 48) 24 rs2), (aI k (a 49) 24 rb2), ((a 50), .inr (3, (fX3 (a 51) (a 52) rf3 (nI rc3) (nI rr3)))), (aI k (a 51) 24 rs3), (aI k (a 52) 24 rb3), ((a 41), .inr (3, (fX3 (a 42) (a 43) rf__4 (nI rc__4) (nI rr__4)))), (aI k (a 42) 24 rs__4), (aI k (a 43) 24 rb__4), (aB k (a 2) 240 fx)]) (va_runV (As := []) (rest := []) ⟨hx, hb, hml, hown, hts⟩ ((y_closeText l D k st lo a 0 lfa tz (nI ta__4) na__4 (nI e_5) (nI pl_5)) H.size) (cwV 0 hts (gV tw_496 tw_498 tw_2 tw_79 tw_499) rfl rfl rfl (by decide +kernel) ⟨Nat.le_of_ble_eq_true rfl, Nat.le_of_ble_eq_true rfl⟩) (pV hS hAlo hlo hP hK (va_Dlo hD hAlo) hZ [0, 14] (by decide) rfl (ci := 7) (q := (RX7, TX7, 12)) (q0 := 0) rfl rfl) rfl rfl hl.1 rfl (lv_room (Nat.le_of_ble_eq_true rfl)) dX7_rule_52 ⟨Nat.le_of_ble_eq_true rfl, Nat.le_of_ble_eq_true rfl⟩) hS hA hP hD [0, 14] [1, 2, 3, 4, 5, 6, 7, 8, 9, 10, 11, 12, 13, 15] rfl rfl (by decide +kernel) (by decide +kernel) (fun r_9 u H locs hw_9 hP hD hS => ?_)
          obtain ⟨lfa__9, tz__9⟩ := u
          replace hP : va_P D classes [((a 40), .inl (k 5, 4, .inr (.inr (.inr (.inr (a4 (a 41) (a 44) (a 47) (a 50))))))), ((a 44), .inr (3, (fX3 (a 45) (a 46) rf1 (nI rc1) (nI rr1)))), (aI k (a 45) 24 rs1), (aI k (a 46) 24 rb1), ((a 47), .inr (3, (fX3 (a 48) (a 49) rf2 (nI rc2) (nI rr2)))), (aI k (a 48) 24 rs2), (aI k (a 49) 24 rb2), ((a 50), .inr (3, (fX3 (a 51) (a 52) rf3 (nI rc3) (nI rr3)))), (aI k (a 51) 24 rs3), (aI k (a 52) 24 rb3), ((a 41), .inr (3, (fX3 (a 42) (a 43) rf__4 (nI rc__4) (nI rr__4)))), (aI k (a 42) 24 rs__4), (aI k (a 43) 24 rb__4), (aB k (a 2) 240 fx), ((a 0), .inr (7, (fX7 (a 1) (a 3) (a 19) (a 35) (a 40) 0 lfa__9 (a 53) (a 56) (a 63) (a 64) (a 68)))), ((a 1), .inr (6, (fX6 (a 2) (nI tz__9) (nI ta__4) na__4 (nI e_5) (nI pl_5))))] H := hP
          replace hD : va_D A [((a 40), .inl (k 5, 4, .inr (.inr (.inr (.inr (a4 (a 41) (a 44) (a 47) (a 50))))))), ((a 44), .inr (3, (fX3 (a 45) (a 46) rf1 (nI rc1) (nI rr1)))), (aI k (a 45) 24 rs1), (aI k (a 46) 24 rb1), ((a 47), .inr (3, (fX3 (a 48) (a 49) rf2 (nI rc2) (nI rr2)))), (aI k (a 48) 24 rs2), (aI k (a 49) 24 rb2), ((a 50), .inr (3, (fX3 (a 51) (a 52) rf3 (nI rc3) (nI rr3)))), (aI k (a 51) 24 rs3), (aI k (a 52) 24 rb3), ((a 41), .inr (3, (fX3 (a 42) (a 43) rf__4 (nI rc__4) (nI rr__4)))), (aI k (a 42) 24 rs__4), (aI k (a 43) 24 rb__4), (aB k (a 2) 240 fx), ((a 0), .inr (7, (fX7 (a 1) (a 3) (a 19) (a 35) (a 40) 0 lfa__9 (a 53) (a 56) (a 63) (a 64) (a 68)))), ((a 1), .inr (6, (fX6 (a 2) (nI tz__9) (nI ta__4) na__4 (nI e_5) (nI pl_5))))] := hD
          try dsimp only at hw_9
          have hcl_10 := hw_9.2.2 (nI_ne0 (show 0 < e_5 by omega) (by omega))
          obtain ⟨hs0_11, hs1_11⟩ := (⟨hw_9.1, hcl_10.2⟩ : _ ∧ _)
          replace hs0_11 := hs0_11.symm
          subst hs0_11
          replace hs1_11 := hs1_11.symm
          subst hs1_11
          refine lv_istore_n (lv' := [(1, .int r_9), (0, .ref (a 0))]) hx hb dX7_rule_55 rfl hl (by decide) rfl (fun ls hl => ?_)
          refine lv_iload_n hx hb dX7_rule_56 rfl (lv_at hl 0 rfl) ?_
          refine lv_if_ge (tgt := 62) hx hb dX7_rule_57 (by decide) (fun c_12 => absurd c_12 (by rw [hcl_10.1]; exact neg10 he1_5 he2_5)) (fun c_12 => ?_)
          refine lv_iload_n hx hb dX7_rule_60 rfl (lv_at hl 0 rfl) ?_
          have hP9 := hP.sub (ws' := [((a 0), .inr (7, (fX7 (a 1) (a 3) (a 19) (a 35) (a 40) 0 (nI pl_5) (a 53) (a 56) (a 63) (a 64) (a 68)))), ((a 1), .inr (6, (fX6 (a 2) 0 (nI ta__4) na__4 (nI e_5) (nI pl_5)))), (aB k (a 2) 240 fx), ((a 40), .inl (k 5, 4, .inr (.inr (.inr (.inr (a4 (a 41) (a 44) (a 47) (a 50))))))), ((a 41), .inr (3, (fX3 (a 42) (a 43) rf__4 (nI rc__4) (nI rr__4)))), (aI k (a 42) 24 rs__4), (aI k (a 43) 24 rb__4), ((a 44), .inr (3, (fX3 (a 45) (a 46) rf1 (nI rc1) (nI rr1)))), (aI k (a 45) 24 rs1), (aI k (a 46) 24 rb1), ((a 47), .inr (3, (fX3 (a 48) (a 49) rf2 (nI rc2) (nI rr2)))), (aI k (a 48) 24 rs2), (aI k (a 49) 24 rb2), ((a 50), .inr (3, (fX3 (a 51) (a 52) rf3 (nI rc3) (nI rr3)))), (aI k (a 51) 24 rs3), (aI k (a 52) 24 rb3)]) [14, 15, 13, 0, 10, 11, 12, 1, 2, 3, 4, 5, 6, 7, 8, 9] rfl
          have hD9 := hD.sub (ws' := [((a 0), .inr (7, (fX7 (a 1) (a 3) (a 19) (a 35) (a 40) 0 (nI pl_5) (a 53) (a 56) (a 63) (a 64) (a 68)))), ((a 1), .inr (6, (fX6 (a 2) 0 (nI ta__4) na__4 (nI e_5) (nI pl_5)))), (aB k (a 2) 240 fx), ((a 40), .inl (k 5, 4, .inr (.inr (.inr (.inr (a4 (a 41) (a 44) (a 47) (a 50))))))), ((a 41), .inr (3, (fX3 (a 42) (a 43) rf__4 (nI rc__4) (nI rr__4)))), (aI k (a 42) 24 rs__4), (aI k (a 43) 24 rb__4), ((a 44), .inr (3, (fX3 (a 45) (a 46) rf1 (nI rc1) (nI rr1)))), (aI k (a 45) 24 rs1), (aI k (a 46) 24 rb1), ((a 47), .inr (3, (fX3 (a 48) (a 49) rf2 (nI rc2) (nI rr2)))), (aI k (a 48) 24 rs2), (aI k (a 49) 24 rb2), ((a 50), .inr (3, (fX3 (a 51) (a 52) rf3 (nI rc3) (nI rr3)))), (aI k (a 51) 24 rs3), (aI k (a 52) 24 rb3)]) [14, 15, 13, 0, 10, 11, 12, 1, 2, 3, 4, 5, 6, 7, 8, 9] (by decide +kernel) rfl
          exact W.iret (v := r_9) hx hb hr (fun t ht hW => ⟨⟨r_9, (0, (nI pl_5), 0, (nI ta__4), na__4, (nI e_5), (nI pl_5), rf__4, rc__4, rr__4, rs__4, rb__4, rf1, rc1, rr1, rs1, rb1, rf2, rc2, rr2, rs2, rb2, rf3, rc3, rr3, rs3, rb3), rfl, ⟨⟨fun h => absurd h (by omega), fun _ h => absurd h (by omega), fun _ _ => ⟨rfl, (fun q hq => absurd hq (by omega)), .inl ⟨e_5, pl_5, he1_5, he2_5, hp1_5, hp2_5, hcl_10.1, rfl, rfl⟩⟩⟩, by omega, by omega, by omega, by omega, by omega, by omega, by omega, by omega, by omega, by omega⟩, by rw [ht]; exact hP9, hD9⟩, hS.F ht⟩) hS.2.2 dX7_rule_61
      · refine lv_aload_n hx hb dX7_rule_28 rfl (lv_at hl 0 rfl) ?_
        refine va_get (D := D) (ci := 7) (v := .ref (a 1)) (C := RX7) (T := TX7) (N := 12) hx hb hts inX7 hown hK hP 0 rfl rfl 0 (by decide) (hts _ tw_305) (fun _ h9 => h9) rfl dX7_rule_29 ?_
        refine rw_v (D := D) (wr := [((a 0), .inr (7, (fX7 (a 1) (a 3) (a 19) (a 35) (a 40) 1 lfa (a 53) (a 56) (a 63) (a 64) (a 68)))), ((a 40), .inl (k 5, 4, .inr (.inr (.inr (.inr (a4 (a 41) (a 44) (a 47) (a 50))))))), ((a 41), .inr (3, (fX3 (a 42) (a 43) rf0 (nI rc0) (nI rr0)))), (aI k (a 42) 24 rs0), (aI k (a 43) 24 rb0), ((a 44), .inr (3, (fX3 (a 45) (a 46) rf1 (nI rc1) (nI rr1)))), (aI k (a 45) 24 rs1), (aI k (a 46) 24 rb1), ((a 47), .inr (3, (fX3 (a 48) (a 49) rf2 (nI rc2) (nI rr2)))), (aI k (a 48) 24 rs2), (aI k (a 49) 24 rb2), ((a 50), .inr (3, (fX3 (a 51) (a 52) rf3 (nI rc3) (nI rr3)))), (aI k (a 51) 24 rs3), (aI k (a 52) 24 rb3)]) (va_runV (As := []) (rest := []) ⟨hx, hb, hml, hown, hts⟩ ((x_rewind l D k st lo (a 1) (a 2) tz ta na fn fb fx) s.heap.size) (cwV 0 hts (gV tw_354 tw_355 tw_356 tw_80 tw_357) rfl rfl rfl (by decide +kernel) ⟨Nat.le_of_ble_eq_true rfl, Nat.le_of_ble_eq_true rfl⟩) (pV hS hAlo hlo hP hK (va_Dlo hD hAlo) hZ [1, 2] (by decide) rfl (ci := 6) (q := (RX6, TX6, 6)) (q0 := 0) rfl rfl) rfl rfl hl.1 rfl (lv_room (Nat.le_of_ble_eq_true rfl)) dX7_rule_32 ⟨Nat.le_of_ble_eq_true rfl, Nat.le_of_ble_eq_true rfl⟩) hS hA hP hD [1, 2] [0, 3, 4, 5, 6, 7, 8, 9, 10, 11, 12, 13, 14, 15] rfl rfl (by decide +kernel) (by decide +kernel) (fun u H locs hw_13 hP hD hS => ?_)
        obtain ⟨ta__13, na__13, fn__13, fb__13⟩ := u
        replace hP : va_P D classes [((a 0), .inr (7, (fX7 (a 1) (a 3) (a 19) (a 35) (a 40) 1 lfa (a 53) (a 56) (a 63) (a 64) (a 68)))), ((a 40), .inl (k 5, 4, .inr (.inr (.inr (.inr (a4 (a 41) (a 44) (a 47) (a 50))))))), ((a 41), .inr (3, (fX3 (a 42) (a 43) rf0 (nI rc0) (nI rr0)))), (aI k (a 42) 24 rs0), (aI k (a 43) 24 rb0), ((a 44), .inr (3, (fX3 (a 45) (a 46) rf1 (nI rc1) (nI rr1)))), (aI k (a 45) 24 rs1), (aI k (a 46) 24 rb1), ((a 47), .inr (3, (fX3 (a 48) (a 49) rf2 (nI rc2) (nI rr2)))), (aI k (a 48) 24 rs2), (aI k (a 49) 24 rb2), ((a 50), .inr (3, (fX3 (a 51) (a 52) rf3 (nI rc3) (nI rr3)))), (aI k (a 51) 24 rs3), (aI k (a 52) 24 rb3), ((a 1), .inr (6, (fX6 (a 2) (nI tz) ta__13 na__13 fn__13 fb__13))), (aB k (a 2) 240 fx)] H := hP
        replace hD : va_D A [((a 0), .inr (7, (fX7 (a 1) (a 3) (a 19) (a 35) (a 40) 1 lfa (a 53) (a 56) (a 63) (a 64) (a 68)))), ((a 40), .inl (k 5, 4, .inr (.inr (.inr (.inr (a4 (a 41) (a 44) (a 47) (a 50))))))), ((a 41), .inr (3, (fX3 (a 42) (a 43) rf0 (nI rc0) (nI rr0)))), (aI k (a 42) 24 rs0), (aI k (a 43) 24 rb0), ((a 44), .inr (3, (fX3 (a 45) (a 46) rf1 (nI rc1) (nI rr1)))), (aI k (a 45) 24 rs1), (aI k (a 46) 24 rb1), ((a 47), .inr (3, (fX3 (a 48) (a 49) rf2 (nI rc2) (nI rr2)))), (aI k (a 48) 24 rs2), (aI k (a 49) 24 rb2), ((a 50), .inr (3, (fX3 (a 51) (a 52) rf3 (nI rc3) (nI rr3)))), (aI k (a 51) 24 rs3), (aI k (a 52) 24 rb3), ((a 1), .inr (6, (fX6 (a 2) (nI tz) ta__13 na__13 fn__13 fb__13))), (aB k (a 2) 240 fx)] := hD
        try dsimp only at hw_13
        obtain ⟨rfl, rfl⟩ := hw_13
        refine lv_aload_n hx hb dX7_rule_35 rfl (lv_at hl 0 rfl) ?_
        refine va_get (D := D) (ci := 7) (v := .ref (a 40)) (C := RX7) (T := TX7) (N := 12) hx hb hts inX7 hown hK hP 0 rfl rfl 4 (by decide) (hts _ tw_309) (fun _ h9 => h9) rfl dX7_rule_36 ?_
        refine lv_aload_n hx hb dX7_rule_39 rfl (lv_at hl 0 rfl) ?_
        refine va_get (D := D) (ci := 7) (v := .int 1) (C := RX7) (T := TX7) (N := 12) hx hb hts inX7 hown hK hP 0 rfl rfl 5 (by decide) (hts _ tw_310) (fun _ h9 => h9) rfl dX7_rule_40 ?_
        refine va_aldq hx hb hK hP 1 5 rfl rfl (by unfold vp_in; decide) dX7_rule_43 ?_
        refine lv_tr (y := .ref (a 44)) rfl ?_
        refine lv_aload_n hx hb dX7_rule_44 rfl (lv_at hl 0 rfl) ?_
        refine va_get (D := D) (ci := 7) (v := .ref (a 1)) (C := RX7) (T := TX7) (N := 12) hx hb hts inX7 hown hK hP 0 rfl rfl 0 (by decide) (hts _ tw_305) (fun _ h9 => h9) rfl dX7_rule_45 ?_
        refine rw_v (D := D) (wr := [((a 0), .inr (7, (fX7 (a 1) (a 3) (a 19) (a 35) (a 40) 1 lfa (a 53) (a 56) (a 63) (a 64) (a 68)))), ((a 40), .inl (k 5, 4, .inr (.inr (.inr (.inr (a4 (a 41) (a 44) (a 47) (a 50))))))), ((a 41), .inr (3, (fX3 (a 42) (a 43) rf0 (nI rc0) (nI rr0)))), (aI k (a 42) 24 rs0), (aI k (a 43) 24 rb0), ((a 47), .inr (3, (fX3 (a 48) (a 49) rf2 (nI rc2) (nI rr2)))), (aI k (a 48) 24 rs2), (aI k (a 49) 24 rb2), ((a 50), .inr (3, (fX3 (a 51) (a 52) rf3 (nI rc3) (nI rr3)))), (aI k (a 51) 24 rs3), (aI k (a 52) 24 rb3)]) (va_runV (As := [.ref (a 1)]) (rest := []) ⟨hx, hb, hml, hown, hts⟩ ((y_Rule_readFrom l D k st lo (a 44) (a 45) (a 46) rf1 rc1 rr1 rs1 rb1 (a 1) (a 2) tz 0 na__13 0 fb__13 fx (by first | assumption | omega) (by first | assumption | omega) (by first | assumption | omega) rfl) H.size) (cwV 1 hts (gV tw_675 tw_676 tw_677 tw_86 tw_678) rfl rfl rfl (by decide +kernel) ⟨Nat.le_of_ble_eq_true rfl, Nat.le_of_ble_eq_true rfl⟩) (pV hS hAlo hlo hP hK (va_Dlo hD hAlo) hZ [5, 6, 7, 14, 15] (by decide) rfl (ci := 3) (q := (RX3, TX3, 5)) (q0 := 0) rfl rfl) rfl rfl hl.1 rfl (lv_room (Nat.le_of_ble_eq_true rfl)) dX7_rule_48 ⟨Nat.le_of_ble_eq_true rfl, Nat.le_of_ble_eq_true rfl⟩) hS hA hP hD [5, 6, 7, 14, 15] [0, 1, 2, 3, 4, 8, 9, 10, 11, 12, 13] rfl rfl (by decide +kernel) (by decide +kernel) (fun u H locs hw_14 hP hD hS => ?_)
        obtain ⟨rf__14, rc__14, rr__14, rs__14, rb__14, ta__14, na__14, fn__14, fb__14⟩ := u
        replace hP : va_P D classes [((a 0), .inr (7, (fX7 (a 1) (a 3) (a 19) (a 35) (a 40) 1 lfa (a 53) (a 56) (a 63) (a 64) (a 68)))), ((a 40), .inl (k 5, 4, .inr (.inr (.inr (.inr (a4 (a 41) (a 44) (a 47) (a 50))))))), ((a 41), .inr (3, (fX3 (a 42) (a 43) rf0 (nI rc0) (nI rr0)))), (aI k (a 42) 24 rs0), (aI k (a 43) 24 rb0), ((a 47), .inr (3, (fX3 (a 48) (a 49) rf2 (nI rc2) (nI rr2)))), (aI k (a 48) 24 rs2), (aI k (a 49) 24 rb2), ((a 50), .inr (3, (fX3 (a 51) (a 52) rf3 (nI rc3) (nI rr3)))), (aI k (a 51) 24 rs3), (aI k (a 52) 24 rb3), ((a 44), .inr (3, (fX3 (a 45) (a 46) rf__14 (nI rc__14) (nI rr__14)))), (aI k (a 45) 24 rs__14), (aI k (a 46) 24 rb__14), ((a 1), .inr (6, (fX6 (a 2) (nI tz) (nI ta__14) na__14 fn__14 fb__14))), (aB k (a 2) 240 fx)] H := hP
        replace hD : va_D A [((a 0), .inr (7, (fX7 (a 1) (a 3) (a 19) (a 35) (a 40) 1 lfa (a 53) (a 56) (a 63) (a 64) (a 68)))), ((a 40), .inl (k 5, 4, .inr (.inr (.inr (.inr (a4 (a 41) (a 44) (a 47) (a 50))))))), ((a 41), .inr (3, (fX3 (a 42) (a 43) rf0 (nI rc0) (nI rr0)))), (aI k (a 42) 24 rs0), (aI k (a 43) 24 rb0), ((a 47), .inr (3, (fX3 (a 48) (a 49) rf2 (nI rc2) (nI rr2)))), (aI k (a 48) 24 rs2), (aI k (a 49) 24 rb2), ((a 50), .inr (3, (fX3 (a 51) (a 52) rf3 (nI rc3) (nI rr3)))), (aI k (a 51) 24 rs3), (aI k (a 52) 24 rb3), ((a 44), .inr (3, (fX3 (a 45) (a 46) rf__14 (nI rc__14) (nI rr__14)))), (aI k (a 45) 24 rs__14), (aI k (a 46) 24 rb__14), ((a 1), .inr (6, (fX6 (a 2) (nI tz) (nI ta__14) na__14 fn__14 fb__14))), (aB k (a 2) 240 fx)] := hD
        try dsimp only at hw_14
        rcases hw_14 with ⟨⟨rfl, hrf_15, hrc_15⟩ | ⟨e_15, pl_15, rfl, he1_15, he2_15, hp1_15, hp2_15, rfl⟩, hw_14⟩
        · refine lv_aload_n hx hb dX7_rule_51 rfl (lv_at hl 0 rfl) ?_
          refine rw_i (D := D) (wr := [((a 40), .inl (k 5, 4, .inr (.inr (.inr (.inr (a4 (a 41) (a 44) (a 47) (a 50))))))), ((a 41), .inr (3, (fX3 (a 42) (a 43) rf0 (nI rc0) (nI rr0)))), (aI k (a 42) 24 rs0), (aI k (a 43) 24 rb0), ((a 47), .inr (3, (fX3 (a 48) (a 49) rf2 (nI rc2) (nI rr2)))), (aI k (a 48) 24 rs2), (aI k (a 49) 24 rb2), ((a 50), .inr (3, (fX3 (a 51) (a 52) rf3 (nI rc3) (nI rr3)))), (aI k (a 51) 24 rs3), (aI k (a 52) 24 rb3), ((a 44), .inr (3, (fX3 (a 45) (a 46) rf__14 (nI rc__14) (nI rr__14)))), (aI k (a 45) 24 rs__14), (aI k (a 46) 24 rb__14), (aB k (a 2) 240 fx)]) (va_runV (As := []) (rest := []) ⟨hx, hb, hml, hown, hts⟩ ((y_closeText l D k st lo a 1 lfa tz (nI ta__14) na__14 0 fb__14) H.size) (cwV 0 hts (gV tw_496 tw_498 tw_2 tw_79 tw_499) rfl rfl rfl (by decide +kernel) ⟨Nat.le_of_ble_eq_true rfl, Nat.le_of_ble_eq_true rfl⟩) (pV hS hAlo hlo hP hK (va_Dlo hD hAlo) hZ [0, 14] (by decide) rfl (ci := 7) (q := (RX7, TX7, 12)) (q0 := 0) rfl rfl) rfl rfl hl.1 rfl (lv_room (Nat.le_of_ble_eq_true rfl)) dX7_rule_52 ⟨Nat.le_of_ble_eq_true rfl, Nat.le_of_ble_eq_true rfl⟩) hS hA hP hD [0, 14] [1, 2, 3, 4, 5, 6, 7, 8, 9, 10, 11, 12, 13, 15] rfl rfl (by decide +kernel) (by decide +kernel) (fun r_16 u H locs hw_16 hP hD hS => ?_)
          obtain ⟨lfa__16, tz__16⟩ := u
          replace hP : va_P D classes [((a 40), .inl (k 5, 4, .inr (.inr (.inr (.inr (a4 (a 41) (a 44) (a 47) (a 50))))))), ((a 41), .inr (3, (fX3 (a 42) (a 43) rf0 (nI rc0) (nI rr0)))), (aI k (a 42) 24 rs0), (aI k (a 43) 24 rb0), ((a 47), .inr (3, (fX3 (a 48) (a 49) rf2 (nI rc2) (nI rr2)))), (aI k (a 48) 24 rs2), (aI k (a 49) 24 rb2), ((a 50), .inr (3, (fX3 (a 51) (a 52) rf3 (nI rc3) (nI rr3)))), (aI k (a 51) 24 rs3), (aI k (a 52) 24 rb3), ((a 44), .inr (3, (fX3 (a 45) (a 46) rf__14 (nI rc__14) (nI rr__14)))), (aI k (a 45) 24 rs__14), (aI k (a 46) 24 rb__14), (aB k (a 2) 240 fx), ((a 0), .inr (7, (fX7 (a 1) (a 3) (a 19) (a 35) (a 40) 1 lfa__16 (a 53) (a 56) (a 63) (a 64) (a 68)))), ((a 1), .inr (6, (fX6 (a 2) (nI tz__16) (nI ta__14) na__14 0 fb__14)))] H := hP
          replace hD : va_D A [((a 40), .inl (k 5, 4, .inr (.inr (.inr (.inr (a4 (a 41) (a 44) (a 47) (a 50))))))), ((a 41), .inr (3, (fX3 (a 42) (a 43) rf0 (nI rc0) (nI rr0)))), (aI k (a 42) 24 rs0), (aI k (a 43) 24 rb0), ((a 47), .inr (3, (fX3 (a 48) (a 49) rf2 (nI rc2) (nI rr2)))), (aI k (a 48) 24 rs2), (aI k (a 49) 24 rb2), ((a 50), .inr (3, (fX3 (a 51) (a 52) rf3 (nI rc3) (nI rr3)))), (aI k (a 51) 24 rs3), (aI k (a 52) 24 rb3), ((a 44), .inr (3, (fX3 (a 45) (a 46) rf__14 (nI rc__14) (nI rr__14)))), (aI k (a 45) 24 rs__14), (aI k (a 46) 24 rb__14), (aB k (a 2) 240 fx), ((a 0), .inr (7, (fX7 (a 1) (a 3) (a 19) (a 35) (a 40) 1 lfa__16 (a 53) (a 56) (a 63) (a 64) (a 68)))), ((a 1), .inr (6, (fX6 (a 2) (nI tz__16) (nI ta__14) na__14 0 fb__14)))] := hD
          try dsimp only at hw_16
          have hcl_17 := hw_16.2.1 rfl
          obtain ⟨hs0_18, hs1_18, hs2_18⟩ := (⟨hw_16.1, hcl_17.1, hcl_17.2⟩ : _ ∧ _ ∧ _)
          replace hs0_18 := hs0_18.symm
          subst hs0_18
          replace hs1_18 := hs1_18.symm
          subst hs1_18
          replace hs2_18 := hs2_18.symm
          subst hs2_18
          refine lv_istore_n (lv' := [(1, .int 0), (0, .ref (a 0))]) hx hb dX7_rule_55 rfl hl (by decide) rfl (fun ls hl => ?_)
          refine lv_iload_n hx hb dX7_rule_56 rfl (lv_at hl 0 rfl) ?_
          refine lv_if_ge (tgt := 62) hx hb dX7_rule_57 (by decide) (fun _ => ?_) (fun h => absurd (by decide) h)
          refine lv_aload_n hx hb dX7_rule_62 rfl (lv_at hl 1 rfl) ?_
          refine lv_dup hx hb dX7_rule_63 rfl ?_
          refine va_get (D := D) (ci := 7) (v := .int 1) (C := RX7) (T := TX7) (N := 12) hx hb hts inX7 hown hK hP 14 rfl rfl 5 (by decide) (hts _ tw_310) (fun _ h9 => h9) rfl dX7_rule_64 ?_
          refine lv_iconst (v := 1) hx hb dX7_rule_67 (by decide) ?_
          refine lv_iadd hx hb dX7_rule_68 ?_
          refine lv_ti (y := 2) (by decide) ?_
          refine va_put (D := D) (ci := 7) (v := .int 2) (ty := .int) (C := RX7) (T := TX7) (N := 12) hx hb hts inX7 tyX7 tyX7_ok nmX7 hown hK hP hD hS 14 rfl rfl 5 (by decide) (hts _ tw_310) (fun _ h9 => h9) rfl (by decide +kernel) rfl rfl (Nat.le_of_ble_eq_true rfl) dX7_rule_69 (fun H locs hP hD hS => ?_)
          replace hP : va_P D classes [((a 40), .inl (k 5, 4, .inr (.inr (.inr (.inr (a4 (a 41) (a 44) (a 47) (a 50))))))), ((a 41), .inr (3, (fX3 (a 42) (a 43) rf0 (nI rc0) (nI rr0)))), (aI k (a 42) 24 rs0), (aI k (a 43) 24 rb0), ((a 47), .inr (3, (fX3 (a 48) (a 49) rf2 (nI rc2) (nI rr2)))), (aI k (a 48) 24 rs2), (aI k (a 49) 24 rb2), ((a 50), .inr (3, (fX3 (a 51) (a 52) rf3 (nI rc3) (nI rr3)))), (aI k (a 51) 24 rs3), (aI k (a 52) 24 rb3), ((a 44), .inr (3, (fX3 (a 45) (a 46) rf__14 (nI rc__14) (nI rr__14)))), (aI k (a 45) 24 rs__14), (aI k (a 46) 24 rb__14), (aB k (a 2) 240 fx), ((a 0), .inr (7, (fX7 (a 1) (a 3) (a 19) (a 35) (a 40) 2 (-1) (a 53) (a 56) (a 63) (a 64) (a 68)))), ((a 1), .inr (6, (fX6 (a 2) 0 (nI ta__14) na__14 0 fb__14)))] H := hP
          replace hD : va_D A [((a 40), .inl (k 5, 4, .inr (.inr (.inr (.inr (a4 (a 41) (a 44) (a 47) (a 50))))))), ((a 41), .inr (3, (fX3 (a 42) (a 43) rf0 (nI rc0) (nI rr0)))), (aI k (a 42) 24 rs0), (aI k (a 43) 24 rb0), ((a 47), .inr (3, (fX3 (a 48) (a 49) rf2 (nI rc2) (nI rr2)))), (aI k (a 48) 24 rs2), (aI k (a 49) 24 rb2), ((a 50), .inr (3, (fX3 (a 51) (a 52) rf3 (nI rc3) (nI rr3)))), (aI k (a 51) 24 rs3), (aI k (a 52) 24 rb3), ((a 44), .inr (3, (fX3 (a 45) (a 46) rf__14 (nI rc__14) (nI rr__14)))), (aI k (a 45) 24 rs__14), (aI k (a 46) 24 rb__14), (aB k (a 2) 240 fx), ((a 0), .inr (7, (fX7 (a 1) (a 3) (a 19) (a 35) (a 40) 2 (-1) (a 53) (a 56) (a 63) (a 64) (a 68)))), ((a 1), .inr (6, (fX6 (a 2) 0 (nI ta__14) na__14 0 fb__14)))] := hD
          refine lv_aload_n hx hb dX7_rule_72 rfl (lv_at hl 1 rfl) ?_
          refine va_get (D := D) (ci := 7) (v := .int 2) (C := RX7) (T := TX7) (N := 12) hx hb hts inX7 hown hK hP 14 rfl rfl 5 (by decide) (hts _ tw_310) (fun _ h9 => h9) rfl dX7_rule_73 ?_
          refine lv_iconst (v := 1) hx hb dX7_rule_76 (by decide) ?_
          refine lv_isub hx hb dX7_rule_77 ?_
          refine lv_ti (y := 1) (by decide) ?_
          have hP9 := hP.sub (ws' := [((a 0), .inr (7, (fX7 (a 1) (a 3) (a 19) (a 35) (a 40) 2 (-1) (a 53) (a 56) (a 63) (a 64) (a 68)))), ((a 1), .inr (6, (fX6 (a 2) 0 (nI ta__14) na__14 0 fb__14))), (aB k (a 2) 240 fx), ((a 40), .inl (k 5, 4, .inr (.inr (.inr (.inr (a4 (a 41) (a 44) (a 47) (a 50))))))), ((a 41), .inr (3, (fX3 (a 42) (a 43) rf0 (nI rc0) (nI rr0)))), (aI k (a 42) 24 rs0), (aI k (a 43) 24 rb0), ((a 44), .inr (3, (fX3 (a 45) (a 46) rf__14 (nI rc__14) (nI rr__14)))), (aI k (a 45) 24 rs__14), (aI k (a 46) 24 rb__14), ((a 47), .inr (3, (fX3 (a 48) (a 49) rf2 (nI rc2) (nI rr2)))), (aI k (a 48) 24 rs2), (aI k (a 49) 24 rb2), ((a 50), .inr (3, (fX3 (a 51) (a 52) rf3 (nI rc3) (nI rr3)))), (aI k (a 51) 24 rs3), (aI k (a 52) 24 rb3)]) [14, 15, 13, 0, 1, 2, 3, 10, 11, 12, 4, 5, 6, 7, 8, 9] rfl
          have hD9 := hD.sub (ws' := [((a 0), .inr (7, (fX7 (a 1) (a 3) (a 19) (a 35) (a 40) 2 (-1) (a 53) (a 56) (a 63) (a 64) (a 68)))), ((a 1), .inr (6, (fX6 (a 2) 0 (nI ta__14) na__14 0 fb__14))), (aB k (a 2) 240 fx), ((a 40), .inl (k 5, 4, .inr (.inr (.inr (.inr (a4 (a 41) (a 44) (a 47) (a 50))))))), ((a 41), .inr (3, (fX3 (a 42) (a 43) rf0 (nI rc0) (nI rr0)))), (aI k (a 42) 24 rs0), (aI k (a 43) 24 rb0), ((a 44), .inr (3, (fX3 (a 45) (a 46) rf__14 (nI rc__14) (nI rr__14)))), (aI k (a 45) 24 rs__14), (aI k (a 46) 24 rb__14), ((a 47), .inr (3, (fX3 (a 48) (a 49) rf2 (nI rc2) (nI rr2)))), (aI k (a 48) 24 rs2), (aI k (a 49) 24 rb2), ((a 50), .inr (3, (fX3 (a 51) (a 52) rf3 (nI rc3) (nI rr3)))), (aI k (a 51) 24 rs3), (aI k (a 52) 24 rb3)]) [14, 15, 13, 0, 1, 2, 3, 10, 11, 12, 4, 5, 6, 7, 8, 9] (by decide +kernel) rfl
          exact W.iret (v := 1) hx hb hr (fun t ht hW => ⟨⟨1, (2, (-1), 0, (nI ta__14), na__14, 0, fb__14, rf0, rc0, rr0, rs0, rb0, rf__14, rc__14, rr__14, rs__14, rb__14, rf2, rc2, rr2, rs2, rb2, rf3, rc3, rr3, rs3, rb3), rfl, ⟨⟨fun h => absurd h (by omega), fun _ h => absurd h (by omega), fun _ _ => ⟨rfl, (fun q hq => by rcases (show q = 0 by omega) with rfl <;> rfl), .inr ⟨hrf_15, rfl, rfl, rfl⟩⟩⟩, by omega, by omega, by omega, by omega, by omega, by omega, by omega, by omega, by omega, by omega⟩, by rw [ht]; exact hP9, hD9⟩, hS.F ht⟩) hS.2.2 dX7_rule_78
        · refine lv_aload_n hx hb dX7_rule_51 rfl (lv_at hl 0 rfl) ?_
          refine rw_i (D := D) (wr := [((a 40), .inl (k 5, 4, .inr (.inr (.inr (.inr (a4 (a 41) (a 44) (a 47) (a 50))))))), ((a 41), .inr (3, (fX3 (a 42) (a 43) rf0 (nI rc0) (nI rr0)))), (aI k (a 42) 24 rs0), (aI k (a 43) 24 rb0), ((a 47), .inr (3, (fX3 (a 48) (a 49) rf2 (nI rc2) (nI rr2)))), (aI k (a 48) 24 rs2), (aI k (a 49) 24 rb2), ((a 50), .inr (3, (fX3 (a 51) (a 52) rf3 (nI rc3) (nI rr3)))), (aI k (a 51) 24 rs3), (aI k (a 52) 24 rb3), ((a 44), .inr (3, (fX3 (a 45) (a 46) rf__14 (nI rc__14) (nI rr__14)))), (aI k (a 45) 24 rs__14), (aI k (a 46) 24 rb__14), (aB k (a 2) 240 fx)]) (va_runV (As := []) (rest := []) ⟨hx, hb, hml, hown, hts⟩ ((y_closeText l D k st lo a 1 lfa tz (nI ta__14) na__14 (nI e_15) (nI pl_15)) H.size) (cwV 0 hts (gV tw_496 tw_498 tw_2 tw_79 tw_499) rfl rfl rfl (by decide +kernel) ⟨Nat.le_of_ble_eq_true rfl, Nat.le_of_ble_eq_true rfl⟩) (pV hS hAlo hlo hP hK (va_Dlo hD hAlo) hZ [0, 14] (by decide) rfl (ci := 7) (q := (RX7, TX7, 12)) (q0 := 0) rfl rfl) rfl rfl hl.1 rfl (lv_room (Nat.le_of_ble_eq_true rfl)) dX7_rule_52 ⟨Nat.le_of_ble_eq_true rfl, Nat.le_of_ble_eq_true rfl⟩) hS hA hP hD [0, 14] [1, 2, 3, 4, 5, 6, 7, 8, 9, 10, 11, 12, 13, 15] rfl rfl (by decide +kernel) (by decide +kernel) (fun r_19 u H locs hw_19 hP hD hS => ?_)
          obtain ⟨lfa__19, tz__19⟩ := u
          replace hP : va_P D classes [((a 40), .inl (k 5, 4, .inr (.inr (.inr (.inr (a4 (a 41) (a 44) (a 47) (a 50))))))), ((a 41), .inr (3, (fX3 (a 42) (a 43) rf0 (nI rc0) (nI rr0)))), (aI k (a 42) 24 rs0), (aI k (a 43) 24 rb0), ((a 47), .inr (3, (fX3 (a 48) (a 49) rf2 (nI rc2) (nI rr2)))), (aI k (a 48) 24 rs2), (aI k (a 49) 24 rb2), ((a 50), .inr (3, (fX3 (a 51) (a 52) rf3 (nI rc3) (nI rr3)))), (aI k (a 51) 24 rs3), (aI k (a 52) 24 rb3), ((a 44), .inr (3, (fX3 (a 45) (a 46) rf__14 (nI rc__14) (nI rr__14)))), (aI k (a 45) 24 rs__14), (aI k (a 46) 24 rb__14), (aB k (a 2) 240 fx), ((a 0), .inr (7, (fX7 (a 1) (a 3) (a 19) (a 35) (a 40) 1 lfa__19 (a 53) (a 56) (a 63) (a 64) (a 68)))), ((a 1), .inr (6, (fX6 (a 2) (nI tz__19) (nI ta__14) na__14 (nI e_15) (nI pl_15))))] H := hP
          replace hD : va_D A [((a 40), .inl (k 5, 4, .inr (.inr (.inr (.inr (a4 (a 41) (a 44) (a 47) (a 50))))))), ((a 41), .inr (3, (fX3 (a 42) (a 43) rf0 (nI rc0) (nI rr0)))), (aI k (a 42) 24 rs0), (aI k (a 43) 24 rb0), ((a 47), .inr (3, (fX3 (a 48) (a 49) rf2 (nI rc2) (nI rr2)))), (aI k (a 48) 24 rs2), (aI k (a 49) 24 rb2), ((a 50), .inr (3, (fX3 (a 51) (a 52) rf3 (nI rc3) (nI rr3)))), (aI k (a 51) 24 rs3), (aI k (a 52) 24 rb3), ((a 44), .inr (3, (fX3 (a 45) (a 46) rf__14 (nI rc__14) (nI rr__14)))), (aI k (a 45) 24 rs__14), (aI k (a 46) 24 rb__14), (aB k (a 2) 240 fx), ((a 0), .inr (7, (fX7 (a 1) (a 3) (a 19) (a 35) (a 40) 1 lfa__19 (a 53) (a 56) (a 63) (a 64) (a 68)))), ((a 1), .inr (6, (fX6 (a 2) (nI tz__19) (nI ta__14) na__14 (nI e_15) (nI pl_15))))] := hD
          try dsimp only at hw_19
          have hcl_20 := hw_19.2.2 (nI_ne0 (show 0 < e_15 by omega) (by omega))
          obtain ⟨hs0_21, hs1_21⟩ := (⟨hw_19.1, hcl_20.2⟩ : _ ∧ _)
          replace hs0_21 := hs0_21.symm
          subst hs0_21
          replace hs1_21 := hs1_21.symm
          subst hs1_21
          refine lv_istore_n (lv' := [(1, .int r_19), (0, .ref (a 0))]) hx hb dX7_rule_55 rfl hl (by decide) rfl (fun ls hl => ?_)
          refine lv_iload_n hx hb dX7_rule_56 rfl (lv_at hl 0 rfl) ?_
          refine lv_if_ge (tgt := 62) hx hb dX7_rule_57 (by decide) (fun c_22 => absurd c_22 (by rw [hcl_20.1]; exact neg10 he1_15 he2_15)) (fun c_22 => ?_)
          refine lv_iload_n hx hb dX7_rule_60 rfl (lv_at hl 0 rfl) ?_
          have hP9 := hP.sub (ws' := [((a 0), .inr (7, (fX7 (a 1) (a 3) (a 19) (a 35) (a 40) 1 (nI pl_15) (a 53) (a 56) (a 63) (a 64) (a 68)))), ((a 1), .inr (6, (fX6 (a 2) 0 (nI ta__14) na__14 (nI e_15) (nI pl_15)))), (aB k (a 2) 240 fx), ((a 40), .inl (k 5, 4, .inr (.inr (.inr (.inr (a4 (a 41) (a 44) (a 47) (a 50))))))), ((a 41), .inr (3, (fX3 (a 42) (a 43) rf0 (nI rc0) (nI rr0)))), (aI k (a 42) 24 rs0), (aI k (a 43) 24 rb0), ((a 44), .inr (3, (fX3 (a 45) (a 46) rf__14 (nI rc__14) (nI rr__14)))), (aI k (a 45) 24 rs__14), (aI k (a 46) 24 rb__14), ((a 47), .inr (3, (fX3 (a 48) (a 49) rf2 (nI rc2) (nI rr2)))), (aI k (a 48) 24 rs2), (aI k (a 49) 24 rb2), ((a 50), .inr (3, (fX3 (a 51) (a 52) rf3 (nI rc3) (nI rr3)))), (aI k (a 51) 24 rs3), (aI k (a 52) 24 rb3)]) [14, 15, 13, 0, 1, 2, 3, 10, 11, 12, 4, 5, 6, 7, 8, 9] rfl
          have hD9 := hD.sub (ws' := [((a 0), .inr (7, (fX7 (a 1) (a 3) (a 19) (a 35) (a 40) 1 (nI pl_15) (a 53) (a 56) (a 63) (a 64) (a 68)))), ((a 1), .inr (6, (fX6 (a 2) 0 (nI ta__14) na__14 (nI e_15) (nI pl_15)))), (aB k (a 2) 240 fx), ((a 40), .inl (k 5, 4, .inr (.inr (.inr (.inr (a4 (a 41) (a 44) (a 47) (a 50))))))), ((a 41), .inr (3, (fX3 (a 42) (a 43) rf0 (nI rc0) (nI rr0)))), (aI k (a 42) 24 rs0), (aI k (a 43) 24 rb0), ((a 44), .inr (3, (fX3 (a 45) (a 46) rf__14 (nI rc__14) (nI rr__14)))), (aI k (a 45) 24 rs__14), (aI k (a 46) 24 rb__14), ((a 47), .inr (3, (fX3 (a 48) (a 49) rf2 (nI rc2) (nI rr2)))), (aI k (a 48) 24 rs2), (aI k (a 49) 24 rb2), ((a 50), .inr (3, (fX3 (a 51) (a 52) rf3 (nI rc3) (nI rr3)))), (aI k (a 51) 24 rs3), (aI k (a 52) 24 rb3)]) [14, 15, 13, 0, 1, 2, 3, 10, 11, 12, 4, 5, 6, 7, 8, 9] (by decide +kernel) rfl
          exact W.iret (v := r_19) hx hb hr (fun t ht hW => ⟨⟨r_19, (1, (nI pl_15), 0, (nI ta__14), na__14, (nI e_15), (nI pl_15), rf0, rc0, rr0, rs0, rb0, rf__14, rc__14, rr__14, rs__14, rb__14, rf2, rc2, rr2, rs2, rb2, rf3, rc3, rr3, rs3, rb3), rfl, ⟨⟨fun h => absurd h (by omega), fun _ h => absurd h (by omega), fun _ _ => ⟨rfl, (fun q hq => by rcases (show q = 0 by omega) with rfl <;> rfl), .inl ⟨e_15, pl_15, he1_15, he2_15, hp1_15, hp2_15, hcl_20.1, rfl, rfl⟩⟩⟩, by omega, by omega, by omega, by omega, by omega, by omega, by omega, by omega, by omega, by omega⟩, by rw [ht]; exact hP9, hD9⟩, hS.F ht⟩) hS.2.2 dX7_rule_61
      · refine lv_aload_n hx hb dX7_rule_28 rfl (lv_at hl 0 rfl) ?_
        refine va_get (D := D) (ci := 7) (v := .ref (a 1)) (C := RX7) (T := TX7) (N := 12) hx hb hts inX7 hown hK hP 0 rfl rfl 0 (by decide) (hts _ tw_305) (fun _ h9 => h9) rfl dX7_rule_29 ?_
        refine rw_v (D := D) (wr := [((a 0), .inr (7, (fX7 (a 1) (a 3) (a 19) (a 35) (a 40) 2 lfa (a 53) (a 56) (a 63) (a 64) (a 68)))), ((a 40), .inl (k 5, 4, .inr (.inr (.inr (.inr (a4 (a 41) (a 44) (a 47) (a 50))))))), ((a 41), .inr (3, (fX3 (a 42) (a 43) rf0 (nI rc0) (nI rr0)))), (aI k (a 42) 24 rs0), (aI k (a 43) 24 rb0), ((a 44), .inr (3, (fX3 (a 45) (a 46) rf1 (nI rc1) (nI rr1)))), (aI k (a 45) 24 rs1), (aI k (a 46) 24 rb1), ((a 47), .inr (3, (fX3 (a 48) (a 49) rf2 (nI rc2) (nI rr2)))), (aI k (a 48) 24 rs2), (aI k (a 49) 24 rb2), ((a 50), .inr (3, (fX3 (a 51) (a 52) rf3 (nI rc3) (nI rr3)))), (aI k (a 51) 24 rs3), (aI k (a 52) 24 rb3)]) (va_runV (As := []) (rest := []) ⟨hx, hb, hml, hown, hts⟩ ((x_rewind l D k st lo (a 1) (a 2) tz ta na fn fb fx) s.heap.size) (cwV 0 hts (gV tw_354 tw_355 tw_356 tw_80 tw_357) rfl rfl rfl (by decide +kernel) ⟨Nat.le_of_ble_eq_true rfl, Nat.le_of_ble_eq_true rfl⟩) (pV hS hAlo hlo hP hK (va_Dlo hD hAlo) hZ [1, 2] (by decide) rfl (ci := 6) (q := (RX6, TX6, 6)) (q0 := 0) rfl rfl) rfl rfl hl.1 rfl (lv_room (Nat.le_of_ble_eq_true rfl)) dX7_rule_32 ⟨Nat.le_of_ble_eq_true rfl, Nat.le_of_ble_eq_true rfl⟩) hS hA hP hD [1, 2] [0, 3, 4, 5, 6, 7, 8, 9, 10, 11, 12, 13, 14, 15] rfl rfl (by decide +kernel) (by decide +kernel) (fun u H locs hw_23 hP hD hS => ?_)
        obtain ⟨ta__23, na__23, fn__23, fb__23⟩ := u
        replace hP : va_P D classes [((a 0), .inr (7, (fX7 (a 1) (a 3) (a 19) (a 35) (a 40) 2 lfa (a 53) (a 56) (a 63) (a 64) (a 68)))), ((a 40), .inl (k 5, 4, .inr (.inr (.inr (.inr (a4 (a 41) (a 44) (a 47) (a 50))))))), ((a 41), .inr (3, (fX3 (a 42) (a 43) rf0 (nI rc0) (nI rr0)))), (aI k (a 42) 24 rs0), (aI k (a 43) 24 rb0), ((a 44), .inr (3, (fX3 (a 45) (a 46) rf1 (nI rc1) (nI rr1)))), (aI k (a 45) 24 rs1), (aI k (a 46) 24 rb1), ((a 47), .inr (3, (fX3 (a 48) (a 49) rf2 (nI rc2) (nI rr2)))), (aI k (a 48) 24 rs2), (aI k (a 49) 24 rb2), ((a 50), .inr (3, (fX3 (a 51) (a 52) rf3 (nI rc3) (nI rr3)))), (aI k (a 51) 24 rs3), (aI k (a 52) 24 rb3), ((a 1), .inr (6, (fX6 (a 2) (nI tz) ta__23 na__23 fn__23 fb__23))), (aB k (a 2) 240 fx)] H := hP
        replace hD : va_D A [((a 0), .inr (7, (fX7 (a 1) (a 3) (a 19) (a 35) (a 40) 2 lfa (a 53) (a 56) (a 63) (a 64) (a 68)))), ((a 40), .inl (k 5, 4, .inr (.inr (.inr (.inr (a4 (a 41) (a 44) (a 47) (a 50))))))), ((a 41), .inr (3, (fX3 (a 42) (a 43) rf0 (nI rc0) (nI rr0)))), (aI k (a 42) 24 rs0), (aI k (a 43) 24 rb0), ((a 44), .inr (3, (fX3 (a 45) (a 46) rf1 (nI rc1) (nI rr1)))), (aI k (a 45) 24 rs1), (aI k (a 46) 24 rb1), ((a 47), .inr (3, (fX3 (a 48) (a 49) rf2 (nI rc2) (nI rr2)))), (aI k (a 48) 24 rs2), (aI k (a 49) 24 rb2), ((a 50), .inr (3, (fX3 (a 51) (a 52) rf3 (nI rc3) (nI rr3)))), (aI k (a 51) 24 rs3), (aI k (a 52) 24 rb3), ((a 1), .inr (6, (fX6 (a 2) (nI tz) ta__23 na__23 fn__23 fb__23))), (aB k (a 2) 240 fx)] := hD
        try dsimp only at hw_23
        obtain ⟨rfl, rfl⟩ := hw_23
        refine lv_aload_n hx hb dX7_rule_35 rfl (lv_at hl 0 rfl) ?_
        refine va_get (D := D) (ci := 7) (v := .ref (a 40)) (C := RX7) (T := TX7) (N := 12) hx hb hts inX7 hown hK hP 0 rfl rfl 4 (by decide) (hts _ tw_309) (fun _ h9 => h9) rfl dX7_rule_36 ?_
        refine lv_aload_n hx hb dX7_rule_39 rfl (lv_at hl 0 rfl) ?_
        refine va_get (D := D) (ci := 7) (v := .int 2) (C := RX7) (T := TX7) (N := 12) hx hb hts inX7 hown hK hP 0 rfl rfl 5 (by decide) (hts _ tw_310) (fun _ h9 => h9) rfl dX7_rule_40 ?_
        refine va_aldq hx hb hK hP 1 5 rfl rfl (by unfold vp_in; decide) dX7_rule_43 ?_
        refine lv_tr (y := .ref (a 47)) rfl ?_
        refine lv_aload_n hx hb dX7_rule_44 rfl (lv_at hl 0 rfl) ?_
        refine va_get (D := D) (ci := 7) (v := .ref (a 1)) (C := RX7) (T := TX7) (N := 12) hx hb hts inX7 hown hK hP 0 rfl rfl 0 (by decide) (hts _ tw_305) (fun _ h9 => h9) rfl dX7_rule_45 ?_
        refine rw_v (D := D) (wr := [((a 0), .inr (7, (fX7 (a 1) (a 3) (a 19) (a 35) (a 40) 2 lfa (a 53) (a 56) (a 63) (a 64) (a 68)))), ((a 40), .inl (k 5, 4, .inr (.inr (.inr (.inr (a4 (a 41) (a 44) (a 47) (a 50))))))), ((a 41), .inr (3, (fX3 (a 42) (a 43) rf0 (nI rc0) (nI rr0)))), (aI k (a 42) 24 rs0), (aI k (a 43) 24 rb0), ((a 44), .inr (3, (fX3 (a 45) (a 46) rf1 (nI rc1) (nI rr1)))), (aI k (a 45) 24 rs1), (aI k (a 46) 24 rb1), ((a 50), .inr (3, (fX3 (a 51) (a 52) rf3 (nI rc3) (nI rr3)))), (aI k (a 51) 24 rs3), (aI k (a 52) 24 rb3)]) (va_runV (As := [.ref (a 1)]) (rest := []) ⟨hx, hb, hml, hown, hts⟩ ((y_Rule_readFrom l D k st lo (a 47) (a 48) (a 49) rf2 rc2 rr2 rs2 rb2 (a 1) (a 2) tz 0 na__23 0 fb__23 fx (by first | assumption | omega) (by first | assumption | omega) (by first | assumption | omega) rfl) H.size) (cwV 1 hts (gV tw_675 tw_676 tw_677 tw_86 tw_678) rfl rfl rfl (by decide +kernel) ⟨Nat.le_of_ble_eq_true rfl, Nat.le_of_ble_eq_true rfl⟩) (pV hS hAlo hlo hP hK (va_Dlo hD hAlo) hZ [8, 9, 10, 14, 15] (by decide) rfl (ci := 3) (q := (RX3, TX3, 5)) (q0 := 0) rfl rfl) rfl rfl hl.1 rfl (lv_room (Nat.le_of_ble_eq_true rfl)) dX7_rule_48 ⟨Nat.le_of_ble_eq_true rfl, Nat.le_of_ble_eq_true rfl⟩) hS hA hP hD [8, 9, 10, 14, 15] [0, 1, 2, 3, 4, 5, 6, 7, 11, 12, 13] rfl rfl (by decide +kernel) (by decide +kernel) (fun u H locs hw_24 hP hD hS => ?_)
        obtain ⟨rf__24, rc__24, rr__24, rs__24, rb__24, ta__24, na__24, fn__24, fb__24⟩ := u
        replace hP : va_P D classes [((a 0), .inr (7, (fX7 (a 1) (a 3) (a 19) (a 35) (a 40) 2 lfa (a 53) (a 56) (a 63) (a 64) (a 68)))), ((a 40), .inl (k 5, 4, .inr (.inr (.inr (.inr (a4 (a 41) (a 44) (a 47) (a 50))))))), ((a 41), .inr (3, (fX3 (a 42) (a 43) rf0 (nI rc0) (nI rr0)))), (aI k (a 42) 24 rs0), (aI k (a 43) 24 rb0), ((a 44), .inr (3, (fX3 (a 45) (a 46) rf1 (nI rc1) (nI rr1)))), (aI k (a 45) 24 rs1), (aI k (a 46) 24 rb1), ((a 50), .inr (3, (fX3 (a 51) (a 52) rf3 (nI rc3) (nI rr3)))), (aI k (a 51) 24 rs3), (aI k (a 52) 24 rb3), ((a 47), .inr (3, (fX3 (a 48) (a 49) rf__24 (nI rc__24) (nI rr__24)))), (aI k (a 48) 24 rs__24), (aI k (a 49) 24 rb__24), ((a 1), .inr (6, (fX6 (a 2) (nI tz) (nI ta__24) na__24 fn__24 fb__24))), (aB k (a 2) 240 fx)] H := hP
        replace hD : va_D A [((a 0), .inr (7, (fX7 (a 1) (a 3) (a 19) (a 35) (a 40) 2 lfa (a 53) (a 56) (a 63) (a 64) (a 68)))), ((a 40), .inl (k 5, 4, .inr (.inr (.inr (.inr (a4 (a 41) (a 44) (a 47) (a 50))))))), ((a 41), .inr (3, (fX3 (a 42) (a 43) rf0 (nI rc0) (nI rr0)))), (aI k (a 42) 24 rs0), (aI k (a 43) 24 rb0), ((a 44), .inr (3, (fX3 (a 45) (a 46) rf1 (nI rc1) (nI rr1)))), (aI k (a 45) 24 rs1), (aI k (a 46) 24 rb1), ((a 50), .inr (3, (fX3 (a 51) (a 52) rf3 (nI rc3) (nI rr3)))), (aI k (a 51) 24 rs3), (aI k (a 52) 24 rb3), ((a 47), .inr (3, (fX3 (a 48) (a 49) rf__24 (nI rc__24) (nI rr__24)))), (aI k (a 48) 24 rs__24), (aI k (a 49) 24 rb__24), ((a 1), .inr (6, (fX6 (a 2) (nI tz) (nI ta__24) na__24 fn__24 fb__24))), (aB k (a 2) 240 fx)] := hD
        try dsimp only at hw_24
        rcases hw_24 with ⟨⟨rfl, hrf_25, hrc_25⟩ | ⟨e_25, pl_25, rfl, he1_25, he2_25, hp1_25, hp2_25, rfl⟩, hw_24⟩
        · refine lv_aload_n hx hb dX7_rule_51 rfl (lv_at hl 0 rfl) ?_
          refine rw_i (D := D) (wr := [((a 40), .inl (k 5, 4, .inr (.inr (.inr (.inr (a4 (a 41) (a 44) (a 47) (a 50))))))), ((a 41), .inr (3, (fX3 (a 42) (a 43) rf0 (nI rc0) (nI rr0)))), (aI k (a 42) 24 rs0), (aI k (a 43) 24 rb0), ((a 44), .inr (3, (fX3 (a 45) (a 46) rf1 (nI rc1) (nI rr1)))), (aI k (a 45) 24 rs1), (aI k (a 46) 24 rb1), ((a 50), .inr (3, (fX3 (a 51) (a 52) rf3 (nI rc3) (nI rr3)))), (aI k (a 51) 24 rs3), (aI k (a 52) 24 rb3), ((a 47), .inr (3, (fX3 (a 48) (a 49) rf__24 (nI rc__24) (nI rr__24)))), (aI k (a 48) 24 rs__24), (aI k (a 49) 24 rb__24), (aB k (a 2) 240 fx)]) (va_runV (As := []) (rest := []) ⟨hx, hb, hml, hown, hts⟩ ((y_closeText l D k st lo a 2 lfa tz (nI ta__24) na__24 0 fb__24) H.size) (cwV 0 hts (gV tw_496 tw_498 tw_2 tw_79 tw_499) rfl rfl rfl (by decide +kernel) ⟨Nat.le_of_ble_eq_true rfl, Nat.le_of_ble_eq_true rfl⟩) (pV hS hAlo hlo hP hK (va_Dlo hD hAlo) hZ [0, 14] (by decide) rfl (ci := 7) (q := (RX7, TX7, 12)) (q0 := 0) rfl rfl) rfl rfl hl.1 rfl (lv_room (Nat.le_of_ble_eq_true rfl)) dX7_rule_52 ⟨Nat.le_of_ble_eq_true rfl, Nat.le_of_ble_eq_true rfl⟩) hS hA hP hD [0, 14] [1, 2, 3, 4, 5, 6, 7, 8, 9, 10, 11, 12, 13, 15] rfl rfl (by decide +kernel) (by decide +kernel) (fun r_26 u H locs hw_26 hP hD hS => ?_)
          obtain ⟨lfa__26, tz__26⟩ := u
          replace hP : va_P D classes [((a 40), .inl (k 5, 4, .inr (.inr (.inr (.inr (a4 (a 41) (a 44) (a 47) (a 50))))))), ((a 41), .inr (3, (fX3 (a 42) (a 43) rf0 (nI rc0) (nI rr0)))), (aI k (a 42) 24 rs0), (aI k (a 43) 24 rb0), ((a 44), .inr (3, (fX3 (a 45) (a 46) rf1 (nI rc1) (nI rr1)))), (aI k (a 45) 24 rs1), (aI k (a 46) 24 rb1), ((a 50), .inr (3, (fX3 (a 51) (a 52) rf3 (nI rc3) (nI rr3)))), (aI k (a 51) 24 rs3), (aI k (a 52) 24 rb3), ((a 47), .inr (3, (fX3 (a 48) (a 49) rf__24 (nI rc__24) (nI rr__24)))), (aI k (a 48) 24 rs__24), (aI k (a 49) 24 rb__24), (aB k (a 2) 240 fx), ((a 0), .inr (7, (fX7 (a 1) (a 3) (a 19) (a 35) (a 40) 2 lfa__26 (a 53) (a 56) (a 63) (a 64) (a 68)))), ((a 1), .inr (6, (fX6 (a 2) (nI tz__26) (nI ta__24) na__24 0 fb__24)))] H := hP
          replace hD : va_D A [((a 40), .inl (k 5, 4, .inr (.inr (.inr (.inr (a4 (a 41) (a 44) (a 47) (a 50))))))), ((a 41), .inr (3, (fX3 (a 42) (a 43) rf0 (nI rc0) (nI rr0)))), (aI k (a 42) 24 rs0), (aI k (a 43) 24 rb0), ((a 44), .inr (3, (fX3 (a 45) (a 46) rf1 (nI rc1) (nI rr1)))), (aI k (a 45) 24 rs1), (aI k (a 46) 24 rb1), ((a 50), .inr (3, (fX3 (a 51) (a 52) rf3 (nI rc3) (nI rr3)))), (aI k (a 51) 24 rs3), (aI k (a 52) 24 rb3), ((a 47), .inr (3, (fX3 (a 48) (a 49) rf__24 (nI rc__24) (nI rr__24)))), (aI k (a 48) 24 rs__24), (aI k (a 49) 24 rb__24), (aB k (a 2) 240 fx), ((a 0), .inr (7, (fX7 (a 1) (a 3) (a 19) (a 35) (a 40) 2 lfa__26 (a 53) (a 56) (a 63) (a 64) (a 68)))), ((a 1), .inr (6, (fX6 (a 2) (nI tz__26) (nI ta__24) na__24 0 fb__24)))] := hD
          try dsimp only at hw_26
          have hcl_27 := hw_26.2.1 rfl
          obtain ⟨hs0_28, hs1_28, hs2_28⟩ := (⟨hw_26.1, hcl_27.1, hcl_27.2⟩ : _ ∧ _ ∧ _)
          replace hs0_28 := hs0_28.symm
          subst hs0_28
          replace hs1_28 := hs1_28.symm
          subst hs1_28
          replace hs2_28 := hs2_28.symm
          subst hs2_28
          refine lv_istore_n (lv' := [(1, .int 0), (0, .ref (a 0))]) hx hb dX7_rule_55 rfl hl (by decide) rfl (fun ls hl => ?_)
          refine lv_iload_n hx hb dX7_rule_56 rfl (lv_at hl 0 rfl) ?_
          refine lv_if_ge (tgt := 62) hx hb dX7_rule_57 (by decide) (fun _ => ?_) (fun h => absurd (by decide) h)
          refine lv_aload_n hx hb dX7_rule_62 rfl (lv_at hl 1 rfl) ?_
          refine lv_dup hx hb dX7_rule_63 rfl ?_
          refine va_get (D := D) (ci := 7) (v := .int 2) (C := RX7) (T := TX7) (N := 12) hx hb hts inX7 hown hK hP 14 rfl rfl 5 (by decide) (hts _ tw_310) (fun _ h9 => h9) rfl dX7_rule_64 ?_
          refine lv_iconst (v := 1) hx hb dX7_rule_67 (by decide) ?_
          refine lv_iadd hx hb dX7_rule_68 ?_
          refine lv_ti (y := 3) (by decide) ?_
          refine va_put (D := D) (ci := 7) (v := .int 3) (ty := .int) (C := RX7) (T := TX7) (N := 12) hx hb hts inX7 tyX7 tyX7_ok nmX7 hown hK hP hD hS 14 rfl rfl 5 (by decide) (hts _ tw_310) (fun _ h9 => h9) rfl (by decide +kernel) rfl rfl (Nat.le_of_ble_eq_true rfl) dX7_rule_69 (fun H locs hP hD hS => ?_)
          replace hP : va_P D classes [((a 40), .inl (k 5, 4, .inr (.inr (.inr (.inr (a4 (a 41) (a 44) (a 47) (a 50))))))), ((a 41), .inr (3, (fX3 (a 42) (a 43) rf0 (nI rc0) (nI rr0)))), (aI k (a 42) 24 rs0), (aI k (a 43) 24 rb0), ((a 44), .inr (3, (fX3 (a 45) (a 46) rf1 (nI rc1) (nI rr1)))), (aI k (a 45) 24 rs1), (aI k (a 46) 24 rb1), ((a 50), .inr (3, (fX3 (a 51) (a 52) rf3 (nI rc3) (nI rr3)))), (aI k (a 51) 24 rs3), (aI k (a 52) 24 rb3), ((a 47), .inr (3, (fX3 (a 48) (a 49) rf__24 (nI rc__24) (nI rr__24)))), (aI k (a 48) 24 rs__24), (aI k (a 49) 24 rb__24), (aB k (a 2) 240 fx), ((a 0), .inr (7, (fX7 (a 1) (a 3) (a 19) (a 35) (a 40) 3 (-1) (a 53) (a 56) (a 63) (a 64) (a 68)))), ((a 1), .inr (6, (fX6 (a 2) 0 (nI ta__24) na__24 0 fb__24)))] H := hP
          replace hD : va_D A [((a 40), .inl (k 5, 4, .inr (.inr (.inr (.inr (a4 (a 41) (a 44) (a 47) (a 50))))))), ((a 41), .inr (3, (fX3 (a 42) (a 43) rf0 (nI rc0) (nI rr0)))), (aI k (a 42) 24 rs0), (aI k (a 43) 24 rb0), ((a 44), .inr (3, (fX3 (a 45) (a 46) rf1 (nI rc1) (nI rr1)))), (aI k (a 45) 24 rs1), (aI k (a 46) 24 rb1), ((a 50), .inr (3, (fX3 (a 51) (a 52) rf3 (nI rc3) (nI rr3)))), (aI k (a 51) 24 rs3), (aI k (a 52) 24 rb3), ((a 47), .inr (3, (fX3 (a 48) (a 49) rf__24 (nI rc__24) (nI rr__24)))), (aI k (a 48) 24 rs__24), (aI k (a 49) 24 rb__24), (aB k (a 2) 240 fx), ((a 0), .inr (7, (fX7 (a 1) (a 3) (a 19) (a 35) (a 40) 3 (-1) (a 53) (a 56) (a 63) (a 64) (a 68)))), ((a 1), .inr (6, (fX6 (a 2) 0 (nI ta__24) na__24 0 fb__24)))] := hD
          refine lv_aload_n hx hb dX7_rule_72 rfl (lv_at hl 1 rfl) ?_
          refine va_get (D := D) (ci := 7) (v := .int 3) (C := RX7) (T := TX7) (N := 12) hx hb hts inX7 hown hK hP 14 rfl rfl 5 (by decide) (hts _ tw_310) (fun _ h9 => h9) rfl dX7_rule_73 ?_
          refine lv_iconst (v := 1) hx hb dX7_rule_76 (by decide) ?_
          refine lv_isub hx hb dX7_rule_77 ?_
          refine lv_ti (y := 2) (by decide) ?_
          have hP9 := hP.sub (ws' := [((a 0), .inr (7, (fX7 (a 1) (a 3) (a 19) (a 35) (a 40) 3 (-1) (a 53) (a 56) (a 63) (a 64) (a 68)))), ((a 1), .inr (6, (fX6 (a 2) 0 (nI ta__24) na__24 0 fb__24))), (aB k (a 2) 240 fx), ((a 40), .inl (k 5, 4, .inr (.inr (.inr (.inr (a4 (a 41) (a 44) (a 47) (a 50))))))), ((a 41), .inr (3, (fX3 (a 42) (a 43) rf0 (nI rc0) (nI rr0)))), (aI k (a 42) 24 rs0), (aI k (a 43) 24 rb0), ((a 44), .inr (3, (fX3 (a 45) (a 46) rf1 (nI rc1) (nI rr1)))), (aI k (a 45) 24 rs1), (aI k (a 46) 24 rb1), ((a 47), .inr (3, (fX3 (a 48) (a 49) rf__24 (nI rc__24) (nI rr__24)))), (aI k (a 48) 24 rs__24), (aI k (a 49) 24 rb__24), ((a 50), .inr (3, (fX3 (a 51) (a 52) rf3 (nI rc3) (nI rr3)))), (aI k (a 51) 24 rs3), (aI k (a 52) 24 rb3)]) [14, 15, 13, 0, 1, 2, 3, 4, 5, 6, 10, 11, 12, 7, 8, 9] rfl
          have hD9 := hD.sub (ws' := [((a 0), .inr (7, (fX7 (a 1) (a 3) (a 19) (a 35) (a 40) 3 (-1) (a 53) (a 56) (a 63) (a 64) (a 68)))), ((a 1), .inr (6, (fX6 (a 2) 0 (nI ta__24) na__24 0 fb__24))), (aB k (a 2) 240 fx), ((a 40), .inl (k 5, 4, .inr (.inr (.inr (.inr (a4 (a 41) (a 44) (a 47) (a 50))))))), ((a 41), .inr (3, (fX3 (a 42) (a 43) rf0 (nI rc0) (nI rr0)))), (aI k (a 42) 24 rs0), (aI k (a 43) 24 rb0), ((a 44), .inr (3, (fX3 (a 45) (a 46) rf1 (nI rc1) (nI rr1)))), (aI k (a 45) 24 rs1), (aI k (a 46) 24 rb1), ((a 47), .inr (3, (fX3 (a 48) (a 49) rf__24 (nI rc__24) (nI rr__24)))), (aI k (a 48) 24 rs__24), (aI k (a 49) 24 rb__24), ((a 50), .inr (3, (fX3 (a 51) (a 52) rf3 (nI rc3) (nI rr3)))), (aI k (a 51) 24 rs3), (aI k (a 52) 24 rb3)]) [14, 15, 13, 0, 1, 2, 3, 4, 5, 6, 10, 11, 12, 7, 8, 9] (by decide +kernel) rfl
          exact W.iret (v := 2) hx hb hr (fun t ht hW => ⟨⟨2, (3, (-1), 0, (nI ta__24), na__24, 0, fb__24, rf0, rc0, rr0, rs0, rb0, rf1, rc1, rr1, rs1, rb1, rf__24, rc__24, rr__24, rs__24, rb__24, rf3, rc3, rr3, rs3, rb3), rfl, ⟨⟨fun h => absurd h (by omega), fun _ h => absurd h (by omega), fun _ _ => ⟨rfl, (fun q hq => by rcases (show q = 0 ∨ q = 1 by omega) with rfl | rfl <;> rfl), .inr ⟨hrf_25, rfl, rfl, rfl⟩⟩⟩, by omega, by omega, by omega, by omega, by omega, by omega, by omega, by omega, by omega, by omega⟩, by rw [ht]; exact hP9, hD9⟩, hS.F ht⟩) hS.2.2 dX7_rule_78
        · refine lv_aload_n hx hb dX7_rule_51 rfl (lv_at hl 0 rfl) ?_
          refine rw_i (D := D) (wr := [((a 40), .inl (k 5, 4, .inr (.inr (.inr (.inr (a4 (a 41) (a 44) (a 47) (a 50))))))), ((a 41), .inr (3, (fX3 (a 42) (a 43) rf0 (nI rc0) (nI rr0)))), (aI k (a 42) 24 rs0), (aI k (a 43) 24 rb0), ((a 44), .inr (3, (fX3 (a 45) (a 46) rf1 (nI rc1) (nI rr1)))), (aI k (a 45) 24 rs1), (aI k (a 46) 24 rb1), ((a 50), .inr (3, (fX3 (a 51) (a 52) rf3 (nI rc3) (nI rr3)))), (aI k (a 51) 24 rs3), (aI k (a 52) 24 rb3), ((a 47), .inr (3, (fX3 (a 48) (a 49) rf__24 (nI rc__24) (nI rr__24)))), (aI k (a 48) 24 rs__24), (aI k (a 49) 24 rb__24), (aB k (a 2) 240 fx)]) (va_runV (As := []) (rest := []) ⟨hx, hb, hml, hown, hts⟩ ((y_closeText l D k st lo a 2 lfa tz (nI ta__24) na__24 (nI e_25) (nI pl_25)) H.size) (cwV 0 hts (gV tw_496 tw_498 tw_2 tw_79 tw_499) rfl rfl rfl (by decide +kernel) ⟨Nat.le_of_ble_eq_true rfl, Nat.le_of_ble_eq_true rfl⟩) (pV hS hAlo hlo hP hK (va_Dlo hD hAlo) hZ [0, 14] (by decide) rfl (ci := 7) (q := (RX7, TX7, 12)) (q0 := 0) rfl rfl) rfl rfl hl.1 rfl (lv_room (Nat.le_of_ble_eq_true rfl)) dX7_rule_52 ⟨Nat.le_of_ble_eq_true rfl, Nat.le_of_ble_eq_true rfl⟩) hS hA hP hD [0, 14] [1, 2, 3, 4, 5, 6, 7, 8, 9, 10, 11, 12, 13, 15] rfl rfl (by decide +kernel) (by decide +kernel) (fun r_29 u H locs hw_29 hP hD hS => ?_)
          obtain ⟨lfa__29, tz__29⟩ := u
          replace hP : va_P D classes [((a 40), .inl (k 5, 4, .inr (.inr (.inr (.inr (a4 (a 41) (a 44) (a 47) (a 50))))))), ((a 41), .inr (3, (fX3 (a 42) (a 43) rf0 (nI rc0) (nI rr0)))), (aI k (a 42) 24 rs0), (aI k (a 43) 24 rb0), ((a 44), .inr (3, (fX3 (a 45) (a 46) rf1 (nI rc1) (nI rr1)))), (aI k (a 45) 24 rs1), (aI k (a 46) 24 rb1), ((a 50), .inr (3, (fX3 (a 51) (a 52) rf3 (nI rc3) (nI rr3)))), (aI k (a 51) 24 rs3), (aI k (a 52) 24 rb3), ((a 47), .inr (3, (fX3 (a 48) (a 49) rf__24 (nI rc__24) (nI rr__24)))), (aI k (a 48) 24 rs__24), (aI k (a 49) 24 rb__24), (aB k (a 2) 240 fx), ((a 0), .inr (7, (fX7 (a 1) (a 3) (a 19) (a 35) (a 40) 2 lfa__29 (a 53) (a 56) (a 63) (a 64) (a 68)))), ((a 1), .inr (6, (fX6 (a 2) (nI tz__29) (nI ta__24) na__24 (nI e_25) (nI pl_25))))] H := hP
          replace hD : va_D A [((a 40), .inl (k 5, 4, .inr (.inr (.inr (.inr (a4 (a 41) (a 44) (a 47) (a 50))))))), ((a 41), .inr (3, (fX3 (a 42) (a 43) rf0 (nI rc0) (nI rr0)))), (aI k (a 42) 24 rs0), (aI k (a 43) 24 rb0), ((a 44), .inr (3, (fX3 (a 45) (a 46) rf1 (nI rc1) (nI rr1)))), (aI k (a 45) 24 rs1), (aI k (a 46) 24 rb1), ((a 50), .inr (3, (fX3 (a 51) (a 52) rf3 (nI rc3) (nI rr3)))), (aI k (a 51) 24 rs3), (aI k (a 52) 24 rb3), ((a 47), .inr (3, (fX3 (a 48) (a 49) rf__24 (nI rc__24) (nI rr__24)))), (aI k (a 48) 24 rs__24), (aI k (a 49) 24 rb__24), (aB k (a 2) 240 fx), ((a 0), .inr (7, (fX7 (a 1) (a 3) (a 19) (a 35) (a 40) 2 lfa__29 (a 53) (a 56) (a 63) (a 64) (a 68)))), ((a 1), .inr (6, (fX6 (a 2) (nI tz__29) (nI ta__24) na__24 (nI e_25) (nI pl_25))))] := hD
          try dsimp only at hw_29
          have hcl_30 := hw_29.2.2 (nI_ne0 (show 0 < e_25 by omega) (by omega))
          obtain ⟨hs0_31, hs1_31⟩ := (⟨hw_29.1, hcl_30.2⟩ : _ ∧ _)
          replace hs0_31 := hs0_31.symm
          subst hs0_31
          replace hs1_31 := hs1_31.symm
          subst hs1_31
          refine lv_istore_n (lv' := [(1, .int r_29), (0, .ref (a 0))]) hx hb dX7_rule_55 rfl hl (by decide) rfl (fun ls hl => ?_)
          refine lv_iload_n hx hb dX7_rule_56 rfl (lv_at hl 0 rfl) ?_
          refine lv_if_ge (tgt := 62) hx hb dX7_rule_57 (by decide) (fun c_32 => absurd c_32 (by rw [hcl_30.1]; exact neg10 he1_25 he2_25)) (fun c_32 => ?_)
          refine lv_iload_n hx hb dX7_rule_60 rfl (lv_at hl 0 rfl) ?_
          have hP9 := hP.sub (ws' := [((a 0), .inr (7, (fX7 (a 1) (a 3) (a 19) (a 35) (a 40) 2 (nI pl_25) (a 53) (a 56) (a 63) (a 64) (a 68)))), ((a 1), .inr (6, (fX6 (a 2) 0 (nI ta__24) na__24 (nI e_25) (nI pl_25)))), (aB k (a 2) 240 fx), ((a 40), .inl (k 5, 4, .inr (.inr (.inr (.inr (a4 (a 41) (a 44) (a 47) (a 50))))))), ((a 41), .inr (3, (fX3 (a 42) (a 43) rf0 (nI rc0) (nI rr0)))), (aI k (a 42) 24 rs0), (aI k (a 43) 24 rb0), ((a 44), .inr (3, (fX3 (a 45) (a 46) rf1 (nI rc1) (nI rr1)))), (aI k (a 45) 24 rs1), (aI k (a 46) 24 rb1), ((a 47), .inr (3, (fX3 (a 48) (a 49) rf__24 (nI rc__24) (nI rr__24)))), (aI k (a 48) 24 rs__24), (aI k (a 49) 24 rb__24), ((a 50), .inr (3, (fX3 (a 51) (a 52) rf3 (nI rc3) (nI rr3)))), (aI k (a 51) 24 rs3), (aI k (a 52) 24 rb3)]) [14, 15, 13, 0, 1, 2, 3, 4, 5, 6, 10, 11, 12, 7, 8, 9] rfl
          have hD9 := hD.sub (ws' := [((a 0), .inr (7, (fX7 (a 1) (a 3) (a 19) (a 35) (a 40) 2 (nI pl_25) (a 53) (a 56) (a 63) (a 64) (a 68)))), ((a 1), .inr (6, (fX6 (a 2) 0 (nI ta__24) na__24 (nI e_25) (nI pl_25)))), (aB k (a 2) 240 fx), ((a 40), .inl (k 5, 4, .inr (.inr (.inr (.inr (a4 (a 41) (a 44) (a 47) (a 50))))))), ((a 41), .inr (3, (fX3 (a 42) (a 43) rf0 (nI rc0) (nI rr0)))), (aI k (a 42) 24 rs0), (aI k (a 43) 24 rb0), ((a 44), .inr (3, (fX3 (a 45) (a 46) rf1 (nI rc1) (nI rr1)))), (aI k (a 45) 24 rs1), (aI k (a 46) 24 rb1), ((a 47), .inr (3, (fX3 (a 48) (a 49) rf__24 (nI rc__24) (nI rr__24)))), (aI k (a 48) 24 rs__24), (aI k (a 49) 24 rb__24), ((a 50), .inr (3, (fX3 (a 51) (a 52) rf3 (nI rc3) (nI rr3)))), (aI k (a 51) 24 rs3), (aI k (a 52) 24 rb3)]) [14, 15, 13, 0, 1, 2, 3, 4, 5, 6, 10, 11, 12, 7, 8, 9] (by decide +kernel) rfl
          exact W.iret (v := r_29) hx hb hr (fun t ht hW => ⟨⟨r_29, (2, (nI pl_25), 0, (nI ta__24), na__24, (nI e_25), (nI pl_25), rf0, rc0, rr0, rs0, rb0, rf1, rc1, rr1, rs1, rb1, rf__24, rc__24, rr__24, rs__24, rb__24, rf3, rc3, rr3, rs3, rb3), rfl, ⟨⟨fun h => absurd h (by omega), fun _ h => absurd h (by omega), fun _ _ => ⟨rfl, (fun q hq => by rcases (show q = 0 ∨ q = 1 by omega) with rfl | rfl <;> rfl), .inl ⟨e_25, pl_25, he1_25, he2_25, hp1_25, hp2_25, hcl_30.1, rfl, rfl⟩⟩⟩, by omega, by omega, by omega, by omega, by omega, by omega, by omega, by omega, by omega, by omega⟩, by rw [ht]; exact hP9, hD9⟩, hS.F ht⟩) hS.2.2 dX7_rule_61
      · refine lv_aload_n hx hb dX7_rule_28 rfl (lv_at hl 0 rfl) ?_
        refine va_get (D := D) (ci := 7) (v := .ref (a 1)) (C := RX7) (T := TX7) (N := 12) hx hb hts inX7 hown hK hP 0 rfl rfl 0 (by decide) (hts _ tw_305) (fun _ h9 => h9) rfl dX7_rule_29 ?_
        refine rw_v (D := D) (wr := [((a 0), .inr (7, (fX7 (a 1) (a 3) (a 19) (a 35) (a 40) 3 lfa (a 53) (a 56) (a 63) (a 64) (a 68)))), ((a 40), .inl (k 5, 4, .inr (.inr (.inr (.inr (a4 (a 41) (a 44) (a 47) (a 50))))))), ((a 41), .inr (3, (fX3 (a 42) (a 43) rf0 (nI rc0) (nI rr0)))), (aI k (a 42) 24 rs0), (aI k (a 43) 24 rb0), ((a 44), .inr (3, (fX3 (a 45) (a 46) rf1 (nI rc1) (nI rr1)))), (aI k (a 45) 24 rs1), (aI k (a 46) 24 rb1), ((a 47), .inr (3, (fX3 (a 48) (a 49) rf2 (nI rc2) (nI rr2)))), (aI k (a 48) 24 rs2), (aI k (a 49) 24 rb2), ((a 50), .inr (3, (fX3 (a 51) (a 52) rf3 (nI rc3) (nI rr3)))), (aI k (a 51) 24 rs3), (aI k (a 52) 24 rb3)]) (va_runV (As := []) (rest := []) ⟨hx, hb, hml, hown, hts⟩ ((x_rewind l D k st lo (a 1) (a 2) tz ta na fn fb fx) s.heap.size) (cwV 0 hts (gV tw_354 tw_355 tw_356 tw_80 tw_357) rfl rfl rfl (by decide +kernel) ⟨Nat.le_of_ble_eq_true rfl, Nat.le_of_ble_eq_true rfl⟩) (pV hS hAlo hlo hP hK (va_Dlo hD hAlo) hZ [1, 2] (by decide) rfl (ci := 6) (q := (RX6, TX6, 6)) (q0 := 0) rfl rfl) rfl rfl hl.1 rfl (lv_room (Nat.le_of_ble_eq_true rfl)) dX7_rule_32 ⟨Nat.le_of_ble_eq_true rfl, Nat.le_of_ble_eq_true rfl⟩) hS hA hP hD [1, 2] [0, 3, 4, 5, 6, 7, 8, 9, 10, 11, 12, 13, 14, 15] rfl rfl (by decide +kernel) (by decide +kernel) (fun u H locs hw_33 hP hD hS => ?_)
        obtain ⟨ta__33, na__33, fn__33, fb__33⟩ := u
        replace hP : va_P D classes [((a 0), .inr (7, (fX7 (a 1) (a 3) (a 19) (a 35) (a 40) 3 lfa (a 53) (a 56) (a 63) (a 64) (a 68)))), ((a 40), .inl (k 5, 4, .inr (.inr (.inr (.inr (a4 (a 41) (a 44) (a 47) (a 50))))))), ((a 41), .inr (3, (fX3 (a 42) (a 43) rf0 (nI rc0) (nI rr0)))), (aI k (a 42) 24 rs0), (aI k (a 43) 24 rb0), ((a 44), .inr (3, (fX3 (a 45) (a 46) rf1 (nI rc1) (nI rr1)))), (aI k (a 45) 24 rs1), (aI k (a 46) 24 rb1), ((a 47), .inr (3, (fX3 (a 48) (a 49) rf2 (nI rc2) (nI rr2)))), (aI k (a 48) 24 rs2), (aI k (a 49) 24 rb2), ((a 50), .inr (3, (fX3 (a 51) (a 52) rf3 (nI rc3) (nI rr3)))), (aI k (a 51) 24 rs3), (aI k (a 52) 24 rb3), ((a 1), .inr (6, (fX6 (a 2) (nI tz) ta__33 na__33 fn__33 fb__33))), (aB k (a 2) 240 fx)] H := hP
        replace hD : va_D A [((a 0), .inr (7, (fX7 (a 1) (a 3) (a 19) (a 35) (a 40) 3 lfa (a 53) (a 56) (a 63) (a 64) (a 68)))), ((a 40), .inl (k 5, 4, .inr (.inr (.inr (.inr (a4 (a 41) (a 44) (a 47) (a 50))))))), ((a 41), .inr (3, (fX3 (a 42) (a 43) rf0 (nI rc0) (nI rr0)))), (aI k (a 42) 24 rs0), (aI k (a 43) 24 rb0), ((a 44), .inr (3, (fX3 (a 45) (a 46) rf1 (nI rc1) (nI rr1)))), (aI k (a 45) 24 rs1), (aI k (a 46) 24 rb1), ((a 47), .inr (3, (fX3 (a 48) (a 49) rf2 (nI rc2) (nI rr2)))), (aI k (a 48) 24 rs2), (aI k (a 49) 24 rb2), ((a 50), .inr (3, (fX3 (a 51) (a 52) rf3 (nI rc3) (nI rr3)))), (aI k (a 51) 24 rs3), (aI k (a 52) 24 rb3), ((a 1), .inr (6, (fX6 (a 2) (nI tz) ta__33 na__33 fn__33 fb__33))), (aB k (a 2) 240 fx)] := hD
        try dsimp only at hw_33
        obtain ⟨rfl, rfl⟩ := hw_33
        refine lv_aload_n hx hb dX7_rule_35 rfl (lv_at hl 0 rfl) ?_
        refine va_get (D := D) (ci := 7) (v := .ref (a 40)) (C := RX7) (T := TX7) (N := 12) hx hb hts inX7 hown hK hP 0 rfl rfl 4 (by decide) (hts _ tw_309) (fun _ h9 => h9) rfl dX7_rule_36 ?_
        refine lv_aload_n hx hb dX7_rule_39 rfl (lv_at hl 0 rfl) ?_
        refine va_get (D := D) (ci := 7) (v := .int 3) (C := RX7) (T := TX7) (N := 12) hx hb hts inX7 hown hK hP 0 rfl rfl 5 (by decide) (hts _ tw_310) (fun _ h9 => h9) rfl dX7_rule_40 ?_
        refine va_aldq hx hb hK hP 1 5 rfl rfl (by unfold vp_in; decide) dX7_rule_43 ?_
        refine lv_tr (y := .ref (a 50)) rfl ?_
        refine lv_aload_n hx hb dX7_rule_44 rfl (lv_at hl 0 rfl) ?_
        refine va_get (D := D) (ci := 7) (v := .ref (a 1)) (C := RX7) (T := TX7) (N := 12) hx hb hts inX7 hown hK hP 0 rfl rfl 0 (by decide) (hts _ tw_305) (fun _ h9 => h9) rfl dX7_rule_45 ?_
        refine rw_v (D := D) (wr := [((a 0), .inr (7, (fX7 (a 1) (a 3) (a 19) (a 35) (a 40) 3 lfa (a 53) (a 56) (a 63) (a 64) (a 68)))), ((a 40), .inl (k 5, 4, .inr (.inr (.inr (.inr (a4 (a 41) (a 44) (a 47) (a 50))))))), ((a 41), .inr (3, (fX3 (a 42) (a 43) rf0 (nI rc0) (nI rr0)))), (aI k (a 42) 24 rs0), (aI k (a 43) 24 rb0), ((a 44), .inr (3, (fX3 (a 45) (a 46) rf1 (nI rc1) (nI rr1)))), (aI k (a 45) 24 rs1), (aI k (a 46) 24 rb1), ((a 47), .inr (3, (fX3 (a 48) (a 49) rf2 (nI rc2) (nI rr2)))), (aI k (a 48) 24 rs2), (aI k (a 49) 24 rb2)]) (va_runV (As := [.ref (a 1)]) (rest := []) ⟨hx, hb, hml, hown, hts⟩ ((y_Rule_readFrom l D k st lo (a 50) (a 51) (a 52) rf3 rc3 rr3 rs3 rb3 (a 1) (a 2) tz 0 na__33 0 fb__33 fx (by first | assumption | omega) (by first | assumption | omega) (by first | assumption | omega) rfl) H.size) (cwV 1 hts (gV tw_675 tw_676 tw_677 tw_86 tw_678) rfl rfl rfl (by decide +kernel) ⟨Nat.le_of_ble_eq_true rfl, Nat.le_of_ble_eq_true rfl⟩) (pV hS hAlo hlo hP hK (va_Dlo hD hAlo) hZ [11, 12, 13, 14, 15] (by decide) rfl (ci := 3) (q := (RX3, TX3, 5)) (q0 := 0) rfl rfl) rfl rfl hl.1 rfl (lv_room (Nat.le_of_ble_eq_true rfl)) dX7_rule_48 ⟨Nat.le_of_ble_eq_true rfl, Nat.le_of_ble_eq_true rfl⟩) hS hA hP hD [11, 12, 13, 14, 15] [0, 1, 2, 3, 4, 5, 6, 7, 8, 9, 10] rfl rfl (by decide +kernel) (by decide +kernel) (fun u H locs hw_34 hP hD hS => ?_)
        obtain ⟨rf__34, rc__34, rr__34, rs__34, rb__34, ta__34, na__34, fn__34, fb__34⟩ := u
        replace hP : va_P D classes [((a 0), .inr (7, (fX7 (a 1) (a 3) (a 19) (a 35) (a 40) 3 lfa (a 53) (a 56) (a 63) (a 64) (a 68)))), ((a 40), .inl (k 5, 4, .inr (.inr (.inr (.inr (a4 (a 41) (a 44) (a 47) (a 50))))))), ((a 41), .inr (3, (fX3 (a 42) (a 43) rf0 (nI rc0) (nI rr0)))), (aI k (a 42) 24 rs0), (aI k (a 43) 24 rb0), ((a 44), .inr (3, (fX3 (a 45) (a 46) rf1 (nI rc1) (nI rr1)))), (aI k (a 45) 24 rs1), (aI k (a 46) 24 rb1), ((a 47), .inr (3, (fX3 (a 48) (a 49) rf2 (nI rc2) (nI rr2)))), (aI k (a 48) 24 rs2), (aI k (a 49) 24 rb2), ((a 50), .inr (3, (fX3 (a 51) (a 52) rf__34 (nI rc__34) (nI rr__34)))), (aI k (a 51) 24 rs__34), (aI k (a 52) 24 rb__34), ((a 1), .inr (6, (fX6 (a 2) (nI tz) (nI ta__34) na__34 fn__34 fb__34))), (aB k (a 2) 240 fx)] H := hP
        replace hD : va_D A [((a 0), .inr (7, (fX7 (a 1) (a 3) (a 19) (a 35) (a 40) 3 lfa (a 53) (a 56) (a 63) (a 64) (a 68)))), ((a 40), .inl (k 5, 4, .inr (.inr (.inr (.inr (a4 (a 41) (a 44) (a 47) (a 50))))))), ((a 41), .inr (3, (fX3 (a 42) (a 43) rf0 (nI rc0) (nI rr0)))), (aI k (a 42) 24 rs0), (aI k (a 43) 24 rb0), ((a 44), .inr (3, (fX3 (a 45) (a 46) rf1 (nI rc1) (nI rr1)))), (aI k (a 45) 24 rs1), (aI k (a 46) 24 rb1), ((a 47), .inr (3, (fX3 (a 48) (a 49) rf2 (nI rc2) (nI rr2)))), (aI k (a 48) 24 rs2), (aI k (a 49) 24 rb2), ((a 50), .inr (3, (fX3 (a 51) (a 52) rf__34 (nI rc__34) (nI rr__34)))), (aI k (a 51) 24 rs__34), (aI k (a 52) 24 rb__34), ((a 1), .inr (6, (fX6 (a 2) (nI tz) (nI ta__34) na__34 fn__34 fb__34))), (aB k (a 2) 240 fx)] := hD
        try dsimp only at hw_34
        rcases hw_34 with ⟨⟨rfl, hrf_35, hrc_35⟩ | ⟨e_35, pl_35, rfl, he1_35, he2_35, hp1_35, hp2_35, rfl⟩, hw_34⟩
        · refine lv_aload_n hx hb dX7_rule_51 rfl (lv_at hl 0 rfl) ?_
          refine rw_i (D := D) (wr := [((a 40), .inl (k 5, 4, .inr (.inr (.inr (.inr (a4 (a 41) (a 44) (a 47) (a 50))))))), ((a 41), .inr (3, (fX3 (a 42) (a 43) rf0 (nI rc0) (nI rr0)))), (aI k (a 42) 24 rs0), (aI k (a 43) 24 rb0), ((a 44), .inr (3, (fX3 (a 45) (a 46) rf1 (nI rc1) (nI rr1)))), (aI k (a 45) 24 rs1), (aI k (a 46) 24 rb1), ((a 47), .inr (3, (fX3 (a 48) (a 49) rf2 (nI rc2) (nI rr2)))), (aI k (a 48) 24 rs2), (aI k (a 49) 24 rb2), ((a 50), .inr (3, (fX3 (a 51) (a 52) rf__34 (nI rc__34) (nI rr__34)))), (aI k (a 51) 24 rs__34), (aI k (a 52) 24 rb__34), (aB k (a 2) 240 fx)]) (va_runV (As := []) (rest := []) ⟨hx, hb, hml, hown, hts⟩ ((y_closeText l D k st lo a 3 lfa tz (nI ta__34) na__34 0 fb__34) H.size) (cwV 0 hts (gV tw_496 tw_498 tw_2 tw_79 tw_499) rfl rfl rfl (by decide +kernel) ⟨Nat.le_of_ble_eq_true rfl, Nat.le_of_ble_eq_true rfl⟩) (pV hS hAlo hlo hP hK (va_Dlo hD hAlo) hZ [0, 14] (by decide) rfl (ci := 7) (q := (RX7, TX7, 12)) (q0 := 0) rfl rfl) rfl rfl hl.1 rfl (lv_room (Nat.le_of_ble_eq_true rfl)) dX7_rule_52 ⟨Nat.le_of_ble_eq_true rfl, Nat.le_of_ble_eq_true rfl⟩) hS hA hP hD [0, 14] [1, 2, 3, 4, 5, 6, 7, 8, 9, 10, 11, 12, 13, 15] rfl rfl (by decide +kernel) (by decide +kernel) (fun r_36 u H locs hw_36 hP hD hS => ?_)
          obtain ⟨lfa__36, tz__36⟩ := u
          replace hP : va_P D classes [((a 40), .inl (k 5, 4, .inr (.inr (.inr (.inr (a4 (a 41) (a 44) (a 47) (a 50))))))), ((a 41), .inr (3, (fX3 (a 42) (a 43) rf0 (nI rc0) (nI rr0)))), (aI k (a 42) 24 rs0), (aI k (a 43) 24 rb0), ((a 44), .inr (3, (fX3 (a 45) (a 46) rf1 (nI rc1) (nI rr1)))), (aI k (a 45) 24 rs1), (aI k (a 46) 24 rb1), ((a 47), .inr (3, (fX3 (a 48) (a 49) rf2 (nI rc2) (nI rr2)))), (aI k (a 48) 24 rs2), (aI k (a 49) 24 rb2), ((a 50), .inr (3, (fX3 (a 51) (a 52) rf__34 (nI rc__34) (nI rr__34)))), (aI k (a 51) 24 rs__34), (aI k (a 52) 24 rb__34), (aB k (a 2) 240 fx), ((a 0), .inr (7, (fX7 (a 1) (a 3) (a 19) (a 35) (a 40) 3 lfa__36 (a 53) (a 56) (a 63) (a 64) (a 68)))), ((a 1), .inr (6, (fX6 (a 2) (nI tz__36) (nI ta__34) na__34 0 fb__34)))] H := hP
          replace hD : va_D A [((a 40), .inl (k 5, 4, .inr (.inr (.inr (.inr (a4 (a 41) (a 44) (a 47) (a 50))))))), ((a 41), .inr (3, (fX3 (a 42) (a 43) rf0 (nI rc0) (nI rr0)))), (aI k (a 42) 24 rs0), (aI k (a 43) 24 rb0), ((a 44), .inr (3, (fX3 (a 45) (a 46) rf1 (nI rc1) (nI rr1)))), (aI k (a 45) 24 rs1), (aI k (a 46) 24 rb1), ((a 47), .inr (3, (fX3 (a 48) (a 49) rf2 (nI rc2) (nI rr2)))), (aI k (a 48) 24 rs2), (aI k (a 49) 24 rb2), ((a 50), .inr (3, (fX3 (a 51) (a 52) rf__34 (nI rc__34) (nI rr__34)))), (aI k (a 51) 24 rs__34), (aI k (a 52) 24 rb__34), (aB k (a 2) 240 fx), ((a 0), .inr (7, (fX7 (a 1) (a 3) (a 19) (a 35) (a 40) 3 lfa__36 (a 53) (a 56) (a 63) (a 64) (a 68)))), ((a 1), .inr (6, (fX6 (a 2) (nI tz__36) (nI ta__34) na__34 0 fb__34)))] := hD
          try dsimp only at hw_36
          have hcl_37 := hw_36.2.1 rfl
          obtain ⟨hs0_38, hs1_38, hs2_38⟩ := (⟨hw_36.1, hcl_37.1, hcl_37.2⟩ : _ ∧ _ ∧ _)
          replace hs0_38 := hs0_38.symm
          subst hs0_38
          replace hs1_38 := hs1_38.symm
          subst hs1_38
          replace hs2_38 := hs2_38.symm
          subst hs2_38
          refine lv_istore_n (lv' := [(1, .int 0), (0, .ref (a 0))]) hx hb dX7_rule_55 rfl hl (by decide) rfl (fun ls hl => ?_)
          refine lv_iload_n hx hb dX7_rule_56 rfl (lv_at hl 0 rfl) ?_
          refine lv_if_ge (tgt := 62) hx hb dX7_rule_57 (by decide) (fun _ => ?_) (fun h => absurd (by decide) h)
          refine lv_aload_n hx hb dX7_rule_62 rfl (lv_at hl 1 rfl) ?_
          refine lv_dup hx hb dX7_rule_63 rfl ?_
          refine va_get (D := D) (ci := 7) (v := .int 3) (C := RX7) (T := TX7) (N := 12) hx hb hts inX7 hown hK hP 14 rfl rfl 5 (by decide) (hts _ tw_310) (fun _ h9 => h9) rfl dX7_rule_64 ?_
          refine lv_iconst (v := 1) hx hb dX7_rule_67 (by decide) ?_
          refine lv_iadd hx hb dX7_rule_68 ?_
          refine lv_ti (y := 4) (by decide) ?_
          refine va_put (D := D) (ci := 7) (v := .int 4) (ty := .int) (C := RX7) (T := TX7) (N := 12) hx hb hts inX7 tyX7 tyX7_ok nmX7 hown hK hP hD hS 14 rfl rfl 5 (by decide) (hts _ tw_310) (fun _ h9 => h9) rfl (by decide +kernel) rfl rfl (Nat.le_of_ble_eq_true rfl) dX7_rule_69 (fun H locs hP hD hS => ?_)
          replace hP : va_P D classes [((a 40), .inl (k 5, 4, .inr (.inr (.inr (.inr (a4 (a 41) (a 44) (a 47) (a 50))))))), ((a 41), .inr (3, (fX3 (a 42) (a 43) rf0 (nI rc0) (nI rr0)))), (aI k (a 42) 24 rs0), (aI k (a 43) 24 rb0), ((a 44), .inr (3, (fX3 (a 45) (a 46) rf1 (nI rc1) (nI rr1)))), (aI k (a 45) 24 rs1), (aI k (a 46) 24 rb1), ((a 47), .inr (3, (fX3 (a 48) (a 49) rf2 (nI rc2) (nI rr2)))), (aI k (a 48) 24 rs2), (aI k (a 49) 24 rb2), ((a 50), .inr (3, (fX3 (a 51) (a 52) rf__34 (nI rc__34) (nI rr__34)))), (aI k (a 51) 24 rs__34), (aI k (a 52) 24 rb__34), (aB k (a 2) 240 fx), ((a 0), .inr (7, (fX7 (a 1) (a 3) (a 19) (a 35) (a 40) 4 (-1) (a 53) (a 56) (a 63) (a 64) (a 68)))), ((a 1), .inr (6, (fX6 (a 2) 0 (nI ta__34) na__34 0 fb__34)))] H := hP
          replace hD : va_D A [((a 40), .inl (k 5, 4, .inr (.inr (.inr (.inr (a4 (a 41) (a 44) (a 47) (a 50))))))), ((a 41), .inr (3, (fX3 (a 42) (a 43) rf0 (nI rc0) (nI rr0)))), (aI k (a 42) 24 rs0), (aI k (a 43) 24 rb0), ((a 44), .inr (3, (fX3 (a 45) (a 46) rf1 (nI rc1) (nI rr1)))), (aI k (a 45) 24 rs1), (aI k (a 46) 24 rb1), ((a 47), .inr (3, (fX3 (a 48) (a 49) rf2 (nI rc2) (nI rr2)))), (aI k (a 48) 24 rs2), (aI k (a 49) 24 rb2), ((a 50), .inr (3, (fX3 (a 51) (a 52) rf__34 (nI rc__34) (nI rr__34)))), (aI k (a 51) 24 rs__34), (aI k (a 52) 24 rb__34), (aB k (a 2) 240 fx), ((a 0), .inr (7, (fX7 (a 1) (a 3) (a 19) (a 35) (a 40) 4 (-1) (a 53) (a 56) (a 63) (a 64) (a 68)))), ((a 1), .inr (6, (fX6 (a 2) 0 (nI ta__34) na__34 0 fb__34)))] := hD
          refine lv_aload_n hx hb dX7_rule_72 rfl (lv_at hl 1 rfl) ?_
          refine va_get (D := D) (ci := 7) (v := .int 4) (C := RX7) (T := TX7) (N := 12) hx hb hts inX7 hown hK hP 14 rfl rfl 5 (by decide) (hts _ tw_310) (fun _ h9 => h9) rfl dX7_rule_73 ?_
          refine lv_iconst (v := 1) hx hb dX7_rule_76 (by decide) ?_
          refine lv_isub hx hb dX7_rule_77 ?_
          refine lv_ti (y := 3) (by decide) ?_
          have hP9 := hP.sub (ws' := [((a 0), .inr (7, (fX7 (a 1) (a 3) (a 19) (a 35) (a 40) 4 (-1) (a 53) (a 56) (a 63) (a 64) (a 68)))), ((a 1), .inr (6, (fX6 (a 2) 0 (nI ta__34) na__34 0 fb__34))), (aB k (a 2) 240 fx), ((a 40), .inl (k 5, 4, .inr (.inr (.inr (.inr (a4 (a 41) (a 44) (a 47) (a 50))))))), ((a 41), .inr (3, (fX3 (a 42) (a 43) rf0 (nI rc0) (nI rr0)))), (aI k (a 42) 24 rs0), (aI k (a 43) 24 rb0), ((a 44), .inr (3, (fX3 (a 45) (a 46) rf1 (nI rc1) (nI rr1)))), (aI k (a 45) 24 rs1), (aI k (a 46) 24 rb1), ((a 47), .inr (3, (fX3 (a 48) (a 49) rf2 (nI rc2) (nI rr2)))), (aI k (a 48) 24 rs2), (aI k (a 49) 24 rb2), ((a 50), .inr (3, (fX3 (a 51) (a 52) rf__34 (nI rc__34) (nI rr__34)))), (aI k (a 51) 24 rs__34), (aI k (a 52) 24 rb__34)]) [14, 15, 13, 0, 1, 2, 3, 4, 5, 6, 7, 8, 9, 10, 11, 12] rfl
          have hD9 := hD.sub (ws' := [((a 0), .inr (7, (fX7 (a 1) (a 3) (a 19) (a 35) (a 40) 4 (-1) (a 53) (a 56) (a 63) (a 64) (a 68)))), ((a 1), .inr (6, (fX6 (a 2) 0 (nI ta__34) na__34 0 fb__34))), (aB k (a 2) 240 fx), ((a 40), .inl (k 5, 4, .inr (.inr (.inr (.inr (a4 (a 41) (a 44) (a 47) (a 50))))))), ((a 41), .inr (3, (fX3 (a 42) (a 43) rf0 (nI rc0) (nI rr0)))), (aI k (a 42) 24 rs0), (aI k (a 43) 24 rb0), ((a 44), .inr (3, (fX3 (a 45) (a 46) rf1 (nI rc1) (nI rr1)))), (aI k (a 45) 24 rs1), (aI k (a 46) 24 rb1), ((a 47), .inr (3, (fX3 (a 48) (a 49) rf2 (nI rc2) (nI rr2)))), (aI k (a 48) 24 rs2), (aI k (a 49) 24 rb2), ((a 50), .inr (3, (fX3 (a 51) (a 52) rf__34 (nI rc__34) (nI rr__34)))), (aI k (a 51) 24 rs__34), (aI k (a 52) 24 rb__34)]) [14, 15, 13, 0, 1, 2, 3, 4, 5, 6, 7, 8, 9, 10, 11, 12] (by decide +kernel) rfl
          exact W.iret (v := 3) hx hb hr (fun t ht hW => ⟨⟨3, (4, (-1), 0, (nI ta__34), na__34, 0, fb__34, rf0, rc0, rr0, rs0, rb0, rf1, rc1, rr1, rs1, rb1, rf2, rc2, rr2, rs2, rb2, rf__34, rc__34, rr__34, rs__34, rb__34), rfl, ⟨⟨fun h => absurd h (by omega), fun _ h => absurd h (by omega), fun _ _ => ⟨rfl, (fun q hq => by rcases (show q = 0 ∨ q = 1 ∨ q = 2 by omega) with rfl | rfl | rfl <;> rfl), .inr ⟨hrf_35, rfl, rfl, rfl⟩⟩⟩, by omega, by omega, by omega, by omega, by omega, by omega, by omega, by omega, by omega, by omega⟩, by rw [ht]; exact hP9, hD9⟩, hS.F ht⟩) hS.2.2 dX7_rule_78
        · refine lv_aload_n hx hb dX7_rule_51 rfl (lv_at hl 0 rfl) ?_
          refine rw_i (D := D) (wr := [((a 40), .inl (k 5, 4, .inr (.inr (.inr (.inr (a4 (a 41) (a 44) (a 47) (a 50))))))), ((a 41), .inr (3, (fX3 (a 42) (a 43) rf0 (nI rc0) (nI rr0)))), (aI k (a 42) 24 rs0), (aI k (a 43) 24 rb0), ((a 44), .inr (3, (fX3 (a 45) (a 46) rf1 (nI rc1) (nI rr1)))), (aI k (a 45) 24 rs1), (aI k (a 46) 24 rb1), ((a 47), .inr (3, (fX3 (a 48) (a 49) rf2 (nI rc2) (nI rr2)))), (aI k (a 48) 24 rs2), (aI k (a 49) 24 rb2), ((a 50), .inr (3, (fX3 (a 51) (a 52) rf__34 (nI rc__34) (nI rr__34)))), (aI k (a 51) 24 rs__34), (aI k (a 52) 24 rb__34), (aB k (a 2) 240 fx)]) (va_runV (As := []) (rest := []) ⟨hx, hb, hml, hown, hts⟩ ((y_closeText l D k st lo a 3 lfa tz (nI ta__34) na__34 (nI e_35) (nI pl_35)) H.size) (cwV 0 hts (gV tw_496 tw_498 tw_2 tw_79 tw_499) rfl rfl rfl (by decide +kernel) ⟨Nat.le_of_ble_eq_true rfl, Nat.le_of_ble_eq_true rfl⟩) (pV hS hAlo hlo hP hK (va_Dlo hD hAlo) hZ [0, 14] (by decide) rfl (ci := 7) (q := (RX7, TX7, 12)) (q0 := 0) rfl rfl) rfl rfl hl.1 rfl (lv_room (Nat.le_of_ble_eq_true rfl)) dX7_rule_52 ⟨Nat.le_of_ble_eq_true rfl, Nat.le_of_ble_eq_true rfl⟩) hS hA hP hD [0, 14] [1, 2, 3, 4, 5, 6, 7, 8, 9, 10, 11, 12, 13, 15] rfl rfl (by decide +kernel) (by decide +kernel) (fun r_39 u H locs hw_39 hP hD hS => ?_)
          obtain ⟨lfa__39, tz__39⟩ := u
          replace hP : va_P D classes [((a 40), .inl (k 5, 4, .inr (.inr (.inr (.inr (a4 (a 41) (a 44) (a 47) (a 50))))))), ((a 41), .inr (3, (fX3 (a 42) (a 43) rf0 (nI rc0) (nI rr0)))), (aI k (a 42) 24 rs0), (aI k (a 43) 24 rb0), ((a 44), .inr (3, (fX3 (a 45) (a 46) rf1 (nI rc1) (nI rr1)))), (aI k (a 45) 24 rs1), (aI k (a 46) 24 rb1), ((a 47), .inr (3, (fX3 (a 48) (a 49) rf2 (nI rc2) (nI rr2)))), (aI k (a 48) 24 rs2), (aI k (a 49) 24 rb2), ((a 50), .inr (3, (fX3 (a 51) (a 52) rf__34 (nI rc__34) (nI rr__34)))), (aI k (a 51) 24 rs__34), (aI k (a 52) 24 rb__34), (aB k (a 2) 240 fx), ((a 0), .inr (7, (fX7 (a 1) (a 3) (a 19) (a 35) (a 40) 3 lfa__39 (a 53) (a 56) (a 63) (a 64) (a 68)))), ((a 1), .inr (6, (fX6 (a 2) (nI tz__39) (nI ta__34) na__34 (nI e_35) (nI pl_35))))] H := hP
          replace hD : va_D A [((a 40), .inl (k 5, 4, .inr (.inr (.inr (.inr (a4 (a 41) (a 44) (a 47) (a 50))))))), ((a 41), .inr (3, (fX3 (a 42) (a 43) rf0 (nI rc0) (nI rr0)))), (aI k (a 42) 24 rs0), (aI k (a 43) 24 rb0), ((a 44), .inr (3, (fX3 (a 45) (a 46) rf1 (nI rc1) (nI rr1)))), (aI k (a 45) 24 rs1), (aI k (a 46) 24 rb1), ((a 47), .inr (3, (fX3 (a 48) (a 49) rf2 (nI rc2) (nI rr2)))), (aI k (a 48) 24 rs2), (aI k (a 49) 24 rb2), ((a 50), .inr (3, (fX3 (a 51) (a 52) rf__34 (nI rc__34) (nI rr__34)))), (aI k (a 51) 24 rs__34), (aI k (a 52) 24 rb__34), (aB k (a 2) 240 fx), ((a 0), .inr (7, (fX7 (a 1) (a 3) (a 19) (a 35) (a 40) 3 lfa__39 (a 53) (a 56) (a 63) (a 64) (a 68)))), ((a 1), .inr (6, (fX6 (a 2) (nI tz__39) (nI ta__34) na__34 (nI e_35) (nI pl_35))))] := hD
          try dsimp only at hw_39
          have hcl_40 := hw_39.2.2 (nI_ne0 (show 0 < e_35 by omega) (by omega))
          obtain ⟨hs0_41, hs1_41⟩ := (⟨hw_39.1, hcl_40.2⟩ : _ ∧ _)
          replace hs0_41 := hs0_41.symm
          subst hs0_41
          replace hs1_41 := hs1_41.symm
          subst hs1_41
          refine lv_istore_n (lv' := [(1, .int r_39), (0, .ref (a 0))]) hx hb dX7_rule_55 rfl hl (by decide) rfl (fun ls hl => ?_)
          refine lv_iload_n hx hb dX7_rule_56 rfl (lv_at hl 0 rfl) ?_
          refine lv_if_ge (tgt := 62) hx hb dX7_rule_57 (by decide) (fun c_42 => absurd c_42 (by rw [hcl_40.1]; exact neg10 he1_35 he2_35)) (fun c_42 => ?_)
          refine lv_iload_n hx hb dX7_rule_60 rfl (lv_at hl 0 rfl) ?_
          have hP9 := hP.sub (ws' := [((a 0), .inr (7, (fX7 (a 1) (a 3) (a 19) (a 35) (a 40) 3 (nI pl_35) (a 53) (a 56) (a 63) (a 64) (a 68)))), ((a 1), .inr (6, (fX6 (a 2) 0 (nI ta__34) na__34 (nI e_35) (nI pl_35)))), (aB k (a 2) 240 fx), ((a 40), .inl (k 5, 4, .inr (.inr (.inr (.inr (a4 (a 41) (a 44) (a 47) (a 50))))))), ((a 41), .inr (3, (fX3 (a 42) (a 43) rf0 (nI rc0) (nI rr0)))), (aI k (a 42) 24 rs0), (aI k (a 43) 24 rb0), ((a 44), .inr (3, (fX3 (a 45) (a 46) rf1 (nI rc1) (nI rr1)))), (aI k (a 45) 24 rs1), (aI k (a 46) 24 rb1), ((a 47), .inr (3, (fX3 (a 48) (a 49) rf2 (nI rc2) (nI rr2)))), (aI k (a 48) 24 rs2), (aI k (a 49) 24 rb2), ((a 50), .inr (3, (fX3 (a 51) (a 52) rf__34 (nI rc__34) (nI rr__34)))), (aI k (a 51) 24 rs__34), (aI k (a 52) 24 rb__34)]) [14, 15, 13, 0, 1, 2, 3, 4, 5, 6, 7, 8, 9, 10, 11, 12] rfl
          have hD9 := hD.sub (ws' := [((a 0), .inr (7, (fX7 (a 1) (a 3) (a 19) (a 35) (a 40) 3 (nI pl_35) (a 53) (a 56) (a 63) (a 64) (a 68)))), ((a 1), .inr (6, (fX6 (a 2) 0 (nI ta__34) na__34 (nI e_35) (nI pl_35)))), (aB k (a 2) 240 fx), ((a 40), .inl (k 5, 4, .inr (.inr (.inr (.inr (a4 (a 41) (a 44) (a 47) (a 50))))))), ((a 41), .inr (3, (fX3 (a 42) (a 43) rf0 (nI rc0) (nI rr0)))), (aI k (a 42) 24 rs0), (aI k (a 43) 24 rb0), ((a 44), .inr (3, (fX3 (a 45) (a 46) rf1 (nI rc1) (nI rr1)))), (aI k (a 45) 24 rs1), (aI k (a 46) 24 rb1), ((a 47), .inr (3, (fX3 (a 48) (a 49) rf2 (nI rc2) (nI rr2)))), (aI k (a 48) 24 rs2), (aI k (a 49) 24 rb2), ((a 50), .inr (3, (fX3 (a 51) (a 52) rf__34 (nI rc__34) (nI rr__34)))), (aI k (a 51) 24 rs__34), (aI k (a 52) 24 rb__34)]) [14, 15, 13, 0, 1, 2, 3, 4, 5, 6, 7, 8, 9, 10, 11, 12] (by decide +kernel) rfl
          exact W.iret (v := r_39) hx hb hr (fun t ht hW => ⟨⟨r_39, (3, (nI pl_35), 0, (nI ta__34), na__34, (nI e_35), (nI pl_35), rf0, rc0, rr0, rs0, rb0, rf1, rc1, rr1, rs1, rb1, rf2, rc2, rr2, rs2, rb2, rf__34, rc__34, rr__34, rs__34, rb__34), rfl, ⟨⟨fun h => absurd h (by omega), fun _ h => absurd h (by omega), fun _ _ => ⟨rfl, (fun q hq => by rcases (show q = 0 ∨ q = 1 ∨ q = 2 by omega) with rfl | rfl | rfl <;> rfl), .inl ⟨e_35, pl_35, he1_35, he2_35, hp1_35, hp2_35, hcl_40.1, rfl, rfl⟩⟩⟩, by omega, by omega, by omega, by omega, by omega, by omega, by omega, by omega, by omega, by omega⟩, by rw [ht]; exact hP9, hD9⟩, hS.F ht⟩) hS.2.2 dX7_rule_61
    · have c_2 : ¬ (rk < 4) := fun h => c_2 ((nI_ltI (a := rk) (b := 4) (by omega) (by omega)).mpr h)
      refine lv_sipush (v := (-1004)) hx hb dX7_rule_24 (by decide) ?_
      have hP9 := hP.sub (ws' := [((a 0), .inr (7, (fX7 (a 1) (a 3) (a 19) (a 35) (a 40) (nI rk) lfa (a 53) (a 56) (a 63) (a 64) (a 68)))), ((a 1), .inr (6, (fX6 (a 2) (nI tz) ta na fn fb))), (aB k (a 2) 240 fx), ((a 40), .inl (k 5, 4, .inr (.inr (.inr (.inr (a4 (a 41) (a 44) (a 47) (a 50))))))), ((a 41), .inr (3, (fX3 (a 42) (a 43) rf0 (nI rc0) (nI rr0)))), (aI k (a 42) 24 rs0), (aI k (a 43) 24 rb0), ((a 44), .inr (3, (fX3 (a 45) (a 46) rf1 (nI rc1) (nI rr1)))), (aI k (a 45) 24 rs1), (aI k (a 46) 24 rb1), ((a 47), .inr (3, (fX3 (a 48) (a 49) rf2 (nI rc2) (nI rr2)))), (aI k (a 48) 24 rs2), (aI k (a 49) 24 rb2), ((a 50), .inr (3, (fX3 (a 51) (a 52) rf3 (nI rc3) (nI rr3)))), (aI k (a 51) 24 rs3), (aI k (a 52) 24 rb3)]) [0, 1, 2, 3, 4, 5, 6, 7, 8, 9, 10, 11, 12, 13, 14, 15] rfl
      have hD9 := hD.sub (ws' := [((a 0), .inr (7, (fX7 (a 1) (a 3) (a 19) (a 35) (a 40) (nI rk) lfa (a 53) (a 56) (a 63) (a 64) (a 68)))), ((a 1), .inr (6, (fX6 (a 2) (nI tz) ta na fn fb))), (aB k (a 2) 240 fx), ((a 40), .inl (k 5, 4, .inr (.inr (.inr (.inr (a4 (a 41) (a 44) (a 47) (a 50))))))), ((a 41), .inr (3, (fX3 (a 42) (a 43) rf0 (nI rc0) (nI rr0)))), (aI k (a 42) 24 rs0), (aI k (a 43) 24 rb0), ((a 44), .inr (3, (fX3 (a 45) (a 46) rf1 (nI rc1) (nI rr1)))), (aI k (a 45) 24 rs1), (aI k (a 46) 24 rb1), ((a 47), .inr (3, (fX3 (a 48) (a 49) rf2 (nI rc2) (nI rr2)))), (aI k (a 48) 24 rs2), (aI k (a 49) 24 rb2), ((a 50), .inr (3, (fX3 (a 51) (a 52) rf3 (nI rc3) (nI rr3)))), (aI k (a 51) 24 rs3), (aI k (a 52) 24 rb3)]) [0, 1, 2, 3, 4, 5, 6, 7, 8, 9, 10, 11, 12, 13, 14, 15] (by decide +kernel) rfl
      exact W.iret (v := (-1004)) hx hb hr (fun t ht hW => ⟨⟨(-1004), (rk, lfa, tz, ta, na, fn, fb, rf0, rc0, rr0, rs0, rb0, rf1, rc1, rr1, rs1, rb1, rf2, rc2, rr2, rs2, rb2, rf3, rc3, rr3, rs3, rb3), rfl, ⟨⟨fun h => absurd h (by omega), fun _ _ => ⟨rfl, rfl, rfl, rfl, fun _ _ => rfl⟩, fun _ h => absurd h (by omega)⟩, by omega, by omega, by omega, by omega, by omega, by omega, by omega, by omega, by omega, by omega⟩, by rw [ht]; exact hP9, hD9⟩, hS.F ht⟩) hS.2.2 dX7_rule_27
  · have c_1 : ¬ (tz ≤ 80) := fun h => c_1 ((nI_leI (a := tz) (b := 80) (by omega) (by omega)).mpr h)
    refine lv_sipush (v := (-1003)) hx hb dX7_rule_12 (by decide) ?_
    have hP9 := hP.sub (ws' := [((a 0), .inr (7, (fX7 (a 1) (a 3) (a 19) (a 35) (a 40) (nI rk) lfa (a 53) (a 56) (a 63) (a 64) (a 68)))), ((a 1), .inr (6, (fX6 (a 2) (nI tz) ta na fn fb))), (aB k (a 2) 240 fx), ((a 40), .inl (k 5, 4, .inr (.inr (.inr (.inr (a4 (a 41) (a 44) (a 47) (a 50))))))), ((a 41), .inr (3, (fX3 (a 42) (a 43) rf0 (nI rc0) (nI rr0)))), (aI k (a 42) 24 rs0), (aI k (a 43) 24 rb0), ((a 44), .inr (3, (fX3 (a 45) (a 46) rf1 (nI rc1) (nI rr1)))), (aI k (a 45) 24 rs1), (aI k (a 46) 24 rb1), ((a 47), .inr (3, (fX3 (a 48) (a 49) rf2 (nI rc2) (nI rr2)))), (aI k (a 48) 24 rs2), (aI k (a 49) 24 rb2), ((a 50), .inr (3, (fX3 (a 51) (a 52) rf3 (nI rc3) (nI rr3)))), (aI k (a 51) 24 rs3), (aI k (a 52) 24 rb3)]) [0, 1, 2, 3, 4, 5, 6, 7, 8, 9, 10, 11, 12, 13, 14, 15] rfl
    have hD9 := hD.sub (ws' := [((a 0), .inr (7, (fX7 (a 1) (a 3) (a 19) (a 35) (a 40) (nI rk) lfa (a 53) (a 56) (a 63) (a 64) (a 68)))), ((a 1), .inr (6, (fX6 (a 2) (nI tz) ta na fn fb))), (aB k (a 2) 240 fx), ((a 40), .inl (k 5, 4, .inr (.inr (.inr (.inr (a4 (a 41) (a 44) (a 47) (a 50))))))), ((a 41), .inr (3, (fX3 (a 42) (a 43) rf0 (nI rc0) (nI rr0)))), (aI k (a 42) 24 rs0), (aI k (a 43) 24 rb0), ((a 44), .inr (3, (fX3 (a 45) (a 46) rf1 (nI rc1) (nI rr1)))), (aI k (a 45) 24 rs1), (aI k (a 46) 24 rb1), ((a 47), .inr (3, (fX3 (a 48) (a 49) rf2 (nI rc2) (nI rr2)))), (aI k (a 48) 24 rs2), (aI k (a 49) 24 rb2), ((a 50), .inr (3, (fX3 (a 51) (a 52) rf3 (nI rc3) (nI rr3)))), (aI k (a 51) 24 rs3), (aI k (a 52) 24 rb3)]) [0, 1, 2, 3, 4, 5, 6, 7, 8, 9, 10, 11, 12, 13, 14, 15] (by decide +kernel) rfl
    exact W.iret (v := (-1003)) hx hb hr (fun t ht hW => ⟨⟨(-1003), (rk, lfa, tz, ta, na, fn, fb, rf0, rc0, rr0, rs0, rb0, rf1, rc1, rr1, rs1, rb1, rf2, rc2, rr2, rs2, rb2, rf3, rc3, rr3, rs3, rb3), rfl, ⟨⟨fun _ => ⟨rfl, rfl, rfl, rfl, fun _ _ => rfl⟩, fun h => absurd h (by omega), fun h => absurd h (by omega)⟩, by omega, by omega, by omega, by omega, by omega, by omega, by omega, by omega, by omega, by omega⟩, by rw [ht]; exact hP9, hD9⟩, hS.F ht⟩) hS.2.2 dX7_rule_15


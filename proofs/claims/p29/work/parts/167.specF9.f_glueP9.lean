theorem f_glueP9 : True := trivial
/-- what a street's text told, as answers show it: doors, singles, chances, prices -/
abbrev SDt : Type := Nat × (Nat → Int32) × (Nat → Int32) × (Nat → Int32)
def sdP (σ : PSt) : SDt := (σ.1, σ.2.1, σ.2.2.1, σ.2.2.2.1)
def sdM (dn : Nat → Nat) (f ff fp : Nat → Int32) (s : Nat) : SDt := (dn s, nG (fun j => f (9 * s + (j - 1))), clp (dn s) (fun i => ff (24 * s + i)), clp (dn s) (fun i => fp (24 * s + i)))
def sdX (n see tm : Nat) (g ff fp : Nat → Int32) : SDt := (n, nG (vv n see tm g), clp n ff, clp n fp)
theorem upd9 {f0 f1 f2 f3 f4 f5 f6 f7 f8 f9 rs : Nat → Int32} {a : Nat} (h0 : f1 = upd f0 (a + 0) (rs 0)) (h1 : f2 = upd f1 (a + 1) (rs 1)) (h2 : f3 = upd f2 (a + 2) (rs 2)) (h3 : f4 = upd f3 (a + 3) (rs 3)) (h4 : f5 = upd f4 (a + 4) (rs 4)) (h5 : f6 = upd f5 (a + 5) (rs 5)) (h6 : f7 = upd f6 (a + 6) (rs 6)) (h7 : f8 = upd f7 (a + 7) (rs 7)) (h8 : f9 = upd f8 (a + 8) (rs 8)) : ∀ j, f9 j = if a ≤ j ∧ j < a + 9 then rs (j - a) else f0 j := by
  intro j
  subst h8 h7 h6 h5 h4 h3 h2 h1 h0
  by_cases hj : a ≤ j ∧ j < a + 9
  · rw [if_pos hj]
    obtain ⟨k, hk⟩ : ∃ k, k = j - a := ⟨_, rfl⟩
    rw [← hk]
    rcases (show k = 0 ∨ k = 1 ∨ k = 2 ∨ k = 3 ∨ k = 4 ∨ k = 5 ∨ k = 6 ∨ k = 7 ∨ k = 8 by omega) with rfl | rfl | rfl | rfl | rfl | rfl | rfl | rfl | rfl
    · rw [pk_un (by omega), pk_un (by omega), pk_un (by omega), pk_un (by omega), pk_un (by omega), pk_un (by omega), pk_un (by omega), pk_un (by omega), show j = a + 0 by omega, pk_us]
    · rw [pk_un (by omega), pk_un (by omega), pk_un (by omega), pk_un (by omega), pk_un (by omega), pk_un (by omega), pk_un (by omega), show j = a + 1 by omega, pk_us]
    · rw [pk_un (by omega), pk_un (by omega), pk_un (by omega), pk_un (by omega), pk_un (by omega), pk_un (by omega), show j = a + 2 by omega, pk_us]
    · rw [pk_un (by omega), pk_un (by omega), pk_un (by omega), pk_un (by omega), pk_un (by omega), show j = a + 3 by omega, pk_us]
    · rw [pk_un (by omega), pk_un (by omega), pk_un (by omega), pk_un (by omega), show j = a + 4 by omega, pk_us]
    · rw [pk_un (by omega), pk_un (by omega), pk_un (by omega), show j = a + 5 by omega, pk_us]
    · rw [pk_un (by omega), pk_un (by omega), show j = a + 6 by omega, pk_us]
    · rw [pk_un (by omega), show j = a + 7 by omega, pk_us]
    · rw [show j = a + 8 by omega, pk_us]
  · rw [if_neg hj, pk_un (by omega), pk_un (by omega), pk_un (by omega), pk_un (by omega), pk_un (by omega), pk_un (by omega), pk_un (by omega), pk_un (by omega), pk_un (by omega)]
/-- copied from a row into another, from a place on -/
theorem cp_step {f g rs : Nat → Int32} {a i : Nat} (h : ∀ j, g j = if a ≤ j ∧ j < a + i then rs (j - a) else f j) : ∀ j, upd g (a + i) (rs i) j = if a ≤ j ∧ j < a + (i + 1) then rs (j - a) else f j := by
  intro j
  by_cases h1 : j = a + i
  · rw [h1, pk_us, if_pos (by omega), show a + i - a = i by omega]
  · rw [pk_un h1, h j]
    by_cases h2 : a ≤ j ∧ j < a + i
    · rw [if_pos h2, if_pos (by omega)]
    · rw [if_neg h2, if_neg (by omega)]
theorem sdM_new {dn dn2 : Nat → Nat} {f f2 ff ff2 fp fp2 rs ra rb : Nat → Int32} {s rd : Nat} {m : Int32} (hd : dn2 = fun j => if j = s then rd else dn j) (hf : ∀ j, f2 j = if 9 * s ≤ j ∧ j < 9 * s + 9 then rs (j - 9 * s) else f j) (h1 : ∀ j, ff2 j = if 24 * s ≤ j ∧ j < 24 * s + rd then ra (j - 24 * s) else ff j) (h2 : ∀ j, fp2 j = if 24 * s ≤ j ∧ j < 24 * s + rd then rb (j - 24 * s) else fp j) : sdM dn2 f2 ff2 fp2 s = sdP (stM rd rs ra rb m) := by
  have e0 : dn2 s = rd := by rw [hd]; exact if_pos rfl
  have e1 : nG (fun j => f2 (9 * s + (j - 1))) = gM rs := by
    funext j
    unfold gM nG
    by_cases hj : 1 ≤ j ∧ j ≤ 9
    · rw [if_pos hj, if_pos hj]
      show f2 (9 * s + (j - 1)) = rs (j - 1)
      rw [hf, if_pos (by omega), show 9 * s + (j - 1) - 9 * s = j - 1 by omega]
    · rw [if_neg hj, if_neg hj]
  have e2 : ∀ (x y z : Nat → Int32), (∀ j, y j = if 24 * s ≤ j ∧ j < 24 * s + rd then z (j - 24 * s) else x j) → clp rd (fun i => y (24 * s + i)) = clp rd z := by
    intro x y z h
    funext i
    unfold clp
    by_cases hi : i < rd
    · rw [if_pos hi, if_pos hi]
      show y (24 * s + i) = z i
      rw [h, if_pos (by omega), show 24 * s + i - 24 * s = i by omega]
    · rw [if_neg hi, if_neg hi]
  show (dn2 s, nG (fun j => f2 (9 * s + (j - 1))), clp (dn2 s) (fun i => ff2 (24 * s + i)), clp (dn2 s) (fun i => fp2 (24 * s + i))) = (rd, gM rs, clp rd ra, clp rd rb)
  rw [e0, e1, e2 ff ff2 ra h1, e2 fp fp2 rb h2]
theorem sdM_old {dn dn2 : Nat → Nat} {f f2 ff ff2 fp fp2 rs ra rb : Nat → Int32} {s rd : Nat} (hrd : rd ≤ 24) (hd : dn2 = fun j => if j = s then rd else dn j) (hf : ∀ j, f2 j = if 9 * s ≤ j ∧ j < 9 * s + 9 then rs (j - 9 * s) else f j) (h1 : ∀ j, ff2 j = if 24 * s ≤ j ∧ j < 24 * s + rd then ra (j - 24 * s) else ff j) (h2 : ∀ j, fp2 j = if 24 * s ≤ j ∧ j < 24 * s + rd then rb (j - 24 * s) else fp j) (hdn : ∀ j, dn j ≤ 24) : ∀ q, q ≠ s → sdM dn2 f2 ff2 fp2 q = sdM dn f ff fp q := by
  intro q hq
  have e0 : dn2 q = dn q := by rw [hd]; exact if_neg hq
  have e1 : nG (fun j => f2 (9 * q + (j - 1))) = nG (fun j => f (9 * q + (j - 1))) := by
    funext j
    unfold nG
    by_cases hj : 1 ≤ j ∧ j ≤ 9
    · rw [if_pos hj, if_pos hj]
      show f2 (9 * q + (j - 1)) = f (9 * q + (j - 1))
      rw [hf, if_neg (by omega)]
    · rw [if_neg hj, if_neg hj]
  have e2 : ∀ (x y z : Nat → Int32), (∀ j, y j = if 24 * s ≤ j ∧ j < 24 * s + rd then z (j - 24 * s) else x j) → clp (dn q) (fun i => y (24 * q + i)) = clp (dn q) (fun i => x (24 * q + i)) := by
    intro x y z h
    have h9 := hdn q
    funext i
    unfold clp
    by_cases hi : i < dn q
    · rw [if_pos hi, if_pos hi]
      show y (24 * q + i) = x (24 * q + i)
      rw [h, if_neg (by omega)]
    · rw [if_neg hi, if_neg hi]
  show (dn2 q, nG (fun j => f2 (9 * q + (j - 1))), clp (dn2 q) (fun i => ff2 (24 * q + i)), clp (dn2 q) (fun i => fp2 (24 * q + i))) = (dn q, nG (fun j => f (9 * q + (j - 1))), clp (dn q) (fun i => ff (24 * q + i)), clp (dn q) (fun i => fp (24 * q + i)))
  rw [e0, e1, e2 ff ff2 ra h1, e2 fp fp2 rb h2]
theorem stM_0 {fs ff fp : Nat → Int32} (h : gM fs = nG zNT) : stM 0 fs ff fp 0 = st0 := by
  unfold stM st0
  have e2 : ∀ f : Nat → Int32, clp 0 f = fun _ => 0 := by
    intro f
    funext j
    unfold clp
    rw [if_neg (by omega)]
  have e3 : toM 0 = fun _ => false := by
    funext c
    unfold toM
    by_cases h1 : 1 ≤ c ∧ c ≤ 9
    · rw [if_pos h1]
      exact BitVec.getLsbD_zero
    · rw [if_neg h1]
  rw [h, e2, e2, e3]
theorem clF_sk {b : Nat → Int32} {n t : Nat} {σ : PSt} : clF b n (skA b n t) σ = clF b n t σ := by
  unfold clF
  rw [skA_idem]
theorem by_neg {b : Nat → Int32} {n t : Nat} {r : Int32} (hb : ∀ j, 0 ≤ b j) (h : r = byF b n t) (hc : r < 0) : ¬ t < n := by
  intro q
  rw [byF_in q] at h
  rw [h] at hc
  exact absurd (hb t) (Int32.not_le.mpr hc)
theorem by_pos {b : Nat → Int32} {n t : Nat} {r : Int32} (h : r = byF b n t) (hc : ¬ r < 0) : t < n := by
  rcases Nat.lt_or_ge t n with q | q
  · exact q
  · rw [byF_out (by omega)] at h
    rw [h] at hc
    exact absurd (by decide) hc


set_option maxHeartbeats 4000000 in
set_option maxRecDepth 100000 in
theorem n_bare (l : Launch) (D : va_G) (k : Nat → ClassId) (st : Nat → Nat) (lo : Nat) (a : Nat → Nat) (tx : Nat) (t0 : Nat) (we : Nat) (rd : Nat) (ru : Nat) (rw : Nat) (ca : Nat) (fp : Int32) (wd : Int64) (nu : Int32) (na : Int32) (ts : Int32) (df : Int32) (db : Int32) (sd : Int32) (freadSingle : Nat → Int32)  : CWv l D k st lo yX8_bare cX8_bare 1 none ({ frames := 0, cells := 0, slots := 0, locals := 0 }) 0 0 [.ref (a 0)] [((a 0), .inr (8, (fX8 a (nI tx) fp (nI t0) wd (nI we) nu na (nI rd) ts (nI ru) (nI rw) (nI ca) df db sd))), (aI k (a 16) 9 freadSingle)] (fun (u : Nat × Int32 × (Nat → Int32)) => match u with | (rd_, ts_, freadSingle_) => rd_ = 0 ∧ ts_ = 0 ∧ gM freadSingle_ = nG zNT ∧ rsOK freadSingle_) (fun (u : Nat × Int32 × (Nat → Int32)) => match u with | (rd_, ts_, freadSingle_) => [((a 0), .inr (8, (fX8 a (nI tx) fp (nI t0) wd (nI we) nu na (nI rd_) ts_ (nI ru) (nI rw) (nI ca) df db sd))), (aI k (a 16) 9 freadSingle_)]) := by
  intro sz
  refine Met.ofW (cc := cX8_bare) (maxL := 1) (ret := none) (by decide) rfl ?_
  intro p e s m args below meth c s₁ B hml hv
  obtain ⟨rfl, hsz, hlo, hP, hK, hDL, hZ⟩ := hv
  have hx := B.exec
  have hb := B.bytes
  have hr := B.returns
  have hts := WS_ts B.pre
  have hown : s.vm.findClass RX8 = some m.cls := findClass_of_methodNamed B.named
  have hlocks := B.notSynchronized
  subst hsz
  have hD := hDL.self (sz := s.heap.size)
  have hAlo := A_lo hDL hlo
  generalize hAe : va_A [((a 0), .inr (8, (fX8 a (nI tx) fp (nI t0) wd (nI we) nu na (nI rd) ts (nI ru) (nI rw) (nI ca) df db sd))), (aI k (a 16) 9 freadSingle)] s.heap.size = A at hD hAlo ⊢
  have hA : ∀ q : Nat, s.heap.size ≤ q → A q := fun q h => by rw [← hAe]; exact Or.inr h
  have hS : va_S A s.heap s.heap [] := va_S.rf
  have hl := lv_entry ([.ref (a 0)]) (n := 1) (Nat.le_of_ble_eq_true rfl)
  rw [lg_entry_eq]
  generalize (lg_sl ([.ref (a 0)]) ++ List.replicate (1 - (lg_sl ([.ref (a 0)])).length) Slot.unset).toArray = ls at hl ⊢
  have hl : lv_has ls 1 [(0, .ref (a 0))] := hl
  refine lv_aload_n hx hb dX8_bare_0 rfl (lv_at hl 0 rfl) ?_
  refine lv_iconst (v := 0) hx hb dX8_bare_1 (by decide) ?_
  refine va_put (D := D) (ci := 8) (v := .int 0) (ty := .int) (C := RX8) (T := TX8) (N := 44) hx hb hts inX8 tyX8 tyX8_ok nmX8 hown hK hP hD hS 0 rfl rfl 12 (by decide) (hts _ tw_985) (fun _ h9 => h9) rfl (by decide +kernel) rfl rfl (Nat.le_of_ble_eq_true rfl) dX8_bare_2 (fun H locs hP hD hS => ?_)
  replace hP : va_P D classes [((a 0), .inr (8, (fX8 a (nI tx) fp (nI t0) wd (nI we) nu na 0 ts (nI ru) (nI rw) (nI ca) df db sd))), (aI k (a 16) 9 freadSingle)] H := hP
  replace hD : va_D A [((a 0), .inr (8, (fX8 a (nI tx) fp (nI t0) wd (nI we) nu na 0 ts (nI ru) (nI rw) (nI ca) df db sd))), (aI k (a 16) 9 freadSingle)] := hD
  refine lv_aload_n hx hb dX8_bare_5 rfl (lv_at hl 0 rfl) ?_
  refine lv_iconst (v := 0) hx hb dX8_bare_6 (by decide) ?_
  refine va_put (D := D) (ci := 8) (v := .int 0) (ty := .int) (C := RX8) (T := TX8) (N := 44) hx hb hts inX8 tyX8 tyX8_ok nmX8 hown hK hP hD hS 0 rfl rfl 16 (by decide) (hts _ tw_989) (fun _ h9 => h9) rfl (by decide +kernel) rfl rfl (Nat.le_of_ble_eq_true rfl) dX8_bare_7 (fun H locs hP hD hS => ?_)
  replace hP : va_P D classes [((a 0), .inr (8, (fX8 a (nI tx) fp (nI t0) wd (nI we) nu na 0 0 (nI ru) (nI rw) (nI ca) df db sd))), (aI k (a 16) 9 freadSingle)] H := hP
  replace hD : va_D A [((a 0), .inr (8, (fX8 a (nI tx) fp (nI t0) wd (nI we) nu na 0 0 (nI ru) (nI rw) (nI ca) df db sd))), (aI k (a 16) 9 freadSingle)] := hD
  refine lv_aload_n hx hb dX8_bare_10 rfl (lv_at hl 0 rfl) ?_
  refine va_get (D := D) (ci := 8) (v := .ref (a 16)) (C := RX8) (T := TX8) (N := 44) hx hb hts inX8 hown hK hP 0 rfl rfl 15 (by decide) (hts _ tw_988) (fun _ h9 => h9) rfl dX8_bare_11 ?_
  refine lv_iconst (v := 0) hx hb dX8_bare_14 (by decide) ?_
  refine lv_iconst (v := 0) hx hb dX8_bare_15 (by decide) ?_
  refine va_iast hx hb hK hP hD hS 1 1 rfl rfl (by unfold vp_in; decide) dX8_bare_16 (fun H locs hP hD hS => ?_)
  replace hP : va_P D classes [((a 0), .inr (8, (fX8 a (nI tx) fp (nI t0) wd (nI we) nu na 0 0 (nI ru) (nI rw) (nI ca) df db sd))), (aI k (a 16) 9 (upd freadSingle (Int32.toNatClampNeg 0) 0))] H := hP
  replace hD : va_D A [((a 0), .inr (8, (fX8 a (nI tx) fp (nI t0) wd (nI we) nu na 0 0 (nI ru) (nI rw) (nI ca) df db sd))), (aI k (a 16) 9 (upd freadSingle (Int32.toNatClampNeg 0) 0))] := hD
  replace hP : va_P D classes [((a 0), .inr (8, (fX8 a (nI tx) fp (nI t0) wd (nI we) nu na 0 0 (nI ru) (nI rw) (nI ca) df db sd))), (aI k (a 16) 9 (upd freadSingle 0 0))] H := hP
  replace hD : va_D A [((a 0), .inr (8, (fX8 a (nI tx) fp (nI t0) wd (nI we) nu na 0 0 (nI ru) (nI rw) (nI ca) df db sd))), (aI k (a 16) 9 (upd freadSingle 0 0))] := hD
  refine lv_aload_n hx hb dX8_bare_17 rfl (lv_at hl 0 rfl) ?_
  refine va_get (D := D) (ci := 8) (v := .ref (a 16)) (C := RX8) (T := TX8) (N := 44) hx hb hts inX8 hown hK hP 0 rfl rfl 15 (by decide) (hts _ tw_988) (fun _ h9 => h9) rfl dX8_bare_18 ?_
  refine lv_iconst (v := 1) hx hb dX8_bare_21 (by decide) ?_
  refine lv_iconst (v := 2) hx hb dX8_bare_22 (by decide) ?_
  refine va_iast hx hb hK hP hD hS 1 1 rfl rfl (by unfold vp_in; decide) dX8_bare_23 (fun H locs hP hD hS => ?_)
  replace hP : va_P D classes [((a 0), .inr (8, (fX8 a (nI tx) fp (nI t0) wd (nI we) nu na 0 0 (nI ru) (nI rw) (nI ca) df db sd))), (aI k (a 16) 9 (upd (upd freadSingle 0 0) (Int32.toNatClampNeg 1) 2))] H := hP
  replace hD : va_D A [((a 0), .inr (8, (fX8 a (nI tx) fp (nI t0) wd (nI we) nu na 0 0 (nI ru) (nI rw) (nI ca) df db sd))), (aI k (a 16) 9 (upd (upd freadSingle 0 0) (Int32.toNatClampNeg 1) 2))] := hD
  replace hP : va_P D classes [((a 0), .inr (8, (fX8 a (nI tx) fp (nI t0) wd (nI we) nu na 0 0 (nI ru) (nI rw) (nI ca) df db sd))), (aI k (a 16) 9 (upd (upd freadSingle 0 0) 1 2))] H := hP
  replace hD : va_D A [((a 0), .inr (8, (fX8 a (nI tx) fp (nI t0) wd (nI we) nu na 0 0 (nI ru) (nI rw) (nI ca) df db sd))), (aI k (a 16) 9 (upd (upd freadSingle 0 0) 1 2))] := hD
  refine lv_aload_n hx hb dX8_bare_24 rfl (lv_at hl 0 rfl) ?_
  refine va_get (D := D) (ci := 8) (v := .ref (a 16)) (C := RX8) (T := TX8) (N := 44) hx hb hts inX8 hown hK hP 0 rfl rfl 15 (by decide) (hts _ tw_988) (fun _ h9 => h9) rfl dX8_bare_25 ?_
  refine lv_iconst (v := 2) hx hb dX8_bare_28 (by decide) ?_
  refine lv_iconst (v := 1) hx hb dX8_bare_29 (by decide) ?_
  refine va_iast hx hb hK hP hD hS 1 1 rfl rfl (by unfold vp_in; decide) dX8_bare_30 (fun H locs hP hD hS => ?_)
  replace hP : va_P D classes [((a 0), .inr (8, (fX8 a (nI tx) fp (nI t0) wd (nI we) nu na 0 0 (nI ru) (nI rw) (nI ca) df db sd))), (aI k (a 16) 9 (upd (upd (upd freadSingle 0 0) 1 2) (Int32.toNatClampNeg 2) 1))] H := hP
  replace hD : va_D A [((a 0), .inr (8, (fX8 a (nI tx) fp (nI t0) wd (nI we) nu na 0 0 (nI ru) (nI rw) (nI ca) df db sd))), (aI k (a 16) 9 (upd (upd (upd freadSingle 0 0) 1 2) (Int32.toNatClampNeg 2) 1))] := hD
  replace hP : va_P D classes [((a 0), .inr (8, (fX8 a (nI tx) fp (nI t0) wd (nI we) nu na 0 0 (nI ru) (nI rw) (nI ca) df db sd))), (aI k (a 16) 9 (upd (upd (upd freadSingle 0 0) 1 2) 2 1))] H := hP
  replace hD : va_D A [((a 0), .inr (8, (fX8 a (nI tx) fp (nI t0) wd (nI we) nu na 0 0 (nI ru) (nI rw) (nI ca) df db sd))), (aI k (a 16) 9 (upd (upd (upd freadSingle 0 0) 1 2) 2 1))] := hD
  refine lv_aload_n hx hb dX8_bare_31 rfl (lv_at hl 0 rfl) ?_
  refine va_get (D := D) (ci := 8) (v := .ref (a 16)) (C := RX8) (T := TX8) (N := 44) hx hb hts inX8 hown hK hP 0 rfl rfl 15 (by decide) (hts _ tw_988) (fun _ h9 => h9) rfl dX8_bare_32 ?_
  refine lv_iconst (v := 3) hx hb dX8_bare_35 (by decide) ?_
  refine lv_iconst (v := 5) hx hb dX8_bare_36 (by decide) ?_
  refine va_iast hx hb hK hP hD hS 1 1 rfl rfl (by unfold vp_in; decide) dX8_bare_37 (fun H locs hP hD hS => ?_)
  replace hP : va_P D classes [((a 0), .inr (8, (fX8 a (nI tx) fp (nI t0) wd (nI we) nu na 0 0 (nI ru) (nI rw) (nI ca) df db sd))), (aI k (a 16) 9 (upd (upd (upd (upd freadSingle 0 0) 1 2) 2 1) (Int32.toNatClampNeg 3) 5))] H := hP
  replace hD : va_D A [((a 0), .inr (8, (fX8 a (nI tx) fp (nI t0) wd (nI we) nu na 0 0 (nI ru) (nI rw) (nI ca) df db sd))), (aI k (a 16) 9 (upd (upd (upd (upd freadSingle 0 0) 1 2) 2 1) (Int32.toNatClampNeg 3) 5))] := hD
  replace hP : va_P D classes [((a 0), .inr (8, (fX8 a (nI tx) fp (nI t0) wd (nI we) nu na 0 0 (nI ru) (nI rw) (nI ca) df db sd))), (aI k (a 16) 9 (upd (upd (upd (upd freadSingle 0 0) 1 2) 2 1) 3 5))] H := hP
  replace hD : va_D A [((a 0), .inr (8, (fX8 a (nI tx) fp (nI t0) wd (nI we) nu na 0 0 (nI ru) (nI rw) (nI ca) df db sd))), (aI k (a 16) 9 (upd (upd (upd (upd freadSingle 0 0) 1 2) 2 1) 3 5))] := hD
  refine lv_aload_n hx hb dX8_bare_38 rfl (lv_at hl 0 rfl) ?_
  refine va_get (D := D) (ci := 8) (v := .ref (a 16)) (C := RX8) (T := TX8) (N := 44) hx hb hts inX8 hown hK hP 0 rfl rfl 15 (by decide) (hts _ tw_988) (fun _ h9 => h9) rfl dX8_bare_39 ?_
  refine lv_iconst (v := 4) hx hb dX8_bare_42 (by decide) ?_
  refine lv_bipush (v := 30) hx hb dX8_bare_43 (by decide) ?_
  refine va_iast hx hb hK hP hD hS 1 1 rfl rfl (by unfold vp_in; decide) dX8_bare_45 (fun H locs hP hD hS => ?_)
  replace hP : va_P D classes [((a 0), .inr (8, (fX8 a (nI tx) fp (nI t0) wd (nI we) nu na 0 0 (nI ru) (nI rw) (nI ca) df db sd))), (aI k (a 16) 9 (upd (upd (upd (upd (upd freadSingle 0 0) 1 2) 2 1) 3 5) (Int32.toNatClampNeg 4) 30))] H := hP
  replace hD : va_D A [((a 0), .inr (8, (fX8 a (nI tx) fp (nI t0) wd (nI we) nu na 0 0 (nI ru) (nI rw) (nI ca) df db sd))), (aI k (a 16) 9 (upd (upd (upd (upd (upd freadSingle 0 0) 1 2) 2 1) 3 5) (Int32.toNatClampNeg 4) 30))] := hD
  replace hP : va_P D classes [((a 0), .inr (8, (fX8 a (nI tx) fp (nI t0) wd (nI we) nu na 0 0 (nI ru) (nI rw) (nI ca) df db sd))), (aI k (a 16) 9 (upd (upd (upd (upd (upd freadSingle 0 0) 1 2) 2 1) 3 5) 4 30))] H := hP
  replace hD : va_D A [((a 0), .inr (8, (fX8 a (nI tx) fp (nI t0) wd (nI we) nu na 0 0 (nI ru) (nI rw) (nI ca) df db sd))), (aI k (a 16) 9 (upd (upd (upd (upd (upd freadSingle 0 0) 1 2) 2 1) 3 5) 4 30))] := hD
  refine lv_aload_n hx hb dX8_bare_46 rfl (lv_at hl 0 rfl) ?_
  refine va_get (D := D) (ci := 8) (v := .ref (a 16)) (C := RX8) (T := TX8) (N := 44) hx hb hts inX8 hown hK hP 0 rfl rfl 15 (by decide) (hts _ tw_988) (fun _ h9 => h9) rfl dX8_bare_47 ?_
  refine lv_iconst (v := 5) hx hb dX8_bare_50 (by decide) ?_
  refine lv_iconst (v := 1) hx hb dX8_bare_51 (by decide) ?_
  refine va_iast hx hb hK hP hD hS 1 1 rfl rfl (by unfold vp_in; decide) dX8_bare_52 (fun H locs hP hD hS => ?_)
  replace hP : va_P D classes [((a 0), .inr (8, (fX8 a (nI tx) fp (nI t0) wd (nI we) nu na 0 0 (nI ru) (nI rw) (nI ca) df db sd))), (aI k (a 16) 9 (upd (upd (upd (upd (upd (upd freadSingle 0 0) 1 2) 2 1) 3 5) 4 30) (Int32.toNatClampNeg 5) 1))] H := hP
  replace hD : va_D A [((a 0), .inr (8, (fX8 a (nI tx) fp (nI t0) wd (nI we) nu na 0 0 (nI ru) (nI rw) (nI ca) df db sd))), (aI k (a 16) 9 (upd (upd (upd (upd (upd (upd freadSingle 0 0) 1 2) 2 1) 3 5) 4 30) (Int32.toNatClampNeg 5) 1))] := hD
  replace hP : va_P D classes [((a 0), .inr (8, (fX8 a (nI tx) fp (nI t0) wd (nI we) nu na 0 0 (nI ru) (nI rw) (nI ca) df db sd))), (aI k (a 16) 9 (upd (upd (upd (upd (upd (upd freadSingle 0 0) 1 2) 2 1) 3 5) 4 30) 5 1))] H := hP
  replace hD : va_D A [((a 0), .inr (8, (fX8 a (nI tx) fp (nI t0) wd (nI we) nu na 0 0 (nI ru) (nI rw) (nI ca) df db sd))), (aI k (a 16) 9 (upd (upd (upd (upd (upd (upd freadSingle 0 0) 1 2) 2 1) 3 5) 4 30) 5 1))] := hD
  refine lv_aload_n hx hb dX8_bare_53 rfl (lv_at hl 0 rfl) ?_
  refine va_get (D := D) (ci := 8) (v := .ref (a 16)) (C := RX8) (T := TX8) (N := 44) hx hb hts inX8 hown hK hP 0 rfl rfl 15 (by decide) (hts _ tw_988) (fun _ h9 => h9) rfl dX8_bare_54 ?_
  refine lv_bipush (v := 6) hx hb dX8_bare_57 (by decide) ?_
  refine lv_bipush (v := 10) hx hb dX8_bare_59 (by decide) ?_
  refine va_iast hx hb hK hP hD hS 1 1 rfl rfl (by unfold vp_in; decide) dX8_bare_61 (fun H locs hP hD hS => ?_)
  replace hP : va_P D classes [((a 0), .inr (8, (fX8 a (nI tx) fp (nI t0) wd (nI we) nu na 0 0 (nI ru) (nI rw) (nI ca) df db sd))), (aI k (a 16) 9 (upd (upd (upd (upd (upd (upd (upd freadSingle 0 0) 1 2) 2 1) 3 5) 4 30) 5 1) (Int32.toNatClampNeg 6) 10))] H := hP
  replace hD : va_D A [((a 0), .inr (8, (fX8 a (nI tx) fp (nI t0) wd (nI we) nu na 0 0 (nI ru) (nI rw) (nI ca) df db sd))), (aI k (a 16) 9 (upd (upd (upd (upd (upd (upd (upd freadSingle 0 0) 1 2) 2 1) 3 5) 4 30) 5 1) (Int32.toNatClampNeg 6) 10))] := hD
  replace hP : va_P D classes [((a 0), .inr (8, (fX8 a (nI tx) fp (nI t0) wd (nI we) nu na 0 0 (nI ru) (nI rw) (nI ca) df db sd))), (aI k (a 16) 9 (upd (upd (upd (upd (upd (upd (upd freadSingle 0 0) 1 2) 2 1) 3 5) 4 30) 5 1) 6 10))] H := hP
  replace hD : va_D A [((a 0), .inr (8, (fX8 a (nI tx) fp (nI t0) wd (nI we) nu na 0 0 (nI ru) (nI rw) (nI ca) df db sd))), (aI k (a 16) 9 (upd (upd (upd (upd (upd (upd (upd freadSingle 0 0) 1 2) 2 1) 3 5) 4 30) 5 1) 6 10))] := hD
  refine lv_aload_n hx hb dX8_bare_62 rfl (lv_at hl 0 rfl) ?_
  refine va_get (D := D) (ci := 8) (v := .ref (a 16)) (C := RX8) (T := TX8) (N := 44) hx hb hts inX8 hown hK hP 0 rfl rfl 15 (by decide) (hts _ tw_988) (fun _ h9 => h9) rfl dX8_bare_63 ?_
  refine lv_bipush (v := 7) hx hb dX8_bare_66 (by decide) ?_
  refine lv_iconst (v := 0) hx hb dX8_bare_68 (by decide) ?_
  refine va_iast hx hb hK hP hD hS 1 1 rfl rfl (by unfold vp_in; decide) dX8_bare_69 (fun H locs hP hD hS => ?_)
  replace hP : va_P D classes [((a 0), .inr (8, (fX8 a (nI tx) fp (nI t0) wd (nI we) nu na 0 0 (nI ru) (nI rw) (nI ca) df db sd))), (aI k (a 16) 9 (upd (upd (upd (upd (upd (upd (upd (upd freadSingle 0 0) 1 2) 2 1) 3 5) 4 30) 5 1) 6 10) (Int32.toNatClampNeg 7) 0))] H := hP
  replace hD : va_D A [((a 0), .inr (8, (fX8 a (nI tx) fp (nI t0) wd (nI we) nu na 0 0 (nI ru) (nI rw) (nI ca) df db sd))), (aI k (a 16) 9 (upd (upd (upd (upd (upd (upd (upd (upd freadSingle 0 0) 1 2) 2 1) 3 5) 4 30) 5 1) 6 10) (Int32.toNatClampNeg 7) 0))] := hD
  replace hP : va_P D classes [((a 0), .inr (8, (fX8 a (nI tx) fp (nI t0) wd (nI we) nu na 0 0 (nI ru) (nI rw) (nI ca) df db sd))), (aI k (a 16) 9 (upd (upd (upd (upd (upd (upd (upd (upd freadSingle 0 0) 1 2) 2 1) 3 5) 4 30) 5 1) 6 10) 7 0))] H := hP
  replace hD : va_D A [((a 0), .inr (8, (fX8 a (nI tx) fp (nI t0) wd (nI we) nu na 0 0 (nI ru) (nI rw) (nI ca) df db sd))), (aI k (a 16) 9 (upd (upd (upd (upd (upd (upd (upd (upd freadSingle 0 0) 1 2) 2 1) 3 5) 4 30) 5 1) 6 10) 7 0))] := hD
  refine lv_aload_n hx hb dX8_bare_70 rfl (lv_at hl 0 rfl) ?_
  refine va_get (D := D) (ci := 8) (v := .ref (a 16)) (C := RX8) (T := TX8) (N := 44) hx hb hts inX8 hown hK hP 0 rfl rfl 15 (by decide) (hts _ tw_988) (fun _ h9 => h9) rfl dX8_bare_71 ?_
  refine lv_bipush (v := 8) hx hb dX8_bare_74 (by decide) ?_
  refine lv_sipush (v := 200) hx hb dX8_bare_76 (by decide) ?_
  refine va_iast hx hb hK hP hD hS 1 1 rfl rfl (by unfold vp_in; decide) dX8_bare_79 (fun H locs hP hD hS => ?_)
  replace hP : va_P D classes [((a 0), .inr (8, (fX8 a (nI tx) fp (nI t0) wd (nI we) nu na 0 0 (nI ru) (nI rw) (nI ca) df db sd))), (aI k (a 16) 9 (upd (upd (upd (upd (upd (upd (upd (upd (upd freadSingle 0 0) 1 2) 2 1) 3 5) 4 30) 5 1) 6 10) 7 0) (Int32.toNatClampNeg 8) 200))] H := hP
  replace hD : va_D A [((a 0), .inr (8, (fX8 a (nI tx) fp (nI t0) wd (nI we) nu na 0 0 (nI ru) (nI rw) (nI ca) df db sd))), (aI k (a 16) 9 (upd (upd (upd (upd (upd (upd (upd (upd (upd freadSingle 0 0) 1 2) 2 1) 3 5) 4 30) 5 1) 6 10) 7 0) (Int32.toNatClampNeg 8) 200))] := hD
  replace hP : va_P D classes [((a 0), .inr (8, (fX8 a (nI tx) fp (nI t0) wd (nI we) nu na 0 0 (nI ru) (nI rw) (nI ca) df db sd))), (aI k (a 16) 9 (upd (upd (upd (upd (upd (upd (upd (upd (upd freadSingle 0 0) 1 2) 2 1) 3 5) 4 30) 5 1) 6 10) 7 0) 8 200))] H := hP
  replace hD : va_D A [((a 0), .inr (8, (fX8 a (nI tx) fp (nI t0) wd (nI we) nu na 0 0 (nI ru) (nI rw) (nI ca) df db sd))), (aI k (a 16) 9 (upd (upd (upd (upd (upd (upd (upd (upd (upd freadSingle 0 0) 1 2) 2 1) 3 5) 4 30) 5 1) 6 10) 7 0) 8 200))] := hD
  have hP9 := hP.sub (ws' := [((a 0), .inr (8, (fX8 a (nI tx) fp (nI t0) wd (nI we) nu na 0 0 (nI ru) (nI rw) (nI ca) df db sd))), (aI k (a 16) 9 (upd (upd (upd (upd (upd (upd (upd (upd (upd freadSingle 0 0) 1 2) 2 1) 3 5) 4 30) 5 1) 6 10) 7 0) 8 200))]) [0, 1] rfl
  have hD9 := hD.sub (ws' := [((a 0), .inr (8, (fX8 a (nI tx) fp (nI t0) wd (nI we) nu na 0 0 (nI ru) (nI rw) (nI ca) df db sd))), (aI k (a 16) 9 (upd (upd (upd (upd (upd (upd (upd (upd (upd freadSingle 0 0) 1 2) 2 1) 3 5) 4 30) 5 1) 6 10) 7 0) 8 200))]) [0, 1] (by decide) rfl
  exact W.vret hx hb hr (fun t ht hW => ⟨⟨(0, 0, (upd (upd (upd (upd (upd (upd (upd (upd (upd freadSingle 0 0) 1 2) 2 1) 3 5) 4 30) 5 1) 6 10) 7 0) 8 200)), rfl, ⟨rfl, rfl, (by funext j; match j with | 0 => rfl | 1 => rfl | 2 => rfl | 3 => rfl | 4 => rfl | 5 => rfl | 6 => rfl | 7 => rfl | 8 => rfl | 9 => rfl | j + 10 => rfl), ⟨1, by omega, rfl⟩, 0, by omega, rfl⟩, by rw [ht]; exact hP9, hD9⟩, hS.F ht⟩) hS.2.2 dX8_bare_80


set_option maxHeartbeats 4000000 in
set_option maxRecDepth 100000 in
theorem n_street (l : Launch) (D : va_G) (k : Nat → ClassId) (st : Nat → Nat) (lo : Nat) (a : Nat → Nat) (tx : Nat) (t0 : Nat) (we : Nat) (rd : Nat) (ru : Nat) (rw : Nat) (ca : Nat) (fp : Int32) (wd : Int64) (nu : Int32) (na : Int32) (ts : Int32) (df : Int32) (db : Int32) (sd : Int32) (ftext : Nat → Int32) (freadFree : Nat → Int32) (freadPrice : Nat → Int32) (freadSingle : Nat → Int32) (dn : Nat → Nat) (ffrees : Nat → Int32) (fprices : Nat → Int32) (se : Nat → Nat) (tm : Nat → Nat) (gs : Nat → Int32) (pz : Int32) (htx : tx ≤ 240) (hdn : ∀ j, dn j ≤ 24) (hse : ∀ j, se j ≤ 2) (htm : ∀ j, tm j ≤ 3) (hty : ∀ j, 0 ≤ ftext j) : CWi l D k st lo yX8_street cX8_street 4 (some .int) ({ frames := 5, cells := 0, slots := 0, locals := 121 }) 0 0 [.ref (a 0), .int pz] [((a 0), .inr (8, (fX8 a (nI tx) fp (nI t0) wd (nI we) nu na (nI rd) ts (nI ru) (nI rw) (nI ca) df db sd))), (aI k (a 5) 240 ftext), (aI k (a 14) 24 freadFree), (aI k (a 15) 24 freadPrice), (aI k (a 16) 9 freadSingle), (aI k (a 1) 3 (nF dn)), (aI k (a 2) 72 ffrees), (aI k (a 3) 72 fprices), (aI k (a 4) 27 (sg se tm gs))] (fun (r : Int32) (u : Nat × Int64 × Nat × Int32 × Int32 × Int32 × Nat × Int32 × Nat × (Nat → Int32) × (Nat → Int32) × (Nat → Int32) × (Nat → Nat) × (Nat → Int32) × (Nat → Int32) × (Nat → Nat) × (Nat → Nat) × (Nat → Int32)) => match u with | (t0_, wd_, we_, fp_, nu_, na_, rd_, ts_, tx_, freadFree_, freadPrice_, freadSingle_, dn_, ffrees_, fprices_, se_, tm_, gs_) => ((¬ inB pz 0 2 → r = -1001 ∧ tx_ = tx ∧ fp_ = fp ∧ (∀ q, sdM dn_ (sg se_ tm_ gs_) ffrees_ fprices_ q = sdM dn (sg se tm gs) ffrees fprices q)) ∧ (inB pz 0 2 → tx_ = 0 ∧ ((∃ e pl : Nat, 1 ≤ e ∧ e ≤ 4 ∧ (stF ftext tx 0).1 = e ∧ (stF ftext tx 0).2.1 = pl ∧ r = -10 - nI e ∧ fp_ = nI pl ∧ (∀ q, sdM dn_ (sg se_ tm_ gs_) ffrees_ fprices_ q = sdM dn (sg se tm gs) ffrees fprices q)) ∨ (∃ (sn : Nat) (σ : PSt), sn < 3 ∧ pz = nI sn ∧ stF ftext tx 0 = (0, 0, σ) ∧ r = nI σ.1 ∧ fp_ = -1 ∧ sdM dn_ (sg se_ tm_ gs_) ffrees_ fprices_ sn = sdP σ ∧ (∀ q, q ≠ sn → sdM dn_ (sg se_ tm_ gs_) ffrees_ fprices_ q = sdM dn (sg se tm gs) ffrees fprices q))))) ∧ tx_ ≤ tx ∧ (∀ j, dn_ j ≤ 24) ∧ (∀ j, se_ j ≤ 2) ∧ (∀ j, tm_ j ≤ 3)) (fun (u : Nat × Int64 × Nat × Int32 × Int32 × Int32 × Nat × Int32 × Nat × (Nat → Int32) × (Nat → Int32) × (Nat → Int32) × (Nat → Nat) × (Nat → Int32) × (Nat → Int32) × (Nat → Nat) × (Nat → Nat) × (Nat → Int32)) => match u with | (t0_, wd_, we_, fp_, nu_, na_, rd_, ts_, tx_, freadFree_, freadPrice_, freadSingle_, dn_, ffrees_, fprices_, se_, tm_, gs_) => [((a 0), .inr (8, (fX8 a (nI tx_) fp_ (nI t0_) wd_ (nI we_) nu_ na_ (nI rd_) ts_ (nI ru) (nI rw) (nI ca) df db sd))), (aI k (a 5) 240 ftext), (aI k (a 14) 24 freadFree_), (aI k (a 15) 24 freadPrice_), (aI k (a 16) 9 freadSingle_), (aI k (a 1) 3 (nF dn_)), (aI k (a 2) 72 ffrees_), (aI k (a 3) 72 fprices_), (aI k (a 4) 27 (sg se_ tm_ gs_))]) := by
  intro sz
  refine Met.ofW (cc := cX8_street) (maxL := 4) (ret := (some .int)) (by decide) rfl ?_
  intro p e s m args below meth c s₁ B hml hv
  obtain ⟨rfl, hsz, hlo, hP, hK, hDL, hZ⟩ := hv
  have hx := B.exec
  have hb := B.bytes
  have hr := B.returns
  have hts := WS_ts B.pre
  have hown : s.vm.findClass RX8 = some m.cls := findClass_of_methodNamed B.named
  have hlocks := B.notSynchronized
  subst hsz
  have hD := hDL.self (sz := s.heap.size)
  have hAlo := A_lo hDL hlo
  generalize hAe : va_A [((a 0), .inr (8, (fX8 a (nI tx) fp (nI t0) wd (nI we) nu na (nI rd) ts (nI ru) (nI rw) (nI ca) df db sd))), (aI k (a 5) 240 ftext), (aI k (a 14) 24 freadFree), (aI k (a 15) 24 freadPrice), (aI k (a 16) 9 freadSingle), (aI k (a 1) 3 (nF dn)), (aI k (a 2) 72 ffrees), (aI k (a 3) 72 fprices), (aI k (a 4) 27 (sg se tm gs))] s.heap.size = A at hD hAlo ⊢
  have hA : ∀ q : Nat, s.heap.size ≤ q → A q := fun q h => by rw [← hAe]; exact Or.inr h
  have hS : va_S A s.heap s.heap [] := va_S.rf
  have hl := lv_entry ([.ref (a 0), .int pz]) (n := 4) (Nat.le_of_ble_eq_true rfl)
  rw [lg_entry_eq]
  generalize (lg_sl ([.ref (a 0), .int pz]) ++ List.replicate (4 - (lg_sl ([.ref (a 0), .int pz])).length) Slot.unset).toArray = ls at hl ⊢
  have hl : lv_has ls 4 [(0, .ref (a 0)), (1, .int pz)] := hl
  refine lv_iload_n hx hb dX8_street_0 rfl (lv_at hl 1 rfl) ?_
  refine lv_i2l (v := pz.toInt64) hx hb dX8_street_1 rfl ?_
  refine lv_lconst (v := (0 : Int32).toInt64) hx hb dX8_street_2 (by decide) ?_
  refine lv_ldc2 hx hb hown (hts _ tw_1119) dX8_street_3 ?_
  refine lv_tl (y := ((2 : Int32).toInt64)) (by decide) ?_
  refine ro_i (D := D) (va_runS (As := [.long (pz.toInt64), .long ((0 : Int32).toInt64), .long ((2 : Int32).toInt64)]) (rest := []) ⟨hx, hb, hml, hown, hts⟩ ((k_in l D k st lo pz (0 : Int32) (2 : Int32)) s.heap.size) (va_cwS 3 hts (gS tw_1111 tw_1112 tw_87 tw_1113) rfl rfl rfl (by decide +kernel) ⟨Nat.le_of_ble_eq_true rfl, Nat.le_of_ble_eq_true rfl⟩) (pS hS hAlo hlo hP hK (va_Dlo hD hAlo) hZ [] (by decide) rfl) rfl rfl hl.1 rfl (lv_room (Nat.le_of_ble_eq_true rfl)) dX8_street_6 ⟨Nat.le_of_ble_eq_true rfl, Nat.le_of_ble_eq_true rfl⟩) hS hA hP (fun r_1 H locs hw_1 hP hS => ?_)
  try dsimp only at hw_1
  rcases hw_1 with ⟨rfl, hw_1⟩ | ⟨rfl, hw_1⟩
  · refine lv_if_ne (tgt := 16) hx hb dX8_street_9 (by decide) (fun _ => ?_) (fun h => absurd h (by decide))
    have hin_9 := hw_1
    obtain ⟨sn, -, hsn, rfl⟩ := inB_ofc (a := 0) (b := 2) (by omega) (by omega) hw_1
    refine lv_aload_n hx hb dX8_street_16 rfl (lv_at hl 0 rfl) ?_
    refine lv_iconst (v := (-1)) hx hb dX8_street_17 (by decide) ?_
    refine va_put (D := D) (ci := 8) (v := .int (-1)) (ty := .int) (C := RX8) (T := TX8) (N := 44) hx hb hts inX8 tyX8 tyX8_ok nmX8 hown hK hP hD hS 0 rfl rfl 6 (by decide) (hts _ tw_979) (fun _ h9 => h9) rfl (by decide +kernel) rfl rfl (Nat.le_of_ble_eq_true rfl) dX8_street_18 (fun H locs hP hD hS => ?_)
    replace hP : va_P D classes [((a 0), .inr (8, (fX8 a (nI tx) (-1) (nI t0) wd (nI we) nu na (nI rd) ts (nI ru) (nI rw) (nI ca) df db sd))), (aI k (a 5) 240 ftext), (aI k (a 14) 24 freadFree), (aI k (a 15) 24 freadPrice), (aI k (a 16) 9 freadSingle), (aI k (a 1) 3 (nF dn)), (aI k (a 2) 72 ffrees), (aI k (a 3) 72 fprices), (aI k (a 4) 27 (sg se tm gs))] H := hP
    replace hD : va_D A [((a 0), .inr (8, (fX8 a (nI tx) (-1) (nI t0) wd (nI we) nu na (nI rd) ts (nI ru) (nI rw) (nI ca) df db sd))), (aI k (a 5) 240 ftext), (aI k (a 14) 24 freadFree), (aI k (a 15) 24 freadPrice), (aI k (a 16) 9 freadSingle), (aI k (a 1) 3 (nF dn)), (aI k (a 2) 72 ffrees), (aI k (a 3) 72 fprices), (aI k (a 4) 27 (sg se tm gs))] := hD
    refine lv_aload_n hx hb dX8_street_21 rfl (lv_at hl 0 rfl) ?_
    refine lv_iconst (v := 0) hx hb dX8_street_22 (by decide) ?_
    refine va_put (D := D) (ci := 8) (v := .int 0) (ty := .int) (C := RX8) (T := TX8) (N := 44) hx hb hts inX8 tyX8 tyX8_ok nmX8 hown hK hP hD hS 0 rfl rfl 7 (by decide) (hts _ tw_980) (fun _ h9 => h9) rfl (by decide +kernel) rfl rfl (Nat.le_of_ble_eq_true rfl) dX8_street_23 (fun H locs hP hD hS => ?_)
    replace hP : va_P D classes [((a 0), .inr (8, (fX8 a (nI tx) (-1) 0 wd (nI we) nu na (nI rd) ts (nI ru) (nI rw) (nI ca) df db sd))), (aI k (a 5) 240 ftext), (aI k (a 14) 24 freadFree), (aI k (a 15) 24 freadPrice), (aI k (a 16) 9 freadSingle), (aI k (a 1) 3 (nF dn)), (aI k (a 2) 72 ffrees), (aI k (a 3) 72 fprices), (aI k (a 4) 27 (sg se tm gs))] H := hP
    replace hD : va_D A [((a 0), .inr (8, (fX8 a (nI tx) (-1) 0 wd (nI we) nu na (nI rd) ts (nI ru) (nI rw) (nI ca) df db sd))), (aI k (a 5) 240 ftext), (aI k (a 14) 24 freadFree), (aI k (a 15) 24 freadPrice), (aI k (a 16) 9 freadSingle), (aI k (a 1) 3 (nF dn)), (aI k (a 2) 72 ffrees), (aI k (a 3) 72 fprices), (aI k (a 4) 27 (sg se tm gs))] := hD
    refine lv_aload_n hx hb dX8_street_26 rfl (lv_at hl 0 rfl) ?_
    refine rw_v (D := D) (wr := [(aI k (a 5) 240 ftext), (aI k (a 14) 24 freadFree), (aI k (a 15) 24 freadPrice), (aI k (a 1) 3 (nF dn)), (aI k (a 2) 72 ffrees), (aI k (a 3) 72 fprices), (aI k (a 4) 27 (sg se tm gs))]) (va_runV (As := []) (rest := []) ⟨hx, hb, hml, hown, hts⟩ ((n_bare l D k st lo a tx 0 we rd ru rw ca (-1) wd nu na ts df db sd freadSingle) H.size) (cwV 0 hts (gV tw_969 tw_971 tw_26 tw_87 tw_972) rfl rfl rfl (by decide +kernel) ⟨Nat.le_of_ble_eq_true rfl, Nat.le_of_ble_eq_true rfl⟩) (pV hS hAlo hlo hP hK (va_Dlo hD hAlo) hZ [0, 4] (by decide) rfl (ci := 8) (q := (RX8, TX8, 44)) (q0 := 0) rfl rfl) rfl rfl hl.1 rfl (lv_room (Nat.le_of_ble_eq_true rfl)) dX8_street_27 ⟨Nat.le_of_ble_eq_true rfl, Nat.le_of_ble_eq_true rfl⟩) hS hA hP hD [0, 4] [1, 2, 3, 5, 6, 7, 8] rfl rfl (by decide) (by decide) (fun u H locs hw_2 hP hD hS => ?_)
    obtain ⟨rd__2, ts__2, freadSingle__2⟩ := u
    replace hP : va_P D classes [(aI k (a 5) 240 ftext), (aI k (a 14) 24 freadFree), (aI k (a 15) 24 freadPrice), (aI k (a 1) 3 (nF dn)), (aI k (a 2) 72 ffrees), (aI k (a 3) 72 fprices), (aI k (a 4) 27 (sg se tm gs)), ((a 0), .inr (8, (fX8 a (nI tx) (-1) 0 wd (nI we) nu na (nI rd__2) ts__2 (nI ru) (nI rw) (nI ca) df db sd))), (aI k (a 16) 9 freadSingle__2)] H := hP
    replace hD : va_D A [(aI k (a 5) 240 ftext), (aI k (a 14) 24 freadFree), (aI k (a 15) 24 freadPrice), (aI k (a 1) 3 (nF dn)), (aI k (a 2) 72 ffrees), (aI k (a 3) 72 fprices), (aI k (a 4) 27 (sg se tm gs)), ((a 0), .inr (8, (fX8 a (nI tx) (-1) 0 wd (nI we) nu na (nI rd__2) ts__2 (nI ru) (nI rw) (nI ca) df db sd))), (aI k (a 16) 9 freadSingle__2)] := hD
    try dsimp only at hw_2
    have hb_3 := hw_2.2.2
    obtain ⟨hs0_4, hs1_4⟩ := (⟨hw_2.1, hw_2.2.1⟩ : _ ∧ _)
    replace hs0_4 := hs0_4.symm
    subst hs0_4
    replace hs1_4 := hs1_4.symm
    subst hs1_4
    refine lv_iconst (v := 0) hx hb dX8_street_30 (by decide) ?_
    refine lv_istore_n (lv' := [(2, .int 0), (0, .ref (a 0)), (1, .int (nI sn))]) hx hb dX8_street_31 rfl hl (by decide) rfl (fun ls hl => ?_)
    refine W_loop (σ := Nat × Nat × Int64 × Nat × Int32 × Int32 × Int32 × Nat × Int32 × (Nat → Int32) × (Nat → Int32) × (Nat → Int32)) (fun (n_ : Nat) (x_ : Nat × Nat × Int64 × Nat × Int32 × Int32 × Int32 × Nat × Int32 × (Nat → Int32) × (Nat → Int32) × (Nat → Int32)) (H : Heap) (locs : List Loc) (ls : Array Slot) => match x_ with | (fl_5, t_5, wd2_5, we2_5, fp2_5, nu2_5, na2_5, rd2_5, ts2_5, ra_5, rb_5, rs_5) => n_ = 2 * (tx - t_5) + (if fl_5 = 0 then 1 else 0) ∧ (t_5 ≤ tx ∧ fl_5 ≤ 4 ∧ rd2_5 ≤ 24 ∧ (fl_5 = 0 → rsOK rs_5) ∧ ((fl_5 = 0 ∧ fp2_5 = -1 ∧ ∃ k : Nat, tx - t_5 ≤ k ∧ stL ftext tx k t_5 (stM rd2_5 rs_5 ra_5 rb_5 ts2_5) = (stL ftext tx 240 0 st0)) ∨ (1 ≤ fl_5 ∧ (stL ftext tx 240 0 st0).1 = fl_5 ∧ ∃ pl : Nat, (stL ftext tx 240 0 st0).2.1 = pl ∧ fp2_5 = nI pl))) ∧ va_P D classes [(aI k (a 5) 240 ftext), (aI k (a 14) 24 ra_5), (aI k (a 15) 24 rb_5), (aI k (a 1) 3 (nF dn)), (aI k (a 2) 72 ffrees), (aI k (a 3) 72 fprices), (aI k (a 4) 27 (sg se tm gs)), ((a 0), .inr (8, (fX8 a (nI tx) fp2_5 (nI t_5) wd2_5 (nI we2_5) nu2_5 na2_5 (nI rd2_5) ts2_5 (nI ru) (nI rw) (nI ca) df db sd))), (aI k (a 16) 9 rs_5)] H ∧ va_D A [(aI k (a 5) 240 ftext), (aI k (a 14) 24 ra_5), (aI k (a 15) 24 rb_5), (aI k (a 1) 3 (nF dn)), (aI k (a 2) 72 ffrees), (aI k (a 3) 72 fprices), (aI k (a 4) 27 (sg se tm gs)), ((a 0), .inr (8, (fX8 a (nI tx) fp2_5 (nI t_5) wd2_5 (nI we2_5) nu2_5 na2_5 (nI rd2_5) ts2_5 (nI ru) (nI rw) (nI ca) df db sd))), (aI k (a 16) 9 rs_5)] ∧ va_S A s.heap H locs ∧ lv_has ls 4 [(2, .int (nI fl_5)), (0, .ref (a 0)), (1, .int (nI sn))]) (fun n_5 x_5 H locs ls hI ih_5 => ?_) _ (0, 0, wd, we, (-1), nu, na, 0, 0, freadFree, freadPrice, freadSingle__2) ⟨rfl, ⟨by omega, by omega, by omega, fun _ => hb_3.2, .inl ⟨rfl, rfl, 240, by omega, by rw [stM_0 hb_3.1]⟩⟩, hP, hD, hS, (lv_sub hl [0, 1, 2] rfl)⟩
    obtain ⟨fl_5, t_5, wd2_5, we2_5, fp2_5, nu2_5, na2_5, rd2_5, ts2_5, ra_5, rb_5, rs_5⟩ := x_5
    obtain ⟨hm_5, hv_5, hP, hD, hS, hl⟩ := hI
    subst hm_5
    refine lv_iload_n hx hb dX8_street_32 rfl (lv_at hl 0 rfl) ?_
    refine lv_if_ne (tgt := 51) hx hb dX8_street_33 (by decide) (fun c_6 => ?_) (fun c_6 => ?_)
    · have c_6 : ¬ (fl_5 = 0) := fun h => c_6 ((nI_eq (a := fl_5) (b := 0) (by omega) (by omega)).mpr h)
      obtain ⟨hfe_7, hge_7, pl_7, hpe_7, hpf_7⟩ : 1 ≤ fl_5 ∧ (stL ftext tx 240 0 st0).1 = fl_5 ∧ ∃ pl : Nat, (stL ftext tx 240 0 st0).2.1 = pl ∧ fp2_5 = nI pl := by rcases hv_5.2.2.2.2 with ⟨h, -⟩ | h; exact absurd h (by omega); exact h
      subst hpf_7
      refine lv_iload_n hx hb dX8_street_51 rfl (lv_at hl 0 rfl) ?_
      refine lv_if_ne (tgt := 74) hx hb dX8_street_52 (by decide) (fun _ => ?_) (fun h => absurd ((nI_eq (a := fl_5) (b := 0) (by omega) (by omega)).mp h) (by omega))
      refine lv_iload_n hx hb dX8_street_74 rfl (lv_at hl 0 rfl) ?_
      refine lv_istore_n (lv' := [(2, .int (nI fl_5)), (0, .ref (a 0)), (1, .int (nI sn))]) hx hb dX8_street_75 rfl hl (by decide) rfl (fun ls hl => ?_)
      refine lv_aload_n hx hb dX8_street_76 rfl (lv_at hl 1 rfl) ?_
      refine lv_iconst (v := 0) hx hb dX8_street_77 (by decide) ?_
      refine va_put (D := D) (ci := 8) (v := .int 0) (ty := .int) (C := RX8) (T := TX8) (N := 44) hx hb hts inX8 tyX8 tyX8_ok nmX8 hown hK hP hD hS 7 rfl rfl 5 (by decide) (hts _ tw_978) (fun _ h9 => h9) rfl (by decide +kernel) rfl rfl (Nat.le_of_ble_eq_true rfl) dX8_street_78 (fun H locs hP hD hS => ?_)
      replace hP : va_P D classes [(aI k (a 5) 240 ftext), (aI k (a 14) 24 ra_5), (aI k (a 15) 24 rb_5), (aI k (a 1) 3 (nF dn)), (aI k (a 2) 72 ffrees), (aI k (a 3) 72 fprices), (aI k (a 4) 27 (sg se tm gs)), ((a 0), .inr (8, (fX8 a 0 (nI pl_7) (nI t_5) wd2_5 (nI we2_5) nu2_5 na2_5 (nI rd2_5) ts2_5 (nI ru) (nI rw) (nI ca) df db sd))), (aI k (a 16) 9 rs_5)] H := hP
      replace hD : va_D A [(aI k (a 5) 240 ftext), (aI k (a 14) 24 ra_5), (aI k (a 15) 24 rb_5), (aI k (a 1) 3 (nF dn)), (aI k (a 2) 72 ffrees), (aI k (a 3) 72 fprices), (aI k (a 4) 27 (sg se tm gs)), ((a 0), .inr (8, (fX8 a 0 (nI pl_7) (nI t_5) wd2_5 (nI we2_5) nu2_5 na2_5 (nI rd2_5) ts2_5 (nI ru) (nI rw) (nI ca) df db sd))), (aI k (a 16) 9 rs_5)] := hD
      refine lv_iload_n hx hb dX8_street_81 rfl (lv_at hl 0 rfl) ?_
      refine lv_if_le (tgt := 90) hx hb dX8_street_82 (by decide) (fun h => absurd ((nI_leI (a := fl_5) (b := 0) (by omega) (by omega)).mp h) (by omega)) (fun _ => ?_)
      refine lv_bipush (v := (-10)) hx hb dX8_street_85 (by decide) ?_
      refine lv_iload_n hx hb dX8_street_87 rfl (lv_at hl 0 rfl) ?_
      refine lv_isub hx hb dX8_street_88 ?_
      refine lv_topi (fun x_10 ex_10 => ?_)
      have hP9 := hP.sub (ws' := [((a 0), .inr (8, (fX8 a 0 (nI pl_7) (nI t_5) wd2_5 (nI we2_5) nu2_5 na2_5 (nI rd2_5) ts2_5 (nI ru) (nI rw) (nI ca) df db sd))), (aI k (a 5) 240 ftext), (aI k (a 14) 24 ra_5), (aI k (a 15) 24 rb_5), (aI k (a 16) 9 rs_5), (aI k (a 1) 3 (nF dn)), (aI k (a 2) 72 ffrees), (aI k (a 3) 72 fprices), (aI k (a 4) 27 (sg se tm gs))]) [7, 0, 1, 2, 8, 3, 4, 5, 6] rfl
      have hD9 := hD.sub (ws' := [((a 0), .inr (8, (fX8 a 0 (nI pl_7) (nI t_5) wd2_5 (nI we2_5) nu2_5 na2_5 (nI rd2_5) ts2_5 (nI ru) (nI rw) (nI ca) df db sd))), (aI k (a 5) 240 ftext), (aI k (a 14) 24 ra_5), (aI k (a 15) 24 rb_5), (aI k (a 16) 9 rs_5), (aI k (a 1) 3 (nF dn)), (aI k (a 2) 72 ffrees), (aI k (a 3) 72 fprices), (aI k (a 4) 27 (sg se tm gs))]) [7, 0, 1, 2, 8, 3, 4, 5, 6] (by decide +kernel) rfl
      exact W.iret (v := x_10) hx hb hr (fun t ht hW => ⟨⟨x_10, (t_5, wd2_5, we2_5, (nI pl_7), nu2_5, na2_5, rd2_5, ts2_5, 0, ra_5, rb_5, rs_5, dn, ffrees, fprices, se, tm, gs), rfl, ⟨⟨(fun h => absurd hin_9 h), fun _ => ⟨rfl, .inl ⟨fl_5, pl_7, hfe_7, by omega, (sf_er hge_7 hfe_7 hpe_7).1, (sf_er hge_7 hfe_7 hpe_7).2, ex_10, rfl, fun _ => rfl⟩⟩⟩, by omega, hdn, hse, htm⟩, by rw [ht]; exact hP9, hD9⟩, hS.F ht⟩) hS.2.2 dX8_street_89
    · have c_6 := (nI_eq (a := fl_5) (b := 0) (by omega) (by omega)).mp c_6
      obtain ⟨hfm_11, k_11, hkk_11, hst_11⟩ : fp2_5 = -1 ∧ ∃ k : Nat, tx - t_5 ≤ k ∧ stL ftext tx k t_5 (stM rd2_5 rs_5 ra_5 rb_5 ts2_5) = (stL ftext tx 240 0 st0) := by rcases hv_5.2.2.2.2 with ⟨-, h⟩ | ⟨h, -⟩; exact h; exact absurd h (by omega)
      subst hfm_11
      refine lv_aload_n hx hb dX8_street_36 rfl (lv_at hl 1 rfl) ?_
      refine rw_i (D := D) (wr := [(aI k (a 14) 24 ra_5), (aI k (a 15) 24 rb_5), (aI k (a 1) 3 (nF dn)), (aI k (a 2) 72 ffrees), (aI k (a 3) 72 fprices), (aI k (a 4) 27 (sg se tm gs)), (aI k (a 16) 9 rs_5)]) (va_runV (As := []) (rest := []) ⟨hx, hb, hml, hown, hts⟩ ((n_here l D k st lo a tx t_5 we2_5 rd2_5 ru rw ca (-1) wd2_5 nu2_5 na2_5 ts2_5 df db sd ftext (by first | assumption | omega) (by first | assumption | omega)) H.size) (cwV 0 hts (gV tw_1120 tw_1122 tw_27 tw_87 tw_1123) rfl rfl rfl (by decide +kernel) ⟨Nat.le_of_ble_eq_true rfl, Nat.le_of_ble_eq_true rfl⟩) (pV hS hAlo hlo hP hK (va_Dlo hD hAlo) hZ [7, 0] (by decide) rfl (ci := 8) (q := (RX8, TX8, 44)) (q0 := 0) rfl rfl) rfl rfl hl.1 rfl (lv_room (Nat.le_of_ble_eq_true rfl)) dX8_street_37 ⟨Nat.le_of_ble_eq_true rfl, Nat.le_of_ble_eq_true rfl⟩) hS hA hP hD [7, 0] [1, 2, 3, 4, 5, 6, 8] rfl rfl (by decide) (by decide) (fun r_12 u H locs hw_12 hP hD hS => ?_)
      obtain ⟨t0__12, rfl⟩ : ∃ z, z = u := ⟨_, rfl⟩
      replace hP : va_P D classes [(aI k (a 14) 24 ra_5), (aI k (a 15) 24 rb_5), (aI k (a 1) 3 (nF dn)), (aI k (a 2) 72 ffrees), (aI k (a 3) 72 fprices), (aI k (a 4) 27 (sg se tm gs)), (aI k (a 16) 9 rs_5), ((a 0), .inr (8, (fX8 a (nI tx) (-1) (nI t0__12) wd2_5 (nI we2_5) nu2_5 na2_5 (nI rd2_5) ts2_5 (nI ru) (nI rw) (nI ca) df db sd))), (aI k (a 5) 240 ftext)] H := hP
      replace hD : va_D A [(aI k (a 14) 24 ra_5), (aI k (a 15) 24 rb_5), (aI k (a 1) 3 (nF dn)), (aI k (a 2) 72 ffrees), (aI k (a 3) 72 fprices), (aI k (a 4) 27 (sg se tm gs)), (aI k (a 16) 9 rs_5), ((a 0), .inr (8, (fX8 a (nI tx) (-1) (nI t0__12) wd2_5 (nI we2_5) nu2_5 na2_5 (nI rd2_5) ts2_5 (nI ru) (nI rw) (nI ca) df db sd))), (aI k (a 5) 240 ftext)] := hD
      try dsimp only at hw_12
      refine lv_if_lt (tgt := 51) hx hb dX8_street_40 (by decide) (fun c_13 => ?_) (fun c_13 => ?_)
      · have hend_14 : (stL ftext tx 240 0 st0) = (0, 0, stM rd2_5 rs_5 ra_5 rb_5 ts2_5) := hst_11.symm.trans (sl_end (show ¬ skA ftext tx t_5 < tx by rw [← hw_12.1]; exact by_neg hty hw_12.2.1 c_13))
        refine lv_iload_n hx hb dX8_street_51 rfl (lv_at hl 0 rfl) ?_
        refine lv_if_ne (tgt := 74) hx hb dX8_street_52 (by decide) (fun h => absurd ((nI_eq (a := fl_5) (b := 0) (by omega) (by omega)).mpr (by omega)) h) (fun _ => ?_)
        refine lv_aload_n hx hb dX8_street_55 rfl (lv_at hl 1 rfl) ?_
        refine va_get (D := D) (ci := 8) (v := .int (nI rd2_5)) (C := RX8) (T := TX8) (N := 44) hx hb hts inX8 hown hK hP 7 rfl rfl 12 (by decide) (hts _ tw_985) (fun _ h9 => h9) rfl dX8_street_56 ?_
        refine lv_if_ne (tgt := 74) hx hb dX8_street_59 (by decide) (fun c_16 => ?_) (fun c_16 => ?_)
        · have c_16 : ¬ (rd2_5 = 0) := fun h => c_16 ((nI_eq (a := rd2_5) (b := 0) (by omega) (by omega)).mpr h)
          refine lv_iload_n hx hb dX8_street_74 rfl (lv_at hl 0 rfl) ?_
          refine lv_istore_n (lv' := [(2, .int (nI fl_5)), (0, .ref (a 0)), (1, .int (nI sn))]) hx hb dX8_street_75 rfl hl (by decide) rfl (fun ls hl => ?_)
          refine lv_aload_n hx hb dX8_street_76 rfl (lv_at hl 1 rfl) ?_
          refine lv_iconst (v := 0) hx hb dX8_street_77 (by decide) ?_
          refine va_put (D := D) (ci := 8) (v := .int 0) (ty := .int) (C := RX8) (T := TX8) (N := 44) hx hb hts inX8 tyX8 tyX8_ok nmX8 hown hK hP hD hS 7 rfl rfl 5 (by decide) (hts _ tw_978) (fun _ h9 => h9) rfl (by decide +kernel) rfl rfl (Nat.le_of_ble_eq_true rfl) dX8_street_78 (fun H locs hP hD hS => ?_)
          replace hP : va_P D classes [(aI k (a 14) 24 ra_5), (aI k (a 15) 24 rb_5), (aI k (a 1) 3 (nF dn)), (aI k (a 2) 72 ffrees), (aI k (a 3) 72 fprices), (aI k (a 4) 27 (sg se tm gs)), (aI k (a 16) 9 rs_5), ((a 0), .inr (8, (fX8 a 0 (-1) (nI t0__12) wd2_5 (nI we2_5) nu2_5 na2_5 (nI rd2_5) ts2_5 (nI ru) (nI rw) (nI ca) df db sd))), (aI k (a 5) 240 ftext)] H := hP
          replace hD : va_D A [(aI k (a 14) 24 ra_5), (aI k (a 15) 24 rb_5), (aI k (a 1) 3 (nF dn)), (aI k (a 2) 72 ffrees), (aI k (a 3) 72 fprices), (aI k (a 4) 27 (sg se tm gs)), (aI k (a 16) 9 rs_5), ((a 0), .inr (8, (fX8 a 0 (-1) (nI t0__12) wd2_5 (nI we2_5) nu2_5 na2_5 (nI rd2_5) ts2_5 (nI ru) (nI rw) (nI ca) df db sd))), (aI k (a 5) 240 ftext)] := hD
          refine lv_iload_n hx hb dX8_street_81 rfl (lv_at hl 0 rfl) ?_
          refine lv_if_le (tgt := 90) hx hb dX8_street_82 (by decide) (fun _ => ?_) (fun h => absurd ((nI_leI (a := fl_5) (b := 0) (by omega) (by omega)).mpr (by omega)) h)
          obtain ⟨⟨ra_9, hra_9, era_9⟩, rb_9, hrb_9, erb_9⟩ := hv_5.2.2.2.1 (by omega)
          refine lv_aload_n hx hb dX8_street_90 rfl (lv_at hl 1 rfl) ?_
          refine va_get (D := D) (ci := 8) (v := .ref (a 1)) (C := RX8) (T := TX8) (N := 44) hx hb hts inX8 hown hK hP 7 rfl rfl 0 (by decide) (hts _ tw_973) (fun _ h9 => h9) rfl dX8_street_91 ?_
          refine lv_iload_n hx hb dX8_street_94 rfl (lv_at hl 2 rfl) ?_
          refine lv_aload_n hx hb dX8_street_95 rfl (lv_at hl 1 rfl) ?_
          refine va_get (D := D) (ci := 8) (v := .int (nI rd2_5)) (C := RX8) (T := TX8) (N := 44) hx hb hts inX8 hown hK hP 7 rfl rfl 12 (by decide) (hts _ tw_985) (fun _ h9 => h9) rfl dX8_street_96 ?_
          refine va_iast hx hb hK hP hD hS 2 1 rfl rfl (vp_in_nI (by omega) (by decide)) dX8_street_99 (fun H locs hP hD hS => ?_)
          replace hP : va_P D classes [(aI k (a 14) 24 ra_5), (aI k (a 15) 24 rb_5), (aI k (a 1) 3 (upd (nF dn) (Int32.toNatClampNeg (nI sn)) (nI rd2_5))), (aI k (a 2) 72 ffrees), (aI k (a 3) 72 fprices), (aI k (a 4) 27 (sg se tm gs)), (aI k (a 16) 9 rs_5), ((a 0), .inr (8, (fX8 a 0 (-1) (nI t0__12) wd2_5 (nI we2_5) nu2_5 na2_5 (nI rd2_5) ts2_5 (nI ru) (nI rw) (nI ca) df db sd))), (aI k (a 5) 240 ftext)] H := hP
          replace hD : va_D A [(aI k (a 14) 24 ra_5), (aI k (a 15) 24 rb_5), (aI k (a 1) 3 (upd (nF dn) (Int32.toNatClampNeg (nI sn)) (nI rd2_5))), (aI k (a 2) 72 ffrees), (aI k (a 3) 72 fprices), (aI k (a 4) 27 (sg se tm gs)), (aI k (a 16) 9 rs_5), ((a 0), .inr (8, (fX8 a 0 (-1) (nI t0__12) wd2_5 (nI we2_5) nu2_5 na2_5 (nI rd2_5) ts2_5 (nI ru) (nI rw) (nI ca) df db sd))), (aI k (a 5) 240 ftext)] := hD
          rw [nI_clamp (n := sn) (by omega)] at hP hD
          rw [show upd (nF dn) sn (nI rd2_5) = nF (fun j => if j = sn then rd2_5 else dn j) from nF_upd _ _ _] at hP hD
          obtain ⟨d_18, hd_18⟩ : ∃ z : Nat → Nat, z = (fun j => if j = sn then rd2_5 else dn j) := ⟨_, rfl⟩
          rw [← hd_18] at hP hD
          refine lv_iconst (v := 0) hx hb dX8_street_100 (by decide) ?_
          refine lv_istore_n (lv' := [(3, .int 0), (2, .int (nI fl_5)), (0, .ref (a 0)), (1, .int (nI sn))]) hx hb dX8_street_101 rfl hl (by decide) rfl (fun ls hl => ?_)
          refine W_loop (σ := Nat × (Nat → Int32) × (Nat → Int32)) (fun (n_ : Nat) (x_ : Nat × (Nat → Int32) × (Nat → Int32)) (H : Heap) (locs : List Loc) (ls : Array Slot) => match x_ with | (ic_19, fr2_19, pr2_19) => n_ = rd2_5 - ic_19 ∧ (ic_19 ≤ rd2_5 ∧ (∀ j, fr2_19 j = if 24 * sn ≤ j ∧ j < 24 * sn + ic_19 then ra_5 (j - 24 * sn) else ffrees j) ∧ (∀ j, pr2_19 j = if 24 * sn ≤ j ∧ j < 24 * sn + ic_19 then rb_5 (j - 24 * sn) else fprices j)) ∧ va_P D classes [(aI k (a 14) 24 ra_5), (aI k (a 15) 24 rb_5), (aI k (a 1) 3 (nF d_18)), (aI k (a 2) 72 fr2_19), (aI k (a 3) 72 pr2_19), (aI k (a 4) 27 (sg se tm gs)), (aI k (a 16) 9 rs_5), ((a 0), .inr (8, (fX8 a 0 (-1) (nI t0__12) wd2_5 (nI we2_5) nu2_5 na2_5 (nI rd2_5) ts2_5 (nI ru) (nI rw) (nI ca) df db sd))), (aI k (a 5) 240 ftext)] H ∧ va_D A [(aI k (a 14) 24 ra_5), (aI k (a 15) 24 rb_5), (aI k (a 1) 3 (nF d_18)), (aI k (a 2) 72 fr2_19), (aI k (a 3) 72 pr2_19), (aI k (a 4) 27 (sg se tm gs)), (aI k (a 16) 9 rs_5), ((a 0), .inr (8, (fX8 a 0 (-1) (nI t0__12) wd2_5 (nI we2_5) nu2_5 na2_5 (nI rd2_5) ts2_5 (nI ru) (nI rw) (nI ca) df db sd))), (aI k (a 5) 240 ftext)] ∧ va_S A s.heap H locs ∧ lv_has ls 4 [(3, .int (nI ic_19)), (2, .int (nI fl_5)), (0, .ref (a 0)), (1, .int (nI sn))]) (fun n_19 x_19 H locs ls hI ih_19 => ?_) _ (0, ffrees, fprices) ⟨rfl, ⟨by omega, fun j => by rw [if_neg (by omega)], fun j => by rw [if_neg (by omega)]⟩, hP, hD, hS, (lv_sub hl [0, 1, 2, 3] rfl)⟩
          obtain ⟨ic_19, fr2_19, pr2_19⟩ := x_19
          obtain ⟨hm_19, hv_19, hP, hD, hS, hl⟩ := hI
          subst hm_19
          refine lv_iload_n hx hb dX8_street_102 rfl (lv_at hl 0 rfl) ?_
          refine lv_aload_n hx hb dX8_street_103 rfl (lv_at hl 2 rfl) ?_
          refine va_get (D := D) (ci := 8) (v := .int (nI rd2_5)) (C := RX8) (T := TX8) (N := 44) hx hb hts inX8 hown hK hP 7 rfl rfl 12 (by decide) (hts _ tw_985) (fun _ h9 => h9) rfl dX8_street_104 ?_
          refine lv_icmp_ge (tgt := 150) hx hb dX8_street_107 (by decide) (fun c_20 => ?_) (fun c_20 => ?_)
          · have c_20 := (nI_leI (a := rd2_5) (b := ic_19) (by omega) (by omega)).mp c_20
            refine lv_iconst (v := 0) hx hb dX8_street_150 (by decide) ?_
            refine lv_istore_n (lv' := [(3, .int 0), (2, .int (nI fl_5)), (0, .ref (a 0)), (1, .int (nI sn))]) hx hb dX8_street_151 rfl hl (by decide) rfl (fun ls hl => ?_)
            refine lv_iload_n hx hb dX8_street_152 rfl (lv_at hl 0 rfl) ?_
            refine lv_bipush (v := 9) hx hb dX8_street_153 (by decide) ?_
            refine lv_icmp_ge (tgt := 181) hx hb dX8_street_155 (by decide) (fun h => absurd h (by decide)) (fun _ => ?_)
            refine lv_aload_n hx hb dX8_street_158 rfl (lv_at hl 2 rfl) ?_
            refine va_get (D := D) (ci := 8) (v := .ref (a 4)) (C := RX8) (T := TX8) (N := 44) hx hb hts inX8 hown hK hP 7 rfl rfl 3 (by decide) (hts _ tw_976) (fun _ h9 => h9) rfl dX8_street_159 ?_
            refine lv_bipush (v := 9) hx hb dX8_street_162 (by decide) ?_
            refine lv_iload_n hx hb dX8_street_164 rfl (lv_at hl 3 rfl) ?_
            refine lv_imul hx hb dX8_street_165 ?_
            refine lv_ti (y := (nI (9 * sn))) (pk_mul 9 sn) ?_
            refine lv_iload_n hx hb dX8_street_166 rfl (lv_at hl 0 rfl) ?_
            refine lv_iadd hx hb dX8_street_167 ?_
            refine lv_ti (y := (nI (9 * sn + 0))) (nI_add (9 * sn) 0) ?_
            refine lv_aload_n hx hb dX8_street_168 rfl (lv_at hl 2 rfl) ?_
            refine va_get (D := D) (ci := 8) (v := .ref (a 16)) (C := RX8) (T := TX8) (N := 44) hx hb hts inX8 hown hK hP 7 rfl rfl 15 (by decide) (hts _ tw_988) (fun _ h9 => h9) rfl dX8_street_169 ?_
            refine lv_iload_n hx hb dX8_street_172 rfl (lv_at hl 0 rfl) ?_
            refine va_iald hx hb hK hP 6 1 rfl rfl (by unfold vp_in; decide) dX8_street_173 ?_
            refine lv_ti (y := (rs_5 0)) (by rfl) ?_
            refine va_iast hx hb hK hP hD hS 5 1 rfl rfl (vp_in_nI (by omega) (by decide)) dX8_street_174 (fun H locs hP hD hS => ?_)
            replace hP : va_P D classes [(aI k (a 14) 24 ra_5), (aI k (a 15) 24 rb_5), (aI k (a 1) 3 (nF d_18)), (aI k (a 2) 72 fr2_19), (aI k (a 3) 72 pr2_19), (aI k (a 4) 27 (upd (sg se tm gs) (Int32.toNatClampNeg (nI (9 * sn + 0))) (rs_5 0))), (aI k (a 16) 9 rs_5), ((a 0), .inr (8, (fX8 a 0 (-1) (nI t0__12) wd2_5 (nI we2_5) nu2_5 na2_5 (nI rd2_5) ts2_5 (nI ru) (nI rw) (nI ca) df db sd))), (aI k (a 5) 240 ftext)] H := hP
            replace hD : va_D A [(aI k (a 14) 24 ra_5), (aI k (a 15) 24 rb_5), (aI k (a 1) 3 (nF d_18)), (aI k (a 2) 72 fr2_19), (aI k (a 3) 72 pr2_19), (aI k (a 4) 27 (upd (sg se tm gs) (Int32.toNatClampNeg (nI (9 * sn + 0))) (rs_5 0))), (aI k (a 16) 9 rs_5), ((a 0), .inr (8, (fX8 a 0 (-1) (nI t0__12) wd2_5 (nI we2_5) nu2_5 na2_5 (nI rd2_5) ts2_5 (nI ru) (nI rw) (nI ca) df db sd))), (aI k (a 5) 240 ftext)] := hD
            rw [nI_clamp (n := (9 * sn + 0)) (by omega)] at hP hD
            have hsg_22 := sg_upd se tm gs (9 * sn + 0) (rs_5 0) (by omega) (by omega)
            rw [hsg_22] at hP hD
            generalize upd gs (9 * sn + 0) (rs_5 0) = gs_22 at hP hD hsg_22
            replace hP : va_P D classes [(aI k (a 14) 24 ra_5), (aI k (a 15) 24 rb_5), (aI k (a 1) 3 (nF d_18)), (aI k (a 2) 72 fr2_19), (aI k (a 3) 72 pr2_19), (aI k (a 4) 27 (sg se tm gs_22)), (aI k (a 16) 9 rs_5), ((a 0), .inr (8, (fX8 a 0 (-1) (nI t0__12) wd2_5 (nI we2_5) nu2_5 na2_5 (nI rd2_5) ts2_5 (nI ru) (nI rw) (nI ca) df db sd))), (aI k (a 5) 240 ftext)] H := hP
            replace hD : va_D A [(aI k (a 14) 24 ra_5), (aI k (a 15) 24 rb_5), (aI k (a 1) 3 (nF d_18)), (aI k (a 2) 72 fr2_19), (aI k (a 3) 72 pr2_19), (aI k (a 4) 27 (sg se tm gs_22)), (aI k (a 16) 9 rs_5), ((a 0), .inr (8, (fX8 a 0 (-1) (nI t0__12) wd2_5 (nI we2_5) nu2_5 na2_5 (nI rd2_5) ts2_5 (nI ru) (nI rw) (nI ca) df db sd))), (aI k (a 5) 240 ftext)] := hD
            refine lv_iinc (v := 1) (lv' := [(3, .int 1), (2, .int (nI fl_5)), (0, .ref (a 0)), (1, .int (nI sn))]) hx hb dX8_street_175 hl (k := 0) rfl (by decide) (by decide) rfl (fun ls hl => ?_)
            refine lv_goto (tgt := 152) hx hb dX8_street_178 (by decide) ?_
            refine lv_iload_n hx hb dX8_street_152 rfl (lv_at hl 0 rfl) ?_
            refine lv_bipush (v := 9) hx hb dX8_street_153 (by decide) ?_
            refine lv_icmp_ge (tgt := 181) hx hb dX8_street_155 (by decide) (fun h => absurd h (by decide)) (fun _ => ?_)
            refine lv_aload_n hx hb dX8_street_158 rfl (lv_at hl 2 rfl) ?_
            refine va_get (D := D) (ci := 8) (v := .ref (a 4)) (C := RX8) (T := TX8) (N := 44) hx hb hts inX8 hown hK hP 7 rfl rfl 3 (by decide) (hts _ tw_976) (fun _ h9 => h9) rfl dX8_street_159 ?_
            refine lv_bipush (v := 9) hx hb dX8_street_162 (by decide) ?_
            refine lv_iload_n hx hb dX8_street_164 rfl (lv_at hl 3 rfl) ?_
            refine lv_imul hx hb dX8_street_165 ?_
            refine lv_ti (y := (nI (9 * sn))) (pk_mul 9 sn) ?_
            refine lv_iload_n hx hb dX8_street_166 rfl (lv_at hl 0 rfl) ?_
            refine lv_iadd hx hb dX8_street_167 ?_
            refine lv_ti (y := (nI (9 * sn + 1))) (nI_add (9 * sn) 1) ?_
            refine lv_aload_n hx hb dX8_street_168 rfl (lv_at hl 2 rfl) ?_
            refine va_get (D := D) (ci := 8) (v := .ref (a 16)) (C := RX8) (T := TX8) (N := 44) hx hb hts inX8 hown hK hP 7 rfl rfl 15 (by decide) (hts _ tw_988) (fun _ h9 => h9) rfl dX8_street_169 ?_
            refine lv_iload_n hx hb dX8_street_172 rfl (lv_at hl 0 rfl) ?_
            refine va_iald hx hb hK hP 6 1 rfl rfl (by unfold vp_in; decide) dX8_street_173 ?_
            refine lv_ti (y := (rs_5 1)) (by rfl) ?_
            refine va_iast hx hb hK hP hD hS 5 1 rfl rfl (vp_in_nI (by omega) (by decide)) dX8_street_174 (fun H locs hP hD hS => ?_)
            replace hP : va_P D classes [(aI k (a 14) 24 ra_5), (aI k (a 15) 24 rb_5), (aI k (a 1) 3 (nF d_18)), (aI k (a 2) 72 fr2_19), (aI k (a 3) 72 pr2_19), (aI k (a 4) 27 (upd (sg se tm gs_22) (Int32.toNatClampNeg (nI (9 * sn + 1))) (rs_5 1))), (aI k (a 16) 9 rs_5), ((a 0), .inr (8, (fX8 a 0 (-1) (nI t0__12) wd2_5 (nI we2_5) nu2_5 na2_5 (nI rd2_5) ts2_5 (nI ru) (nI rw) (nI ca) df db sd))), (aI k (a 5) 240 ftext)] H := hP
            replace hD : va_D A [(aI k (a 14) 24 ra_5), (aI k (a 15) 24 rb_5), (aI k (a 1) 3 (nF d_18)), (aI k (a 2) 72 fr2_19), (aI k (a 3) 72 pr2_19), (aI k (a 4) 27 (upd (sg se tm gs_22) (Int32.toNatClampNeg (nI (9 * sn + 1))) (rs_5 1))), (aI k (a 16) 9 rs_5), ((a 0), .inr (8, (fX8 a 0 (-1) (nI t0__12) wd2_5 (nI we2_5) nu2_5 na2_5 (nI rd2_5) ts2_5 (nI ru) (nI rw) (nI ca) df db sd))), (aI k (a 5) 240 ftext)] := hD
            rw [nI_clamp (n := (9 * sn + 1)) (by omega)] at hP hD
            have hsg_24 := sg_upd se tm gs_22 (9 * sn + 1) (rs_5 1) (by omega) (by omega)
            rw [hsg_24] at hP hD
            generalize upd gs_22 (9 * sn + 1) (rs_5 1) = gs_24 at hP hD hsg_24
            replace hP : va_P D classes [(aI k (a 14) 24 ra_5), (aI k (a 15) 24 rb_5), (aI k (a 1) 3 (nF d_18)), (aI k (a 2) 72 fr2_19), (aI k (a 3) 72 pr2_19), (aI k (a 4) 27 (sg se tm gs_24)), (aI k (a 16) 9 rs_5), ((a 0), .inr (8, (fX8 a 0 (-1) (nI t0__12) wd2_5 (nI we2_5) nu2_5 na2_5 (nI rd2_5) ts2_5 (nI ru) (nI rw) (nI ca) df db sd))), (aI k (a 5) 240 ftext)] H := hP
            replace hD : va_D A [(aI k (a 14) 24 ra_5), (aI k (a 15) 24 rb_5), (aI k (a 1) 3 (nF d_18)), (aI k (a 2) 72 fr2_19), (aI k (a 3) 72 pr2_19), (aI k (a 4) 27 (sg se tm gs_24)), (aI k (a 16) 9 rs_5), ((a 0), .inr (8, (fX8 a 0 (-1) (nI t0__12) wd2_5 (nI we2_5) nu2_5 na2_5 (nI rd2_5) ts2_5 (nI ru) (nI rw) (nI ca) df db sd))), (aI k (a 5) 240 ftext)] := hD
            refine lv_iinc (v := 2) (lv' := [(3, .int 2), (2, .int (nI fl_5)), (0, .ref (a 0)), (1, .int (nI sn))]) hx hb dX8_street_175 hl (k := 0) rfl (by decide) (by decide) rfl (fun ls hl => ?_)
            refine lv_goto (tgt := 152) hx hb dX8_street_178 (by decide) ?_
            refine lv_iload_n hx hb dX8_street_152 rfl (lv_at hl 0 rfl) ?_
            refine lv_bipush (v := 9) hx hb dX8_street_153 (by decide) ?_
            refine lv_icmp_ge (tgt := 181) hx hb dX8_street_155 (by decide) (fun h => absurd h (by decide)) (fun _ => ?_)
            refine lv_aload_n hx hb dX8_street_158 rfl (lv_at hl 2 rfl) ?_
            refine va_get (D := D) (ci := 8) (v := .ref (a 4)) (C := RX8) (T := TX8) (N := 44) hx hb hts inX8 hown hK hP 7 rfl rfl 3 (by decide) (hts _ tw_976) (fun _ h9 => h9) rfl dX8_street_159 ?_
            refine lv_bipush (v := 9) hx hb dX8_street_162 (by decide) ?_
            refine lv_iload_n hx hb dX8_street_164 rfl (lv_at hl 3 rfl) ?_
            refine lv_imul hx hb dX8_street_165 ?_
            refine lv_ti (y := (nI (9 * sn))) (pk_mul 9 sn) ?_
            refine lv_iload_n hx hb dX8_street_166 rfl (lv_at hl 0 rfl) ?_
            refine lv_iadd hx hb dX8_street_167 ?_
            refine lv_ti (y := (nI (9 * sn + 2))) (nI_add (9 * sn) 2) ?_
            refine lv_aload_n hx hb dX8_street_168 rfl (lv_at hl 2 rfl) ?_
            refine va_get (D := D) (ci := 8) (v := .ref (a 16)) (C := RX8) (T := TX8) (N := 44) hx hb hts inX8 hown hK hP 7 rfl rfl 15 (by decide) (hts _ tw_988) (fun _ h9 => h9) rfl dX8_street_169 ?_
            refine lv_iload_n hx hb dX8_street_172 rfl (lv_at hl 0 rfl) ?_
            refine va_iald hx hb hK hP 6 1 rfl rfl (by unfold vp_in; decide) dX8_street_173 ?_
            refine lv_ti (y := (rs_5 2)) (by rfl) ?_
            refine va_iast hx hb hK hP hD hS 5 1 rfl rfl (vp_in_nI (by omega) (by decide)) dX8_street_174 (fun H locs hP hD hS => ?_)
            replace hP : va_P D classes [(aI k (a 14) 24 ra_5), (aI k (a 15) 24 rb_5), (aI k (a 1) 3 (nF d_18)), (aI k (a 2) 72 fr2_19), (aI k (a 3) 72 pr2_19), (aI k (a 4) 27 (upd (sg se tm gs_24) (Int32.toNatClampNeg (nI (9 * sn + 2))) (rs_5 2))), (aI k (a 16) 9 rs_5), ((a 0), .inr (8, (fX8 a 0 (-1) (nI t0__12) wd2_5 (nI we2_5) nu2_5 na2_5 (nI rd2_5) ts2_5 (nI ru) (nI rw) (nI ca) df db sd))), (aI k (a 5) 240 ftext)] H := hP
            replace hD : va_D A [(aI k (a 14) 24 ra_5), (aI k (a 15) 24 rb_5), (aI k (a 1) 3 (nF d_18)), (aI k (a 2) 72 fr2_19), (aI k (a 3) 72 pr2_19), (aI k (a 4) 27 (upd (sg se tm gs_24) (Int32.toNatClampNeg (nI (9 * sn + 2))) (rs_5 2))), (aI k (a 16) 9 rs_5), ((a 0), .inr (8, (fX8 a 0 (-1) (nI t0__12) wd2_5 (nI we2_5) nu2_5 na2_5 (nI rd2_5) ts2_5 (nI ru) (nI rw) (nI ca) df db sd))), (aI k (a 5) 240 ftext)] := hD
            rw [nI_clamp (n := (9 * sn + 2)) (by omega)] at hP hD
            have hsg_26 := sg_upd se tm gs_24 (9 * sn + 2) (rs_5 2) (by omega) (by omega)
            rw [hsg_26] at hP hD
            generalize upd gs_24 (9 * sn + 2) (rs_5 2) = gs_26 at hP hD hsg_26
            replace hP : va_P D classes [(aI k (a 14) 24 ra_5), (aI k (a 15) 24 rb_5), (aI k (a 1) 3 (nF d_18)), (aI k (a 2) 72 fr2_19), (aI k (a 3) 72 pr2_19), (aI k (a 4) 27 (sg se tm gs_26)), (aI k (a 16) 9 rs_5), ((a 0), .inr (8, (fX8 a 0 (-1) (nI t0__12) wd2_5 (nI we2_5) nu2_5 na2_5 (nI rd2_5) ts2_5 (nI ru) (nI rw) (nI ca) df db sd))), (aI k (a 5) 240 ftext)] H := hP
            replace hD : va_D A [(aI k (a 14) 24 ra_5), (aI k (a 15) 24 rb_5), (aI k (a 1) 3 (nF d_18)), (aI k (a 2) 72 fr2_19), (aI k (a 3) 72 pr2_19), (aI k (a 4) 27 (sg se tm gs_26)), (aI k (a 16) 9 rs_5), ((a 0), .inr (8, (fX8 a 0 (-1) (nI t0__12) wd2_5 (nI we2_5) nu2_5 na2_5 (nI rd2_5) ts2_5 (nI ru) (nI rw) (nI ca) df db sd))), (aI k (a 5) 240 ftext)] := hD
            refine lv_iinc (v := 3) (lv' := [(3, .int 3), (2, .int (nI fl_5)), (0, .ref (a 0)), (1, .int (nI sn))]) hx hb dX8_street_175 hl (k := 0) rfl (by decide) (by decide) rfl (fun ls hl => ?_)
            refine lv_goto (tgt := 152) hx hb dX8_street_178 (by decide) ?_
            refine lv_iload_n hx hb dX8_street_152 rfl (lv_at hl 0 rfl) ?_
            refine lv_bipush (v := 9) hx hb dX8_street_153 (by decide) ?_
            refine lv_icmp_ge (tgt := 181) hx hb dX8_street_155 (by decide) (fun h => absurd h (by decide)) (fun _ => ?_)
            refine lv_aload_n hx hb dX8_street_158 rfl (lv_at hl 2 rfl) ?_
            refine va_get (D := D) (ci := 8) (v := .ref (a 4)) (C := RX8) (T := TX8) (N := 44) hx hb hts inX8 hown hK hP 7 rfl rfl 3 (by decide) (hts _ tw_976) (fun _ h9 => h9) rfl dX8_street_159 ?_
            refine lv_bipush (v := 9) hx hb dX8_street_162 (by decide) ?_
            refine lv_iload_n hx hb dX8_street_164 rfl (lv_at hl 3 rfl) ?_
            refine lv_imul hx hb dX8_street_165 ?_
            refine lv_ti (y := (nI (9 * sn))) (pk_mul 9 sn) ?_
            refine lv_iload_n hx hb dX8_street_166 rfl (lv_at hl 0 rfl) ?_
            refine lv_iadd hx hb dX8_street_167 ?_
            refine lv_ti (y := (nI (9 * sn + 3))) (nI_add (9 * sn) 3) ?_
            refine lv_aload_n hx hb dX8_street_168 rfl (lv_at hl 2 rfl) ?_
            refine va_get (D := D) (ci := 8) (v := .ref (a 16)) (C := RX8) (T := TX8) (N := 44) hx hb hts inX8 hown hK hP 7 rfl rfl 15 (by decide) (hts _ tw_988) (fun _ h9 => h9) rfl dX8_street_169 ?_
            refine lv_iload_n hx hb dX8_street_172 rfl (lv_at hl 0 rfl) ?_
            refine va_iald hx hb hK hP 6 1 rfl rfl (by unfold vp_in; decide) dX8_street_173 ?_
            refine lv_ti (y := (rs_5 3)) (by rfl) ?_
            refine va_iast hx hb hK hP hD hS 5 1 rfl rfl (vp_in_nI (by omega) (by decide)) dX8_street_174 (fun H locs hP hD hS => ?_)
            replace hP : va_P D classes [(aI k (a 14) 24 ra_5), (aI k (a 15) 24 rb_5), (aI k (a 1) 3 (nF d_18)), (aI k (a 2) 72 fr2_19), (aI k (a 3) 72 pr2_19), (aI k (a 4) 27 (upd (sg se tm gs_26) (Int32.toNatClampNeg (nI (9 * sn + 3))) (rs_5 3))), (aI k (a 16) 9 rs_5), ((a 0), .inr (8, (fX8 a 0 (-1) (nI t0__12) wd2_5 (nI we2_5) nu2_5 na2_5 (nI rd2_5) ts2_5 (nI ru) (nI rw) (nI ca) df db sd))), (aI k (a 5) 240 ftext)] H := hP
            replace hD : va_D A [(aI k (a 14) 24 ra_5), (aI k (a 15) 24 rb_5), (aI k (a 1) 3 (nF d_18)), (aI k (a 2) 72 fr2_19), (aI k (a 3) 72 pr2_19), (aI k (a 4) 27 (upd (sg se tm gs_26) (Int32.toNatClampNeg (nI (9 * sn + 3))) (rs_5 3))), (aI k (a 16) 9 rs_5), ((a 0), .inr (8, (fX8 a 0 (-1) (nI t0__12) wd2_5 (nI we2_5) nu2_5 na2_5 (nI rd2_5) ts2_5 (nI ru) (nI rw) (nI ca) df db sd))), (aI k (a 5) 240 ftext)] := hD
            rw [nI_clamp (n := (9 * sn + 3)) (by omega)] at hP hD
            have hsg_28 := sg_upd se tm gs_26 (9 * sn + 3) (rs_5 3) (by omega) (by omega)
            rw [hsg_28] at hP hD
            generalize upd gs_26 (9 * sn + 3) (rs_5 3) = gs_28 at hP hD hsg_28
            replace hP : va_P D classes [(aI k (a 14) 24 ra_5), (aI k (a 15) 24 rb_5), (aI k (a 1) 3 (nF d_18)), (aI k (a 2) 72 fr2_19), (aI k (a 3) 72 pr2_19), (aI k (a 4) 27 (sg se tm gs_28)), (aI k (a 16) 9 rs_5), ((a 0), .inr (8, (fX8 a 0 (-1) (nI t0__12) wd2_5 (nI we2_5) nu2_5 na2_5 (nI rd2_5) ts2_5 (nI ru) (nI rw) (nI ca) df db sd))), (aI k (a 5) 240 ftext)] H := hP
            replace hD : va_D A [(aI k (a 14) 24 ra_5), (aI k (a 15) 24 rb_5), (aI k (a 1) 3 (nF d_18)), (aI k (a 2) 72 fr2_19), (aI k (a 3) 72 pr2_19), (aI k (a 4) 27 (sg se tm gs_28)), (aI k (a 16) 9 rs_5), ((a 0), .inr (8, (fX8 a 0 (-1) (nI t0__12) wd2_5 (nI we2_5) nu2_5 na2_5 (nI rd2_5) ts2_5 (nI ru) (nI rw) (nI ca) df db sd))), (aI k (a 5) 240 ftext)] := hD
            refine lv_iinc (v := 4) (lv' := [(3, .int 4), (2, .int (nI fl_5)), (0, .ref (a 0)), (1, .int (nI sn))]) hx hb dX8_street_175 hl (k := 0) rfl (by decide) (by decide) rfl (fun ls hl => ?_)
            refine lv_goto (tgt := 152) hx hb dX8_street_178 (by decide) ?_
            refine lv_iload_n hx hb dX8_street_152 rfl (lv_at hl 0 rfl) ?_
            refine lv_bipush (v := 9) hx hb dX8_street_153 (by decide) ?_
            refine lv_icmp_ge (tgt := 181) hx hb dX8_street_155 (by decide) (fun h => absurd h (by decide)) (fun _ => ?_)
            refine lv_aload_n hx hb dX8_street_158 rfl (lv_at hl 2 rfl) ?_
            refine va_get (D := D) (ci := 8) (v := .ref (a 4)) (C := RX8) (T := TX8) (N := 44) hx hb hts inX8 hown hK hP 7 rfl rfl 3 (by decide) (hts _ tw_976) (fun _ h9 => h9) rfl dX8_street_159 ?_
            refine lv_bipush (v := 9) hx hb dX8_street_162 (by decide) ?_
            refine lv_iload_n hx hb dX8_street_164 rfl (lv_at hl 3 rfl) ?_
            refine lv_imul hx hb dX8_street_165 ?_
            refine lv_ti (y := (nI (9 * sn))) (pk_mul 9 sn) ?_
            refine lv_iload_n hx hb dX8_street_166 rfl (lv_at hl 0 rfl) ?_
            refine lv_iadd hx hb dX8_street_167 ?_
            refine lv_ti (y := (nI (9 * sn + 4))) (nI_add (9 * sn) 4) ?_
            refine lv_aload_n hx hb dX8_street_168 rfl (lv_at hl 2 rfl) ?_
            refine va_get (D := D) (ci := 8) (v := .ref (a 16)) (C := RX8) (T := TX8) (N := 44) hx hb hts inX8 hown hK hP 7 rfl rfl 15 (by decide) (hts _ tw_988) (fun _ h9 => h9) rfl dX8_street_169 ?_
            refine lv_iload_n hx hb dX8_street_172 rfl (lv_at hl 0 rfl) ?_
            refine va_iald hx hb hK hP 6 1 rfl rfl (by unfold vp_in; decide) dX8_street_173 ?_
            refine lv_ti (y := (rs_5 4)) (by rfl) ?_
            refine va_iast hx hb hK hP hD hS 5 1 rfl rfl (vp_in_nI (by omega) (by decide)) dX8_street_174 (fun H locs hP hD hS => ?_)
            replace hP : va_P D classes [(aI k (a 14) 24 ra_5), (aI k (a 15) 24 rb_5), (aI k (a 1) 3 (nF d_18)), (aI k (a 2) 72 fr2_19), (aI k (a 3) 72 pr2_19), (aI k (a 4) 27 (upd (sg se tm gs_28) (Int32.toNatClampNeg (nI (9 * sn + 4))) (rs_5 4))), (aI k (a 16) 9 rs_5), ((a 0), .inr (8, (fX8 a 0 (-1) (nI t0__12) wd2_5 (nI we2_5) nu2_5 na2_5 (nI rd2_5) ts2_5 (nI ru) (nI rw) (nI ca) df db sd))), (aI k (a 5) 240 ftext)] H := hP
            replace hD : va_D A [(aI k (a 14) 24 ra_5), (aI k (a 15) 24 rb_5), (aI k (a 1) 3 (nF d_18)), (aI k (a 2) 72 fr2_19), (aI k (a 3) 72 pr2_19), (aI k (a 4) 27 (upd (sg se tm gs_28) (Int32.toNatClampNeg (nI (9 * sn + 4))) (rs_5 4))), (aI k (a 16) 9 rs_5), ((a 0), .inr (8, (fX8 a 0 (-1) (nI t0__12) wd2_5 (nI we2_5) nu2_5 na2_5 (nI rd2_5) ts2_5 (nI ru) (nI rw) (nI ca) df db sd))), (aI k (a 5) 240 ftext)] := hD
            rw [nI_clamp (n := (9 * sn + 4)) (by omega)] at hP hD
            have hsg_30 := sg_upd se tm gs_28 (9 * sn + 4) (rs_5 4) (by omega) (by omega)
            rw [hsg_30] at hP hD
            generalize upd gs_28 (9 * sn + 4) (rs_5 4) = gs_30 at hP hD hsg_30
            replace hP : va_P D classes [(aI k (a 14) 24 ra_5), (aI k (a 15) 24 rb_5), (aI k (a 1) 3 (nF d_18)), (aI k (a 2) 72 fr2_19), (aI k (a 3) 72 pr2_19), (aI k (a 4) 27 (sg se tm gs_30)), (aI k (a 16) 9 rs_5), ((a 0), .inr (8, (fX8 a 0 (-1) (nI t0__12) wd2_5 (nI we2_5) nu2_5 na2_5 (nI rd2_5) ts2_5 (nI ru) (nI rw) (nI ca) df db sd))), (aI k (a 5) 240 ftext)] H := hP
            replace hD : va_D A [(aI k (a 14) 24 ra_5), (aI k (a 15) 24 rb_5), (aI k (a 1) 3 (nF d_18)), (aI k (a 2) 72 fr2_19), (aI k (a 3) 72 pr2_19), (aI k (a 4) 27 (sg se tm gs_30)), (aI k (a 16) 9 rs_5), ((a 0), .inr (8, (fX8 a 0 (-1) (nI t0__12) wd2_5 (nI we2_5) nu2_5 na2_5 (nI rd2_5) ts2_5 (nI ru) (nI rw) (nI ca) df db sd))), (aI k (a 5) 240 ftext)] := hD
            refine lv_iinc (v := 5) (lv' := [(3, .int 5), (2, .int (nI fl_5)), (0, .ref (a 0)), (1, .int (nI sn))]) hx hb dX8_street_175 hl (k := 0) rfl (by decide) (by decide) rfl (fun ls hl => ?_)
            refine lv_goto (tgt := 152) hx hb dX8_street_178 (by decide) ?_
            refine lv_iload_n hx hb dX8_street_152 rfl (lv_at hl 0 rfl) ?_
            refine lv_bipush (v := 9) hx hb dX8_street_153 (by decide) ?_
            refine lv_icmp_ge (tgt := 181) hx hb dX8_street_155 (by decide) (fun h => absurd h (by decide)) (fun _ => ?_)
            refine lv_aload_n hx hb dX8_street_158 rfl (lv_at hl 2 rfl) ?_
            refine va_get (D := D) (ci := 8) (v := .ref (a 4)) (C := RX8) (T := TX8) (N := 44) hx hb hts inX8 hown hK hP 7 rfl rfl 3 (by decide) (hts _ tw_976) (fun _ h9 => h9) rfl dX8_street_159 ?_
            refine lv_bipush (v := 9) hx hb dX8_street_162 (by decide) ?_
            refine lv_iload_n hx hb dX8_street_164 rfl (lv_at hl 3 rfl) ?_
            refine lv_imul hx hb dX8_street_165 ?_
            refine lv_ti (y := (nI (9 * sn))) (pk_mul 9 sn) ?_
            refine lv_iload_n hx hb dX8_street_166 rfl (lv_at hl 0 rfl) ?_
            refine lv_iadd hx hb dX8_street_167 ?_
            refine lv_ti (y := (nI (9 * sn + 5))) (nI_add (9 * sn) 5) ?_
            refine lv_aload_n hx hb dX8_street_168 rfl (lv_at hl 2 rfl) ?_
            refine va_get (D := D) (ci := 8) (v := .ref (a 16)) (C := RX8) (T := TX8) (N := 44) hx hb hts inX8 hown hK hP 7 rfl rfl 15 (by decide) (hts _ tw_988) (fun _ h9 => h9) rfl dX8_street_169 ?_
            refine lv_iload_n hx hb dX8_street_172 rfl (lv_at hl 0 rfl) ?_
            refine va_iald hx hb hK hP 6 1 rfl rfl (by unfold vp_in; decide) dX8_street_173 ?_
            refine lv_ti (y := (nI ra_9)) era_9 ?_
            refine va_iast hx hb hK hP hD hS 5 1 rfl rfl (vp_in_nI (by omega) (by decide)) dX8_street_174 (fun H locs hP hD hS => ?_)
            replace hP : va_P D classes [(aI k (a 14) 24 ra_5), (aI k (a 15) 24 rb_5), (aI k (a 1) 3 (nF d_18)), (aI k (a 2) 72 fr2_19), (aI k (a 3) 72 pr2_19), (aI k (a 4) 27 (upd (sg se tm gs_30) (Int32.toNatClampNeg (nI (9 * sn + 5))) (nI ra_9))), (aI k (a 16) 9 rs_5), ((a 0), .inr (8, (fX8 a 0 (-1) (nI t0__12) wd2_5 (nI we2_5) nu2_5 na2_5 (nI rd2_5) ts2_5 (nI ru) (nI rw) (nI ca) df db sd))), (aI k (a 5) 240 ftext)] H := hP
            replace hD : va_D A [(aI k (a 14) 24 ra_5), (aI k (a 15) 24 rb_5), (aI k (a 1) 3 (nF d_18)), (aI k (a 2) 72 fr2_19), (aI k (a 3) 72 pr2_19), (aI k (a 4) 27 (upd (sg se tm gs_30) (Int32.toNatClampNeg (nI (9 * sn + 5))) (nI ra_9))), (aI k (a 16) 9 rs_5), ((a 0), .inr (8, (fX8 a 0 (-1) (nI t0__12) wd2_5 (nI we2_5) nu2_5 na2_5 (nI rd2_5) ts2_5 (nI ru) (nI rw) (nI ca) df db sd))), (aI k (a 5) 240 ftext)] := hD
            rw [nI_clamp (n := (9 * sn + 5)) (by omega)] at hP hD
            have hsg_32 := sg_upd5 se tm gs_30 sn ra_9
            rw [hsg_32] at hP hD
            generalize hse_32 : (fun j => if j = sn then ra_9 else se j) = se_32 at hP hD hsg_32
            replace hP : va_P D classes [(aI k (a 14) 24 ra_5), (aI k (a 15) 24 rb_5), (aI k (a 1) 3 (nF d_18)), (aI k (a 2) 72 fr2_19), (aI k (a 3) 72 pr2_19), (aI k (a 4) 27 (sg se_32 tm gs_30)), (aI k (a 16) 9 rs_5), ((a 0), .inr (8, (fX8 a 0 (-1) (nI t0__12) wd2_5 (nI we2_5) nu2_5 na2_5 (nI rd2_5) ts2_5 (nI ru) (nI rw) (nI ca) df db sd))), (aI k (a 5) 240 ftext)] H := hP
            replace hD : va_D A [(aI k (a 14) 24 ra_5), (aI k (a 15) 24 rb_5), (aI k (a 1) 3 (nF d_18)), (aI k (a 2) 72 fr2_19), (aI k (a 3) 72 pr2_19), (aI k (a 4) 27 (sg se_32 tm gs_30)), (aI k (a 16) 9 rs_5), ((a 0), .inr (8, (fX8 a 0 (-1) (nI t0__12) wd2_5 (nI we2_5) nu2_5 na2_5 (nI rd2_5) ts2_5 (nI ru) (nI rw) (nI ca) df db sd))), (aI k (a 5) 240 ftext)] := hD
            refine lv_iinc (v := 6) (lv' := [(3, .int 6), (2, .int (nI fl_5)), (0, .ref (a 0)), (1, .int (nI sn))]) hx hb dX8_street_175 hl (k := 0) rfl (by decide) (by decide) rfl (fun ls hl => ?_)
            refine lv_goto (tgt := 152) hx hb dX8_street_178 (by decide) ?_
            refine lv_iload_n hx hb dX8_street_152 rfl (lv_at hl 0 rfl) ?_
            refine lv_bipush (v := 9) hx hb dX8_street_153 (by decide) ?_
            refine lv_icmp_ge (tgt := 181) hx hb dX8_street_155 (by decide) (fun h => absurd h (by decide)) (fun _ => ?_)
            refine lv_aload_n hx hb dX8_street_158 rfl (lv_at hl 2 rfl) ?_
            refine va_get (D := D) (ci := 8) (v := .ref (a 4)) (C := RX8) (T := TX8) (N := 44) hx hb hts inX8 hown hK hP 7 rfl rfl 3 (by decide) (hts _ tw_976) (fun _ h9 => h9) rfl dX8_street_159 ?_
            refine lv_bipush (v := 9) hx hb dX8_street_162 (by decide) ?_
            refine lv_iload_n hx hb dX8_street_164 rfl (lv_at hl 3 rfl) ?_
            refine lv_imul hx hb dX8_street_165 ?_
            refine lv_ti (y := (nI (9 * sn))) (pk_mul 9 sn) ?_
            refine lv_iload_n hx hb dX8_street_166 rfl (lv_at hl 0 rfl) ?_
            refine lv_iadd hx hb dX8_street_167 ?_
            refine lv_ti (y := (nI (9 * sn + 6))) (nI_add (9 * sn) 6) ?_
            refine lv_aload_n hx hb dX8_street_168 rfl (lv_at hl 2 rfl) ?_
            refine va_get (D := D) (ci := 8) (v := .ref (a 16)) (C := RX8) (T := TX8) (N := 44) hx hb hts inX8 hown hK hP 7 rfl rfl 15 (by decide) (hts _ tw_988) (fun _ h9 => h9) rfl dX8_street_169 ?_
            refine lv_iload_n hx hb dX8_street_172 rfl (lv_at hl 0 rfl) ?_
            refine va_iald hx hb hK hP 6 1 rfl rfl (by unfold vp_in; decide) dX8_street_173 ?_
            refine lv_ti (y := (rs_5 6)) (by rfl) ?_
            refine va_iast hx hb hK hP hD hS 5 1 rfl rfl (vp_in_nI (by omega) (by decide)) dX8_street_174 (fun H locs hP hD hS => ?_)
            replace hP : va_P D classes [(aI k (a 14) 24 ra_5), (aI k (a 15) 24 rb_5), (aI k (a 1) 3 (nF d_18)), (aI k (a 2) 72 fr2_19), (aI k (a 3) 72 pr2_19), (aI k (a 4) 27 (upd (sg se_32 tm gs_30) (Int32.toNatClampNeg (nI (9 * sn + 6))) (rs_5 6))), (aI k (a 16) 9 rs_5), ((a 0), .inr (8, (fX8 a 0 (-1) (nI t0__12) wd2_5 (nI we2_5) nu2_5 na2_5 (nI rd2_5) ts2_5 (nI ru) (nI rw) (nI ca) df db sd))), (aI k (a 5) 240 ftext)] H := hP
            replace hD : va_D A [(aI k (a 14) 24 ra_5), (aI k (a 15) 24 rb_5), (aI k (a 1) 3 (nF d_18)), (aI k (a 2) 72 fr2_19), (aI k (a 3) 72 pr2_19), (aI k (a 4) 27 (upd (sg se_32 tm gs_30) (Int32.toNatClampNeg (nI (9 * sn + 6))) (rs_5 6))), (aI k (a 16) 9 rs_5), ((a 0), .inr (8, (fX8 a 0 (-1) (nI t0__12) wd2_5 (nI we2_5) nu2_5 na2_5 (nI rd2_5) ts2_5 (nI ru) (nI rw) (nI ca) df db sd))), (aI k (a 5) 240 ftext)] := hD
            rw [nI_clamp (n := (9 * sn + 6)) (by omega)] at hP hD
            have hsg_34 := sg_upd se_32 tm gs_30 (9 * sn + 6) (rs_5 6) (by omega) (by omega)
            rw [hsg_34] at hP hD
            generalize upd gs_30 (9 * sn + 6) (rs_5 6) = gs_34 at hP hD hsg_34
            replace hP : va_P D classes [(aI k (a 14) 24 ra_5), (aI k (a 15) 24 rb_5), (aI k (a 1) 3 (nF d_18)), (aI k (a 2) 72 fr2_19), (aI k (a 3) 72 pr2_19), (aI k (a 4) 27 (sg se_32 tm gs_34)), (aI k (a 16) 9 rs_5), ((a 0), .inr (8, (fX8 a 0 (-1) (nI t0__12) wd2_5 (nI we2_5) nu2_5 na2_5 (nI rd2_5) ts2_5 (nI ru) (nI rw) (nI ca) df db sd))), (aI k (a 5) 240 ftext)] H := hP
            replace hD : va_D A [(aI k (a 14) 24 ra_5), (aI k (a 15) 24 rb_5), (aI k (a 1) 3 (nF d_18)), (aI k (a 2) 72 fr2_19), (aI k (a 3) 72 pr2_19), (aI k (a 4) 27 (sg se_32 tm gs_34)), (aI k (a 16) 9 rs_5), ((a 0), .inr (8, (fX8 a 0 (-1) (nI t0__12) wd2_5 (nI we2_5) nu2_5 na2_5 (nI rd2_5) ts2_5 (nI ru) (nI rw) (nI ca) df db sd))), (aI k (a 5) 240 ftext)] := hD
            refine lv_iinc (v := 7) (lv' := [(3, .int 7), (2, .int (nI fl_5)), (0, .ref (a 0)), (1, .int (nI sn))]) hx hb dX8_street_175 hl (k := 0) rfl (by decide) (by decide) rfl (fun ls hl => ?_)
            refine lv_goto (tgt := 152) hx hb dX8_street_178 (by decide) ?_
            refine lv_iload_n hx hb dX8_street_152 rfl (lv_at hl 0 rfl) ?_
            refine lv_bipush (v := 9) hx hb dX8_street_153 (by decide) ?_
            refine lv_icmp_ge (tgt := 181) hx hb dX8_street_155 (by decide) (fun h => absurd h (by decide)) (fun _ => ?_)
            refine lv_aload_n hx hb dX8_street_158 rfl (lv_at hl 2 rfl) ?_
            refine va_get (D := D) (ci := 8) (v := .ref (a 4)) (C := RX8) (T := TX8) (N := 44) hx hb hts inX8 hown hK hP 7 rfl rfl 3 (by decide) (hts _ tw_976) (fun _ h9 => h9) rfl dX8_street_159 ?_
            refine lv_bipush (v := 9) hx hb dX8_street_162 (by decide) ?_
            refine lv_iload_n hx hb dX8_street_164 rfl (lv_at hl 3 rfl) ?_
            refine lv_imul hx hb dX8_street_165 ?_
            refine lv_ti (y := (nI (9 * sn))) (pk_mul 9 sn) ?_
            refine lv_iload_n hx hb dX8_street_166 rfl (lv_at hl 0 rfl) ?_
            refine lv_iadd hx hb dX8_street_167 ?_
            refine lv_ti (y := (nI (9 * sn + 7))) (nI_add (9 * sn) 7) ?_
            refine lv_aload_n hx hb dX8_street_168 rfl (lv_at hl 2 rfl) ?_
            refine va_get (D := D) (ci := 8) (v := .ref (a 16)) (C := RX8) (T := TX8) (N := 44) hx hb hts inX8 hown hK hP 7 rfl rfl 15 (by decide) (hts _ tw_988) (fun _ h9 => h9) rfl dX8_street_169 ?_
            refine lv_iload_n hx hb dX8_street_172 rfl (lv_at hl 0 rfl) ?_
            refine va_iald hx hb hK hP 6 1 rfl rfl (by unfold vp_in; decide) dX8_street_173 ?_
            refine lv_ti (y := (nI rb_9)) erb_9 ?_
            refine va_iast hx hb hK hP hD hS 5 1 rfl rfl (vp_in_nI (by omega) (by decide)) dX8_street_174 (fun H locs hP hD hS => ?_)
            replace hP : va_P D classes [(aI k (a 14) 24 ra_5), (aI k (a 15) 24 rb_5), (aI k (a 1) 3 (nF d_18)), (aI k (a 2) 72 fr2_19), (aI k (a 3) 72 pr2_19), (aI k (a 4) 27 (upd (sg se_32 tm gs_34) (Int32.toNatClampNeg (nI (9 * sn + 7))) (nI rb_9))), (aI k (a 16) 9 rs_5), ((a 0), .inr (8, (fX8 a 0 (-1) (nI t0__12) wd2_5 (nI we2_5) nu2_5 na2_5 (nI rd2_5) ts2_5 (nI ru) (nI rw) (nI ca) df db sd))), (aI k (a 5) 240 ftext)] H := hP
            replace hD : va_D A [(aI k (a 14) 24 ra_5), (aI k (a 15) 24 rb_5), (aI k (a 1) 3 (nF d_18)), (aI k (a 2) 72 fr2_19), (aI k (a 3) 72 pr2_19), (aI k (a 4) 27 (upd (sg se_32 tm gs_34) (Int32.toNatClampNeg (nI (9 * sn + 7))) (nI rb_9))), (aI k (a 16) 9 rs_5), ((a 0), .inr (8, (fX8 a 0 (-1) (nI t0__12) wd2_5 (nI we2_5) nu2_5 na2_5 (nI rd2_5) ts2_5 (nI ru) (nI rw) (nI ca) df db sd))), (aI k (a 5) 240 ftext)] := hD
            rw [nI_clamp (n := (9 * sn + 7)) (by omega)] at hP hD
            have hsg_36 := sg_upd7 se_32 tm gs_34 sn rb_9
            rw [hsg_36] at hP hD
            generalize htm_36 : (fun j => if j = sn then rb_9 else tm j) = tm_36 at hP hD hsg_36
            replace hP : va_P D classes [(aI k (a 14) 24 ra_5), (aI k (a 15) 24 rb_5), (aI k (a 1) 3 (nF d_18)), (aI k (a 2) 72 fr2_19), (aI k (a 3) 72 pr2_19), (aI k (a 4) 27 (sg se_32 tm_36 gs_34)), (aI k (a 16) 9 rs_5), ((a 0), .inr (8, (fX8 a 0 (-1) (nI t0__12) wd2_5 (nI we2_5) nu2_5 na2_5 (nI rd2_5) ts2_5 (nI ru) (nI rw) (nI ca) df db sd))), (aI k (a 5) 240 ftext)] H := hP
            replace hD : va_D A [(aI k (a 14) 24 ra_5), (aI k (a 15) 24 rb_5), (aI k (a 1) 3 (nF d_18)), (aI k (a 2) 72 fr2_19), (aI k (a 3) 72 pr2_19), (aI k (a 4) 27 (sg se_32 tm_36 gs_34)), (aI k (a 16) 9 rs_5), ((a 0), .inr (8, (fX8 a 0 (-1) (nI t0__12) wd2_5 (nI we2_5) nu2_5 na2_5 (nI rd2_5) ts2_5 (nI ru) (nI rw) (nI ca) df db sd))), (aI k (a 5) 240 ftext)] := hD
            refine lv_iinc (v := 8) (lv' := [(3, .int 8), (2, .int (nI fl_5)), (0, .ref (a 0)), (1, .int (nI sn))]) hx hb dX8_street_175 hl (k := 0) rfl (by decide) (by decide) rfl (fun ls hl => ?_)
            refine lv_goto (tgt := 152) hx hb dX8_street_178 (by decide) ?_
            refine lv_iload_n hx hb dX8_street_152 rfl (lv_at hl 0 rfl) ?_
            refine lv_bipush (v := 9) hx hb dX8_street_153 (by decide) ?_
            refine lv_icmp_ge (tgt := 181) hx hb dX8_street_155 (by decide) (fun h => absurd h (by decide)) (fun _ => ?_)
            refine lv_aload_n hx hb dX8_street_158 rfl (lv_at hl 2 rfl) ?_
            refine va_get (D := D) (ci := 8) (v := .ref (a 4)) (C := RX8) (T := TX8) (N := 44) hx hb hts inX8 hown hK hP 7 rfl rfl 3 (by decide) (hts _ tw_976) (fun _ h9 => h9) rfl dX8_street_159 ?_
            refine lv_bipush (v := 9) hx hb dX8_street_162 (by decide) ?_
            refine lv_iload_n hx hb dX8_street_164 rfl (lv_at hl 3 rfl) ?_
            refine lv_imul hx hb dX8_street_165 ?_
            refine lv_ti (y := (nI (9 * sn))) (pk_mul 9 sn) ?_
            refine lv_iload_n hx hb dX8_street_166 rfl (lv_at hl 0 rfl) ?_
            refine lv_iadd hx hb dX8_street_167 ?_
            refine lv_ti (y := (nI (9 * sn + 8))) (nI_add (9 * sn) 8) ?_
            refine lv_aload_n hx hb dX8_street_168 rfl (lv_at hl 2 rfl) ?_
            refine va_get (D := D) (ci := 8) (v := .ref (a 16)) (C := RX8) (T := TX8) (N := 44) hx hb hts inX8 hown hK hP 7 rfl rfl 15 (by decide) (hts _ tw_988) (fun _ h9 => h9) rfl dX8_street_169 ?_
            refine lv_iload_n hx hb dX8_street_172 rfl (lv_at hl 0 rfl) ?_
            refine va_iald hx hb hK hP 6 1 rfl rfl (by unfold vp_in; decide) dX8_street_173 ?_
            refine lv_ti (y := (rs_5 8)) (by rfl) ?_
            refine va_iast hx hb hK hP hD hS 5 1 rfl rfl (vp_in_nI (by omega) (by decide)) dX8_street_174 (fun H locs hP hD hS => ?_)
            replace hP : va_P D classes [(aI k (a 14) 24 ra_5), (aI k (a 15) 24 rb_5), (aI k (a 1) 3 (nF d_18)), (aI k (a 2) 72 fr2_19), (aI k (a 3) 72 pr2_19), (aI k (a 4) 27 (upd (sg se_32 tm_36 gs_34) (Int32.toNatClampNeg (nI (9 * sn + 8))) (rs_5 8))), (aI k (a 16) 9 rs_5), ((a 0), .inr (8, (fX8 a 0 (-1) (nI t0__12) wd2_5 (nI we2_5) nu2_5 na2_5 (nI rd2_5) ts2_5 (nI ru) (nI rw) (nI ca) df db sd))), (aI k (a 5) 240 ftext)] H := hP
            replace hD : va_D A [(aI k (a 14) 24 ra_5), (aI k (a 15) 24 rb_5), (aI k (a 1) 3 (nF d_18)), (aI k (a 2) 72 fr2_19), (aI k (a 3) 72 pr2_19), (aI k (a 4) 27 (upd (sg se_32 tm_36 gs_34) (Int32.toNatClampNeg (nI (9 * sn + 8))) (rs_5 8))), (aI k (a 16) 9 rs_5), ((a 0), .inr (8, (fX8 a 0 (-1) (nI t0__12) wd2_5 (nI we2_5) nu2_5 na2_5 (nI rd2_5) ts2_5 (nI ru) (nI rw) (nI ca) df db sd))), (aI k (a 5) 240 ftext)] := hD
            rw [nI_clamp (n := (9 * sn + 8)) (by omega)] at hP hD
            have hsg_38 := sg_upd se_32 tm_36 gs_34 (9 * sn + 8) (rs_5 8) (by omega) (by omega)
            rw [hsg_38] at hP hD
            generalize upd gs_34 (9 * sn + 8) (rs_5 8) = gs_38 at hP hD hsg_38
            replace hP : va_P D classes [(aI k (a 14) 24 ra_5), (aI k (a 15) 24 rb_5), (aI k (a 1) 3 (nF d_18)), (aI k (a 2) 72 fr2_19), (aI k (a 3) 72 pr2_19), (aI k (a 4) 27 (sg se_32 tm_36 gs_38)), (aI k (a 16) 9 rs_5), ((a 0), .inr (8, (fX8 a 0 (-1) (nI t0__12) wd2_5 (nI we2_5) nu2_5 na2_5 (nI rd2_5) ts2_5 (nI ru) (nI rw) (nI ca) df db sd))), (aI k (a 5) 240 ftext)] H := hP
            replace hD : va_D A [(aI k (a 14) 24 ra_5), (aI k (a 15) 24 rb_5), (aI k (a 1) 3 (nF d_18)), (aI k (a 2) 72 fr2_19), (aI k (a 3) 72 pr2_19), (aI k (a 4) 27 (sg se_32 tm_36 gs_38)), (aI k (a 16) 9 rs_5), ((a 0), .inr (8, (fX8 a 0 (-1) (nI t0__12) wd2_5 (nI we2_5) nu2_5 na2_5 (nI rd2_5) ts2_5 (nI ru) (nI rw) (nI ca) df db sd))), (aI k (a 5) 240 ftext)] := hD
            refine lv_iinc (v := 9) (lv' := [(3, .int 9), (2, .int (nI fl_5)), (0, .ref (a 0)), (1, .int (nI sn))]) hx hb dX8_street_175 hl (k := 0) rfl (by decide) (by decide) rfl (fun ls hl => ?_)
            refine lv_goto (tgt := 152) hx hb dX8_street_178 (by decide) ?_
            refine lv_iload_n hx hb dX8_street_152 rfl (lv_at hl 0 rfl) ?_
            refine lv_bipush (v := 9) hx hb dX8_street_153 (by decide) ?_
            refine lv_icmp_ge (tgt := 181) hx hb dX8_street_155 (by decide) (fun _ => ?_) (fun h => absurd (by decide) h)
            refine lv_aload_n hx hb dX8_street_181 rfl (lv_at hl 2 rfl) ?_
            refine va_get (D := D) (ci := 8) (v := .int (nI rd2_5)) (C := RX8) (T := TX8) (N := 44) hx hb hts inX8 hown hK hP 7 rfl rfl 12 (by decide) (hts _ tw_985) (fun _ h9 => h9) rfl dX8_street_182 ?_
            have hsf_9 := upd9 (rs := rs_5) (a := 9 * sn) hsg_22.symm hsg_24.symm hsg_26.symm hsg_28.symm hsg_30.symm (hsg_32.symm.trans (congrArg (upd _ _) era_9.symm)) hsg_34.symm (hsg_36.symm.trans (congrArg (upd _ _) erb_9.symm)) hsg_38.symm
            have hP9 := hP.sub (ws' := [((a 0), .inr (8, (fX8 a 0 (-1) (nI t0__12) wd2_5 (nI we2_5) nu2_5 na2_5 (nI rd2_5) ts2_5 (nI ru) (nI rw) (nI ca) df db sd))), (aI k (a 5) 240 ftext), (aI k (a 14) 24 ra_5), (aI k (a 15) 24 rb_5), (aI k (a 16) 9 rs_5), (aI k (a 1) 3 (nF d_18)), (aI k (a 2) 72 fr2_19), (aI k (a 3) 72 pr2_19), (aI k (a 4) 27 (sg se_32 tm_36 gs_38))]) [7, 8, 0, 1, 6, 2, 3, 4, 5] rfl
            have hD9 := hD.sub (ws' := [((a 0), .inr (8, (fX8 a 0 (-1) (nI t0__12) wd2_5 (nI we2_5) nu2_5 na2_5 (nI rd2_5) ts2_5 (nI ru) (nI rw) (nI ca) df db sd))), (aI k (a 5) 240 ftext), (aI k (a 14) 24 ra_5), (aI k (a 15) 24 rb_5), (aI k (a 16) 9 rs_5), (aI k (a 1) 3 (nF d_18)), (aI k (a 2) 72 fr2_19), (aI k (a 3) 72 pr2_19), (aI k (a 4) 27 (sg se_32 tm_36 gs_38))]) [7, 8, 0, 1, 6, 2, 3, 4, 5] (by decide +kernel) rfl
            exact W.iret (v := (nI rd2_5)) hx hb hr (fun t ht hW => ⟨⟨(nI rd2_5), (t0__12, wd2_5, we2_5, (-1), nu2_5, na2_5, rd2_5, ts2_5, 0, ra_5, rb_5, rs_5, d_18, fr2_19, pr2_19, se_32, tm_36, gs_38), rfl, ⟨⟨(fun h => absurd hin_9 h), fun _ => ⟨rfl, .inr ⟨sn, _, by omega, rfl, sf_ok hend_14 (show 1 ≤ rd2_5 by omega), rfl, rfl, sdM_new hd_18 hsf_9 (fun j => by have h9 := hv_19.2.1 j; rw [(show ic_19 = rd2_5 by omega)] at h9; exact h9) (fun j => by have h9 := hv_19.2.2 j; rw [(show ic_19 = rd2_5 by omega)] at h9; exact h9), sdM_old (by omega) hd_18 hsf_9 (fun j => by have h9 := hv_19.2.1 j; rw [(show ic_19 = rd2_5 by omega)] at h9; exact h9) (fun j => by have h9 := hv_19.2.2 j; rw [(show ic_19 = rd2_5 by omega)] at h9; exact h9) hdn⟩⟩⟩, by omega, by rw [hd_18]; exact up_le hdn (by omega), by rw [← hse_32]; exact up_le hse (by omega), by rw [← htm_36]; exact up_le htm (by omega)⟩, by rw [ht]; exact hP9, hD9⟩, hS.F ht⟩) hS.2.2 dX8_street_185
          · have c_20 : ¬ (rd2_5 ≤ ic_19) := fun h => c_20 ((nI_leI (a := rd2_5) (b := ic_19) (by omega) (by omega)).mpr h)
            refine lv_aload_n hx hb dX8_street_110 rfl (lv_at hl 2 rfl) ?_
            refine va_get (D := D) (ci := 8) (v := .ref (a 2)) (C := RX8) (T := TX8) (N := 44) hx hb hts inX8 hown hK hP 7 rfl rfl 1 (by decide) (hts _ tw_974) (fun _ h9 => h9) rfl dX8_street_111 ?_
            refine lv_bipush (v := 24) hx hb dX8_street_114 (by decide) ?_
            refine lv_iload_n hx hb dX8_street_116 rfl (lv_at hl 3 rfl) ?_
            refine lv_imul hx hb dX8_street_117 ?_
            refine lv_ti (y := (nI (24 * sn))) (pk_mul 24 sn) ?_
            refine lv_iload_n hx hb dX8_street_118 rfl (lv_at hl 0 rfl) ?_
            refine lv_iadd hx hb dX8_street_119 ?_
            refine lv_ti (y := (nI (24 * sn + ic_19))) (nI_add (24 * sn) ic_19) ?_
            refine lv_aload_n hx hb dX8_street_120 rfl (lv_at hl 2 rfl) ?_
            refine va_get (D := D) (ci := 8) (v := .ref (a 14)) (C := RX8) (T := TX8) (N := 44) hx hb hts inX8 hown hK hP 7 rfl rfl 13 (by decide) (hts _ tw_986) (fun _ h9 => h9) rfl dX8_street_121 ?_
            refine lv_iload_n hx hb dX8_street_124 rfl (lv_at hl 0 rfl) ?_
            refine va_iald hx hb hK hP 0 1 rfl rfl (vp_in_nI (by omega) (by decide)) dX8_street_125 ?_
            refine lv_ti (y := (ra_5 ic_19)) (by rw [nI_clamp (by omega)]) ?_
            refine va_iast hx hb hK hP hD hS 3 1 rfl rfl (vp_in_nI (by omega) (by decide)) dX8_street_126 (fun H locs hP hD hS => ?_)
            replace hP : va_P D classes [(aI k (a 14) 24 ra_5), (aI k (a 15) 24 rb_5), (aI k (a 1) 3 (nF d_18)), (aI k (a 2) 72 (upd fr2_19 (Int32.toNatClampNeg (nI (24 * sn + ic_19))) (ra_5 ic_19))), (aI k (a 3) 72 pr2_19), (aI k (a 4) 27 (sg se tm gs)), (aI k (a 16) 9 rs_5), ((a 0), .inr (8, (fX8 a 0 (-1) (nI t0__12) wd2_5 (nI we2_5) nu2_5 na2_5 (nI rd2_5) ts2_5 (nI ru) (nI rw) (nI ca) df db sd))), (aI k (a 5) 240 ftext)] H := hP
            replace hD : va_D A [(aI k (a 14) 24 ra_5), (aI k (a 15) 24 rb_5), (aI k (a 1) 3 (nF d_18)), (aI k (a 2) 72 (upd fr2_19 (Int32.toNatClampNeg (nI (24 * sn + ic_19))) (ra_5 ic_19))), (aI k (a 3) 72 pr2_19), (aI k (a 4) 27 (sg se tm gs)), (aI k (a 16) 9 rs_5), ((a 0), .inr (8, (fX8 a 0 (-1) (nI t0__12) wd2_5 (nI we2_5) nu2_5 na2_5 (nI rd2_5) ts2_5 (nI ru) (nI rw) (nI ca) df db sd))), (aI k (a 5) 240 ftext)] := hD
            rw [nI_clamp (n := (24 * sn + ic_19)) (by omega)] at hP hD
            replace hP : va_P D classes [(aI k (a 14) 24 ra_5), (aI k (a 15) 24 rb_5), (aI k (a 1) 3 (nF d_18)), (aI k (a 2) 72 (upd fr2_19 (24 * sn + ic_19) (ra_5 ic_19))), (aI k (a 3) 72 pr2_19), (aI k (a 4) 27 (sg se tm gs)), (aI k (a 16) 9 rs_5), ((a 0), .inr (8, (fX8 a 0 (-1) (nI t0__12) wd2_5 (nI we2_5) nu2_5 na2_5 (nI rd2_5) ts2_5 (nI ru) (nI rw) (nI ca) df db sd))), (aI k (a 5) 240 ftext)] H := hP
            replace hD : va_D A [(aI k (a 14) 24 ra_5), (aI k (a 15) 24 rb_5), (aI k (a 1) 3 (nF d_18)), (aI k (a 2) 72 (upd fr2_19 (24 * sn + ic_19) (ra_5 ic_19))), (aI k (a 3) 72 pr2_19), (aI k (a 4) 27 (sg se tm gs)), (aI k (a 16) 9 rs_5), ((a 0), .inr (8, (fX8 a 0 (-1) (nI t0__12) wd2_5 (nI we2_5) nu2_5 na2_5 (nI rd2_5) ts2_5 (nI ru) (nI rw) (nI ca) df db sd))), (aI k (a 5) 240 ftext)] := hD
            refine lv_aload_n hx hb dX8_street_127 rfl (lv_at hl 2 rfl) ?_
            refine va_get (D := D) (ci := 8) (v := .ref (a 3)) (C := RX8) (T := TX8) (N := 44) hx hb hts inX8 hown hK hP 7 rfl rfl 2 (by decide) (hts _ tw_975) (fun _ h9 => h9) rfl dX8_street_128 ?_
            refine lv_bipush (v := 24) hx hb dX8_street_131 (by decide) ?_
            refine lv_iload_n hx hb dX8_street_133 rfl (lv_at hl 3 rfl) ?_
            refine lv_imul hx hb dX8_street_134 ?_
            refine lv_ti (y := (nI (24 * sn))) (pk_mul 24 sn) ?_
            refine lv_iload_n hx hb dX8_street_135 rfl (lv_at hl 0 rfl) ?_
            refine lv_iadd hx hb dX8_street_136 ?_
            refine lv_ti (y := (nI (24 * sn + ic_19))) (nI_add (24 * sn) ic_19) ?_
            refine lv_aload_n hx hb dX8_street_137 rfl (lv_at hl 2 rfl) ?_
            refine va_get (D := D) (ci := 8) (v := .ref (a 15)) (C := RX8) (T := TX8) (N := 44) hx hb hts inX8 hown hK hP 7 rfl rfl 14 (by decide) (hts _ tw_987) (fun _ h9 => h9) rfl dX8_street_138 ?_
            refine lv_iload_n hx hb dX8_street_141 rfl (lv_at hl 0 rfl) ?_
            refine va_iald hx hb hK hP 1 1 rfl rfl (vp_in_nI (by omega) (by decide)) dX8_street_142 ?_
            refine lv_ti (y := (rb_5 ic_19)) (by rw [nI_clamp (by omega)]) ?_
            refine va_iast hx hb hK hP hD hS 4 1 rfl rfl (vp_in_nI (by omega) (by decide)) dX8_street_143 (fun H locs hP hD hS => ?_)
            replace hP : va_P D classes [(aI k (a 14) 24 ra_5), (aI k (a 15) 24 rb_5), (aI k (a 1) 3 (nF d_18)), (aI k (a 2) 72 (upd fr2_19 (24 * sn + ic_19) (ra_5 ic_19))), (aI k (a 3) 72 (upd pr2_19 (Int32.toNatClampNeg (nI (24 * sn + ic_19))) (rb_5 ic_19))), (aI k (a 4) 27 (sg se tm gs)), (aI k (a 16) 9 rs_5), ((a 0), .inr (8, (fX8 a 0 (-1) (nI t0__12) wd2_5 (nI we2_5) nu2_5 na2_5 (nI rd2_5) ts2_5 (nI ru) (nI rw) (nI ca) df db sd))), (aI k (a 5) 240 ftext)] H := hP
            replace hD : va_D A [(aI k (a 14) 24 ra_5), (aI k (a 15) 24 rb_5), (aI k (a 1) 3 (nF d_18)), (aI k (a 2) 72 (upd fr2_19 (24 * sn + ic_19) (ra_5 ic_19))), (aI k (a 3) 72 (upd pr2_19 (Int32.toNatClampNeg (nI (24 * sn + ic_19))) (rb_5 ic_19))), (aI k (a 4) 27 (sg se tm gs)), (aI k (a 16) 9 rs_5), ((a 0), .inr (8, (fX8 a 0 (-1) (nI t0__12) wd2_5 (nI we2_5) nu2_5 na2_5 (nI rd2_5) ts2_5 (nI ru) (nI rw) (nI ca) df db sd))), (aI k (a 5) 240 ftext)] := hD
            rw [nI_clamp (n := (24 * sn + ic_19)) (by omega)] at hP hD
            replace hP : va_P D classes [(aI k (a 14) 24 ra_5), (aI k (a 15) 24 rb_5), (aI k (a 1) 3 (nF d_18)), (aI k (a 2) 72 (upd fr2_19 (24 * sn + ic_19) (ra_5 ic_19))), (aI k (a 3) 72 (upd pr2_19 (24 * sn + ic_19) (rb_5 ic_19))), (aI k (a 4) 27 (sg se tm gs)), (aI k (a 16) 9 rs_5), ((a 0), .inr (8, (fX8 a 0 (-1) (nI t0__12) wd2_5 (nI we2_5) nu2_5 na2_5 (nI rd2_5) ts2_5 (nI ru) (nI rw) (nI ca) df db sd))), (aI k (a 5) 240 ftext)] H := hP
            replace hD : va_D A [(aI k (a 14) 24 ra_5), (aI k (a 15) 24 rb_5), (aI k (a 1) 3 (nF d_18)), (aI k (a 2) 72 (upd fr2_19 (24 * sn + ic_19) (ra_5 ic_19))), (aI k (a 3) 72 (upd pr2_19 (24 * sn + ic_19) (rb_5 ic_19))), (aI k (a 4) 27 (sg se tm gs)), (aI k (a 16) 9 rs_5), ((a 0), .inr (8, (fX8 a 0 (-1) (nI t0__12) wd2_5 (nI we2_5) nu2_5 na2_5 (nI rd2_5) ts2_5 (nI ru) (nI rw) (nI ca) df db sd))), (aI k (a 5) 240 ftext)] := hD
            refine lv_iinc (v := (nI (ic_19 + 1))) (lv' := [(3, .int (nI (ic_19 + 1))), (2, .int (nI fl_5)), (0, .ref (a 0)), (1, .int (nI sn))]) hx hb dX8_street_144 hl (k := 0) rfl (nI_add ic_19 1) (by decide) rfl (fun ls hl => ?_)
            refine lv_goto (tgt := 102) hx hb dX8_street_147 (by decide) ?_
            exact ih_19 _ (ic_19 + 1, (upd fr2_19 (24 * sn + ic_19) (ra_5 ic_19)), (upd pr2_19 (24 * sn + ic_19) (rb_5 ic_19))) _ _ _ (by omega) ⟨rfl, ⟨by omega, cp_step hv_19.2.1, cp_step hv_19.2.2⟩, hP, hD, hS, (lv_sub hl [0, 1, 2, 3] rfl)⟩
        · have c_16 := (nI_eq (a := rd2_5) (b := 0) (by omega) (by omega)).mp c_16
          refine lv_aload_n hx hb dX8_street_62 rfl (lv_at hl 1 rfl) ?_
          refine lv_iconst (v := 1) hx hb dX8_street_63 (by decide) ?_
          refine lv_aload_n hx hb dX8_street_64 rfl (lv_at hl 1 rfl) ?_
          refine va_get (D := D) (ci := 8) (v := .int (nI tx)) (C := RX8) (T := TX8) (N := 44) hx hb hts inX8 hown hK hP 7 rfl rfl 5 (by decide) (hts _ tw_978) (fun _ h9 => h9) rfl dX8_street_65 ?_
          refine rw_i (D := D) (wr := [(aI k (a 14) 24 ra_5), (aI k (a 15) 24 rb_5), (aI k (a 1) 3 (nF dn)), (aI k (a 2) 72 ffrees), (aI k (a 3) 72 fprices), (aI k (a 4) 27 (sg se tm gs)), (aI k (a 16) 9 rs_5), (aI k (a 5) 240 ftext)]) (va_runV (As := [.int 1, .int (nI tx)]) (rest := []) ⟨hx, hb, hml, hown, hts⟩ ((n_fails l D k st lo a tx t0__12 we2_5 rd2_5 ru rw ca (-1) wd2_5 nu2_5 na2_5 ts2_5 df db sd 1 (nI tx)) H.size) (cwV 2 hts (gV tw_1151 tw_1153 tw_31 tw_87 tw_1154) rfl rfl rfl (by decide +kernel) ⟨Nat.le_of_ble_eq_true rfl, Nat.le_of_ble_eq_true rfl⟩) (pV hS hAlo hlo hP hK (va_Dlo hD hAlo) hZ [7] (by decide) rfl (ci := 8) (q := (RX8, TX8, 44)) (q0 := 0) rfl rfl) rfl rfl hl.1 rfl (lv_room (Nat.le_of_ble_eq_true rfl)) dX8_street_68 ⟨Nat.le_of_ble_eq_true rfl, Nat.le_of_ble_eq_true rfl⟩) hS hA hP hD [7] [0, 1, 2, 3, 4, 5, 6, 8] rfl rfl (by decide) (by decide) (fun r_41 u H locs hw_41 hP hD hS => ?_)
          obtain ⟨fp__41, rfl⟩ : ∃ z, z = u := ⟨_, rfl⟩
          replace hP : va_P D classes [(aI k (a 14) 24 ra_5), (aI k (a 15) 24 rb_5), (aI k (a 1) 3 (nF dn)), (aI k (a 2) 72 ffrees), (aI k (a 3) 72 fprices), (aI k (a 4) 27 (sg se tm gs)), (aI k (a 16) 9 rs_5), (aI k (a 5) 240 ftext), ((a 0), .inr (8, (fX8 a (nI tx) fp__41 (nI t0__12) wd2_5 (nI we2_5) nu2_5 na2_5 (nI rd2_5) ts2_5 (nI ru) (nI rw) (nI ca) df db sd)))] H := hP
          replace hD : va_D A [(aI k (a 14) 24 ra_5), (aI k (a 15) 24 rb_5), (aI k (a 1) 3 (nF dn)), (aI k (a 2) 72 ffrees), (aI k (a 3) 72 fprices), (aI k (a 4) 27 (sg se tm gs)), (aI k (a 16) 9 rs_5), (aI k (a 5) 240 ftext), ((a 0), .inr (8, (fX8 a (nI tx) fp__41 (nI t0__12) wd2_5 (nI we2_5) nu2_5 na2_5 (nI rd2_5) ts2_5 (nI ru) (nI rw) (nI ca) df db sd)))] := hD
          try dsimp only at hw_41
          obtain ⟨hs0_42, hs1_42⟩ := hw_41
          replace hs0_42 := hs0_42.symm
          subst hs0_42
          replace hs1_42 := hs1_42.symm
          subst hs1_42
          refine lv_goto (tgt := 75) hx hb dX8_street_71 (by decide) ?_
          refine lv_istore_n (lv' := [(2, .int 1), (0, .ref (a 0)), (1, .int (nI sn))]) hx hb dX8_street_75 rfl hl (by decide) rfl (fun ls hl => ?_)
          refine lv_aload_n hx hb dX8_street_76 rfl (lv_at hl 1 rfl) ?_
          refine lv_iconst (v := 0) hx hb dX8_street_77 (by decide) ?_
          refine va_put (D := D) (ci := 8) (v := .int 0) (ty := .int) (C := RX8) (T := TX8) (N := 44) hx hb hts inX8 tyX8 tyX8_ok nmX8 hown hK hP hD hS 8 rfl rfl 5 (by decide) (hts _ tw_978) (fun _ h9 => h9) rfl (by decide +kernel) rfl rfl (Nat.le_of_ble_eq_true rfl) dX8_street_78 (fun H locs hP hD hS => ?_)
          replace hP : va_P D classes [(aI k (a 14) 24 ra_5), (aI k (a 15) 24 rb_5), (aI k (a 1) 3 (nF dn)), (aI k (a 2) 72 ffrees), (aI k (a 3) 72 fprices), (aI k (a 4) 27 (sg se tm gs)), (aI k (a 16) 9 rs_5), (aI k (a 5) 240 ftext), ((a 0), .inr (8, (fX8 a 0 (nI tx) (nI t0__12) wd2_5 (nI we2_5) nu2_5 na2_5 (nI rd2_5) ts2_5 (nI ru) (nI rw) (nI ca) df db sd)))] H := hP
          replace hD : va_D A [(aI k (a 14) 24 ra_5), (aI k (a 15) 24 rb_5), (aI k (a 1) 3 (nF dn)), (aI k (a 2) 72 ffrees), (aI k (a 3) 72 fprices), (aI k (a 4) 27 (sg se tm gs)), (aI k (a 16) 9 rs_5), (aI k (a 5) 240 ftext), ((a 0), .inr (8, (fX8 a 0 (nI tx) (nI t0__12) wd2_5 (nI we2_5) nu2_5 na2_5 (nI rd2_5) ts2_5 (nI ru) (nI rw) (nI ca) df db sd)))] := hD
          refine lv_iload_n hx hb dX8_street_81 rfl (lv_at hl 0 rfl) ?_
          refine lv_if_le (tgt := 90) hx hb dX8_street_82 (by decide) (fun h => absurd h (by decide)) (fun _ => ?_)
          refine lv_bipush (v := (-10)) hx hb dX8_street_85 (by decide) ?_
          refine lv_iload_n hx hb dX8_street_87 rfl (lv_at hl 0 rfl) ?_
          refine lv_isub hx hb dX8_street_88 ?_
          refine lv_ti (y := (-11)) (by decide) ?_
          have hP9 := hP.sub (ws' := [((a 0), .inr (8, (fX8 a 0 (nI tx) (nI t0__12) wd2_5 (nI we2_5) nu2_5 na2_5 (nI rd2_5) ts2_5 (nI ru) (nI rw) (nI ca) df db sd))), (aI k (a 5) 240 ftext), (aI k (a 14) 24 ra_5), (aI k (a 15) 24 rb_5), (aI k (a 16) 9 rs_5), (aI k (a 1) 3 (nF dn)), (aI k (a 2) 72 ffrees), (aI k (a 3) 72 fprices), (aI k (a 4) 27 (sg se tm gs))]) [8, 7, 0, 1, 6, 2, 3, 4, 5] rfl
          have hD9 := hD.sub (ws' := [((a 0), .inr (8, (fX8 a 0 (nI tx) (nI t0__12) wd2_5 (nI we2_5) nu2_5 na2_5 (nI rd2_5) ts2_5 (nI ru) (nI rw) (nI ca) df db sd))), (aI k (a 5) 240 ftext), (aI k (a 14) 24 ra_5), (aI k (a 15) 24 rb_5), (aI k (a 16) 9 rs_5), (aI k (a 1) 3 (nF dn)), (aI k (a 2) 72 ffrees), (aI k (a 3) 72 fprices), (aI k (a 4) 27 (sg se tm gs))]) [8, 7, 0, 1, 6, 2, 3, 4, 5] (by decide +kernel) rfl
          exact W.iret (v := (-11)) hx hb hr (fun t ht hW => ⟨⟨(-11), (t0__12, wd2_5, we2_5, (nI tx), nu2_5, na2_5, rd2_5, ts2_5, 0, ra_5, rb_5, rs_5, dn, ffrees, fprices, se, tm, gs), rfl, ⟨⟨(fun h => absurd hin_9 h), fun _ => ⟨rfl, .inl ⟨1, tx, by decide, by decide, (sf_no hend_14 (show rd2_5 = 0 by omega)).1, (sf_no hend_14 (show rd2_5 = 0 by omega)).2, by decide, rfl, fun _ => rfl⟩⟩⟩, by omega, hdn, hse, htm⟩, by rw [ht]; exact hP9, hD9⟩, hS.F ht⟩) hS.2.2 dX8_street_89
      · have hlt_43 := by_pos hw_12.2.1 c_13
        refine lv_aload_n hx hb dX8_street_43 rfl (lv_at hl 1 rfl) ?_
        refine rw_i (D := D) (wr := [(aI k (a 1) 3 (nF dn)), (aI k (a 2) 72 ffrees), (aI k (a 3) 72 fprices), (aI k (a 4) 27 (sg se tm gs))]) (va_runV (As := []) (rest := []) ⟨hx, hb, hml, hown, hts⟩ ((n_takeClause l D k st lo a tx t0__12 we2_5 rd2_5 ru rw ca (-1) wd2_5 nu2_5 na2_5 ts2_5 df db sd ftext ra_5 rb_5 rs_5 (by first | assumption | omega) (by first | assumption | omega) (by first | assumption | omega) (hv_5.2.2.2.1 (by omega))) H.size) (cwV 0 hts (gV tw_1124 tw_1126 tw_28 tw_87 tw_1127) rfl rfl rfl (by decide +kernel) ⟨Nat.le_of_ble_eq_true rfl, Nat.le_of_ble_eq_true rfl⟩) (pV hS hAlo hlo hP hK (va_Dlo hD hAlo) hZ [7, 8, 0, 1, 6] (by decide) rfl (ci := 8) (q := (RX8, TX8, 44)) (q0 := 0) rfl rfl) rfl rfl hl.1 rfl (lv_room (Nat.le_of_ble_eq_true rfl)) dX8_street_44 ⟨Nat.le_of_ble_eq_true rfl, Nat.le_of_ble_eq_true rfl⟩) hS hA hP hD [7, 8, 0, 1, 6] [2, 3, 4, 5] rfl rfl (by decide) (by decide) (fun r_44 u H locs hw_44 hP hD hS => ?_)
        obtain ⟨t0__44, wd__44, we__44, fp__44, nu__44, na__44, rd__44, ts__44, freadFree__44, freadPrice__44, freadSingle__44⟩ := u
        replace hP : va_P D classes [(aI k (a 1) 3 (nF dn)), (aI k (a 2) 72 ffrees), (aI k (a 3) 72 fprices), (aI k (a 4) 27 (sg se tm gs)), ((a 0), .inr (8, (fX8 a (nI tx) fp__44 (nI t0__44) wd__44 (nI we__44) nu__44 na__44 (nI rd__44) ts__44 (nI ru) (nI rw) (nI ca) df db sd))), (aI k (a 5) 240 ftext), (aI k (a 14) 24 freadFree__44), (aI k (a 15) 24 freadPrice__44), (aI k (a 16) 9 freadSingle__44)] H := hP
        replace hD : va_D A [(aI k (a 1) 3 (nF dn)), (aI k (a 2) 72 ffrees), (aI k (a 3) 72 fprices), (aI k (a 4) 27 (sg se tm gs)), ((a 0), .inr (8, (fX8 a (nI tx) fp__44 (nI t0__44) wd__44 (nI we__44) nu__44 na__44 (nI rd__44) ts__44 (nI ru) (nI rw) (nI ca) df db sd))), (aI k (a 5) 240 ftext), (aI k (a 14) 24 freadFree__44), (aI k (a 15) 24 freadPrice__44), (aI k (a 16) 9 freadSingle__44)] := hD
        try dsimp only at hw_44
        rcases hw_44 with ⟨⟨rfl, hcf_45, hfp_45⟩ | ⟨e_45, pl_45, rfl, he1_45, he2_45, hp1_45, hp2_45, rfl⟩, hw_44⟩
        · replace hfp_45 := hfp_45.symm
          subst hfp_45
          have hgt_45 := hw_44.2.2.2.1 rfl
          refine lv_istore_n (lv' := [(2, .int 0), (0, .ref (a 0)), (1, .int (nI sn))]) hx hb dX8_street_47 rfl hl (by decide) rfl (fun ls hl => ?_)
          refine lv_goto (tgt := 32) hx hb dX8_street_48 (by decide) ?_
          have hkx_45 : tx - t0__44 ≤ k_11 - 1 := by clear hv_5; omega
          exact ih_5 _ (0, t0__44, wd__44, we__44, (-1), nu__44, na__44, rd__44, ts__44, freadFree__44, freadPrice__44, freadSingle__44) _ _ _ (by clear hv_5; rw [if_pos (show fl_5 = 0 by omega)]; split <;> omega) ⟨rfl, ⟨by clear hv_5; omega, by clear hv_5; omega, by clear hv_5; omega, fun _ => hw_44.2.2.2.2 rfl, .inl ⟨rfl, rfl, k_11 - 1, hkx_45, by rw [← hst_11, sl_ok (by clear hv_5; omega) (show skA ftext tx t_5 < tx by rw [← hw_12.1]; omega) (by rw [← clF_sk, ← hw_12.1]; exact hcf_45)]⟩⟩, (hP.sub [5, 6, 7, 0, 1, 2, 3, 4, 8] rfl), (hD.sub [5, 6, 7, 0, 1, 2, 3, 4, 8] (by decide +kernel) rfl), hS, (lv_sub hl [0, 1, 2] rfl)⟩
        · refine lv_istore_n (lv' := [(2, .int (nI e_45)), (0, .ref (a 0)), (1, .int (nI sn))]) hx hb dX8_street_47 rfl hl (by decide) rfl (fun ls hl => ?_)
          refine lv_goto (tgt := 32) hx hb dX8_street_48 (by decide) ?_
          exact ih_5 _ (e_45, t0__44, wd__44, we__44, (nI pl_45), nu__44, na__44, rd__44, ts__44, freadFree__44, freadPrice__44, freadSingle__44) _ _ _ (by clear hv_5; rw [if_pos (show fl_5 = 0 by omega)]; split <;> omega) ⟨rfl, ⟨by omega, by omega, by omega, fun h => absurd h (by omega), .inr ⟨he1_45, by rw [← hst_11]; exact (sl_err (e := e_45) (p := pl_45) (by omega) (show skA ftext tx t_5 < tx by rw [← hw_12.1]; omega) (by rw [← clF_sk, ← hw_12.1]; exact hp1_45) he1_45 (by rw [← clF_sk, ← hw_12.1]; exact hp2_45)).1, pl_45, by rw [← hst_11]; exact (sl_err (e := e_45) (p := pl_45) (by omega) (show skA ftext tx t_5 < tx by rw [← hw_12.1]; omega) (by rw [← clF_sk, ← hw_12.1]; exact hp1_45) he1_45 (by rw [← clF_sk, ← hw_12.1]; exact hp2_45)).2, rfl⟩⟩, (hP.sub [5, 6, 7, 0, 1, 2, 3, 4, 8] rfl), (hD.sub [5, 6, 7, 0, 1, 2, 3, 4, 8] (by decide +kernel) rfl), hS, (lv_sub hl [0, 1, 2] rfl)⟩
  · refine lv_if_ne (tgt := 16) hx hb dX8_street_9 (by decide) (fun h => absurd (by decide) h) (fun _ => ?_)
    refine lv_sipush (v := (-1001)) hx hb dX8_street_12 (by decide) ?_
    have hP9 := hP.sub (ws' := [((a 0), .inr (8, (fX8 a (nI tx) fp (nI t0) wd (nI we) nu na (nI rd) ts (nI ru) (nI rw) (nI ca) df db sd))), (aI k (a 5) 240 ftext), (aI k (a 14) 24 freadFree), (aI k (a 15) 24 freadPrice), (aI k (a 16) 9 freadSingle), (aI k (a 1) 3 (nF dn)), (aI k (a 2) 72 ffrees), (aI k (a 3) 72 fprices), (aI k (a 4) 27 (sg se tm gs))]) [0, 1, 2, 3, 4, 5, 6, 7, 8] rfl
    have hD9 := hD.sub (ws' := [((a 0), .inr (8, (fX8 a (nI tx) fp (nI t0) wd (nI we) nu na (nI rd) ts (nI ru) (nI rw) (nI ca) df db sd))), (aI k (a 5) 240 ftext), (aI k (a 14) 24 freadFree), (aI k (a 15) 24 freadPrice), (aI k (a 16) 9 freadSingle), (aI k (a 1) 3 (nF dn)), (aI k (a 2) 72 ffrees), (aI k (a 3) 72 fprices), (aI k (a 4) 27 (sg se tm gs))]) [0, 1, 2, 3, 4, 5, 6, 7, 8] (by decide +kernel) rfl
    exact W.iret (v := (-1001)) hx hb hr (fun t ht hW => ⟨⟨(-1001), (t0, wd, we, fp, nu, na, rd, ts, tx, freadFree, freadPrice, freadSingle, dn, ffrees, fprices, se, tm, gs), rfl, ⟨⟨fun _ => ⟨rfl, rfl, rfl, fun _ => rfl⟩, fun h => absurd h hw_1⟩, by omega, hdn, hse, htm⟩, by rw [ht]; exact hP9, hD9⟩, hS.F ht⟩) hS.2.2 dX8_street_15


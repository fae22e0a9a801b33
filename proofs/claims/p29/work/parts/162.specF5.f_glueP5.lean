theorem f_glueP5 : True := trivial
/-- the bit c of an int -/
theorem bitI (m : Int32) {c : Nat} (hc : c < 32) : ((m >>> (nI c &&& 31)) &&& 1 = 0 ↔ m.toBitVec.getLsbD c = false) := by
  have hs : ∀ c, c < 32 → ((nI c &&& 31).toBitVec.smod 32).toNat = c := by decide
  have e : (m >>> (nI c &&& 31)).toBitVec = m.toBitVec.sshiftRight c := by
    show m.toBitVec.sshiftRight ((nI c &&& 31).toBitVec.smod 32).toNat = _
    rw [hs c hc]
  rw [← Int32.toBitVec_inj, Int32.toBitVec_and, e]
  show (m.toBitVec.sshiftRight c &&& 1#32) = 0#32 ↔ _
  rw [BitVec.and_one_eq_setWidth_ofBool_getLsbD, BitVec.getLsbD_sshiftRight]
  simp only [Nat.add_zero]
  rw [if_pos (show c < 32 by omega)]
  cases hb : m.toBitVec.getLsbD c
  · exact ⟨fun _ => rfl, fun _ => by decide⟩
  · exact ⟨fun z => absurd z (by decide), fun z => absurd z (by decide)⟩
/-- an int's bit with k set -/
theorem bit_or (m : Int32) {c k : Nat} (hc : c < 31) (hk : k < 31) : (m ||| ((1 : Int32) <<< (nI k &&& 31))).toBitVec.getLsbD c = (m.toBitVec.getLsbD c || decide (c = k)) := by
  have h : ∀ k, k < 31 → ∀ c, c < 31 → ((1 : Int32) <<< (nI k &&& 31)).toBitVec.getLsbD c = decide (c = k) := by decide +kernel
  rw [Int32.toBitVec_or, BitVec.getLsbD_or, h k hk c hc]
def toX (m : Int32) : Nat → Bool := fun c => if 1 ≤ c ∧ c ≤ 9 then m.toBitVec.getLsbD c else false
theorem toX_0 : toX 0 = fun _ => false := by
  funext c
  unfold toX
  by_cases h : 1 ≤ c ∧ c ≤ 9
  · rw [if_pos h]
    show (0#32).getLsbD c = false
    exact BitVec.getLsbD_zero
  · rw [if_neg h]
theorem toX_or {m : Int32} {k : Nat} (hk : 1 ≤ k ∧ k ≤ 9) : toX (m ||| ((1 : Int32) <<< (nI k &&& 31))) = setB (toX m) k := by
  funext c
  show (if 1 ≤ c ∧ c ≤ 9 then (m ||| ((1 : Int32) <<< (nI k &&& 31))).toBitVec.getLsbD c else false) = (if c = k then true else (if 1 ≤ c ∧ c ≤ 9 then m.toBitVec.getLsbD c else false))
  by_cases h : c = k
  · subst h
    rw [if_pos hk, if_pos rfl, bit_or m (by omega) (by omega)]
    simp
  · rw [if_neg h]
    by_cases h1 : 1 ≤ c ∧ c ≤ 9
    · rw [if_pos h1, if_pos h1, bit_or m (by omega) (by omega)]
      simp [h]
    · rw [if_neg h1, if_neg h1]
theorem toX_t {m : Int32} {k : Nat} (hk : 1 ≤ k ∧ k ≤ 9) (h : ¬ (m >>> (nI k &&& 31)) &&& 1 = 0) : toX m k = true := by
  unfold toX
  rw [if_pos hk]
  rcases hb : m.toBitVec.getLsbD k with _ | _
  · exact absurd ((bitI m (by omega)).mpr hb) h
  · rfl
theorem toX_f {m : Int32} {k : Nat} (h : (m >>> (nI k &&& 31)) &&& 1 = 0) (hk : k ≤ 9) : ¬ toX m k = true := by
  unfold toX
  by_cases h1 : 1 ≤ k ∧ k ≤ 9
  · rw [if_pos h1, (bitI m (by omega)).mp h]
    decide
  · rw [if_neg h1]
    decide
def stX (n see tm : Nat) (g ff fp : Nat → Int32) (m : Int32) : PSt := (n, nG (vv n see tm g), clp n ff, clp n fp, toX m)
theorem stX_0 {g g0 ff fp : Nat → Int32} (h : g = va_cpy zNT g0 0 0 10) : stX 0 1 0 g ff fp 0 = st0 := by
  unfold stX st0
  rw [toX_0]
  have e1 : nG (vv 0 1 0 g) = nG zNT := by
    funext j
    unfold nG
    by_cases hj : 1 ≤ j ∧ j ≤ 9
    · rw [if_pos hj, if_pos hj]
      unfold vv
      rw [if_neg (by omega)]
      by_cases h6 : j = 6
      · subst h6; rfl
      · rw [if_neg h6]
        by_cases h8 : j = 8
        · subst h8; rfl
        · rw [if_neg h8, h, pk_cpy_in (by omega) (by omega)]
          rw [show 0 + (j - 0) = j by omega]
    · rw [if_neg hj, if_neg hj]
  have e2 : ∀ f : Nat → Int32, clp 0 f = fun _ => 0 := by
    intro f
    funext j
    unfold clp
    rw [if_neg (by omega)]
  rw [e1, e2, e2]
theorem sl_end {b : Nat → Int32} {n k t : Nat} {σ : PSt} (h : ¬ skA b n t < n) : stL b n k t σ = (0, 0, σ) := by
  rcases k with _ | k
  · rfl
  · show (if skA b n t < n then _ else (0, 0, σ)) = _
    rw [if_neg h]
theorem sl_err {b : Nat → Int32} {n k t e p : Nat} {σ : PSt} (hk : 0 < k) (h : skA b n t < n) (he : (clF b n t σ).1 = e) (h0 : 1 ≤ e) (hp : (clF b n t σ).2.1 = p) : (stL b n k t σ).1 = e ∧ (stL b n k t σ).2.1 = p := by
  rcases k with _ | k
  · omega
  · have q : stL b n (k + 1) t σ = ((clF b n t σ).1, (clF b n t σ).2.1, σ) := by
      show (if skA b n t < n then (if (clF b n t σ).1 = 0 then _ else _) else _) = _
      rw [if_pos h, if_neg (by omega)]
    rw [q]
    exact ⟨he, hp⟩
theorem sl_ok {b : Nat → Int32} {n k t t2 : Nat} {σ σ2 : PSt} (hk : 0 < k) (h : skA b n t < n) (hc : clF b n t σ = (0, 0, t2, σ2)) : stL b n k t σ = stL b n (k - 1) t2 σ2 := by
  rcases k with _ | k
  · omega
  · show (if skA b n t < n then (if (clF b n t σ).1 = 0 then stL b n k (clF b n t σ).2.2.1 (clF b n t σ).2.2.2 else _) else _) = _
    rw [if_pos h, hc, if_pos rfl]
    rfl
theorem cf_none {b : Nat → Int32} {n t : Nat} {σ : PSt} (h : kwN (letA b n (skA b n t)) = 10) : clF b n t σ = (1, skA b n t, skA b n t, σ) := by
  unfold clF
  rw [if_pos h]
theorem cf_told {b : Nat → Int32} {n t k : Nat} {σ : PSt} (h : kwN (letA b n (skA b n t)) = k) (h0 : 1 ≤ k ∧ k ≤ 9) (ht : σ.2.2.2.2 k = true) : clF b n t σ = (3, skA b n t, skA b n t, σ) := by
  unfold clF
  rw [h, if_neg (by omega), if_neg (by omega), if_pos ht]
theorem cf_do1 {b : Nat → Int32} {n t e p T : Nat} {σ : PSt} (h : kwN (letA b n (skA b n t)) = 0) (hT : T = skA b n t + (letA b n (skA b n t)).length) (he : (doC b n σ.1 T).1 = e) (h1 : 1 ≤ e) (hp : (doC b n σ.1 T).2.1 = p) : (clF b n t σ).1 = e ∧ (clF b n t σ).2.1 = p := by
  unfold clF
  rw [if_neg (by omega), if_pos h, ← hT]
  rcases hd : doC b n σ.1 T with ⟨e2, p2, t2, m, v3, v5⟩
  rw [hd] at he hp
  have he2 : e2 = e := he
  have hp2 : p2 = p := hp
  have h0 : ¬ e2 = 0 := by omega
  simp only [h0, if_false]
  exact ⟨he2, hp2⟩
theorem cf_do0 {b : Nat → Int32} {n t t1 T m : Nat} {v3 v5 : Int32} {σ : PSt} (h : kwN (letA b n (skA b n t)) = 0) (hT : T = skA b n t + (letA b n (skA b n t)).length) (hd : doC b n σ.1 T = (0, 0, t1, m, v3, v5)) : clF b n t σ = (0, 0, t1, (σ.1 + m, σ.2.1, filF σ.2.2.1 σ.1 m v3, filF σ.2.2.2.1 σ.1 m v5, σ.2.2.2.2)) := by
  unfold clF
  rw [if_neg (by omega), if_pos h, ← hT, hd]
  rfl
theorem cf_si1 {b : Nat → Int32} {n t e p k T : Nat} {σ : PSt} (h : kwN (letA b n (skA b n t)) = k) (h0 : 1 ≤ k ∧ k ≤ 9) (ht : ¬ σ.2.2.2.2 k = true) (hT : T = skA b n t + (letA b n (skA b n t)).length) (he : (siC b n k T).1 = e) (h1 : 1 ≤ e) (hp : (siC b n k T).2.1 = p) : (clF b n t σ).1 = e ∧ (clF b n t σ).2.1 = p := by
  unfold clF
  rw [h, if_neg (by omega), if_neg (by omega), if_neg ht, ← hT]
  rcases hd : siC b n k T with ⟨e2, p2, t2, v, v2⟩
  rw [hd] at he hp
  have he2 : e2 = e := he
  have hp2 : p2 = p := hp
  have h0 : ¬ e2 = 0 := by omega
  simp only [h0, if_false]
  exact ⟨he2, hp2⟩
theorem cf_si0 {b : Nat → Int32} {n t t1 k T : Nat} {v v2 : Int32} {σ : PSt} (h : kwN (letA b n (skA b n t)) = k) (h0 : 1 ≤ k ∧ k ≤ 9) (ht : ¬ σ.2.2.2.2 k = true) (hT : T = skA b n t + (letA b n (skA b n t)).length) (hd : siC b n k T = (0, 0, t1, v, v2)) : clF b n t σ = (0, 0, t1, (σ.1, (if k = 7 then upd (upd σ.2.1 7 v) 8 v2 else upd σ.2.1 k v), σ.2.2.1, σ.2.2.2.1, setB σ.2.2.2.2 k)) := by
  unfold clF
  rw [h, if_neg (by omega), if_neg (by omega), if_neg ht, ← hT, hd]
  rfl
/-- the class's state behind a clause -/
theorem stX_do {n see tm m : Nat} {g ff fp ff2 fp2 : Nat → Int32} {to : Int32} {v3 v5 : Int32} (h1 : ∀ j, ff2 j = if n ≤ j ∧ j < n + m then v3 else ff j) (h2 : ∀ j, fp2 j = if n ≤ j ∧ j < n + m then v5 else fp j) : stX (n + m) see tm g ff2 fp2 to = (n + m, nG (vv n see tm g), filF (clp n ff) n m v3, filF (clp n fp) n m v5, toX to) := by
  unfold stX
  rw [clp_fil h1, clp_fil h2, nG_vv (n + m) n]
theorem stX_si {n see tm see2 tm2 k : Nat} {g g2 ff fp : Nat → Int32} {to : Int32} {v v2 : Int32} (hk : 1 ≤ k ∧ k ≤ 9) (h : vv n see2 tm2 g2 = if k = 7 then upd (upd (vv n see tm g) 7 v) 8 v2 else upd (vv n see tm g) k v) : stX n see2 tm2 g2 ff fp (to ||| ((1 : Int32) <<< (nI k &&& 31))) = (n, (if k = 7 then upd (upd (nG (vv n see tm g)) 7 v) 8 v2 else upd (nG (vv n see tm g)) k v), clp n ff, clp n fp, setB (toX to) k) := by
  unfold stX
  rw [toX_or hk, h]
  by_cases h7 : k = 7
  · rw [if_pos h7, if_pos h7, nG_upd (by omega), nG_upd (by omega)]
  · rw [if_neg h7, if_neg h7, nG_upd hk]
theorem bit0 {m : Int32} {k : Nat} (hk : 1 ≤ k ∧ k ≤ 9) (h : (m >>> (nI 0 &&& 31)) &&& 1 = 0) : ((m ||| ((1 : Int32) <<< (nI k &&& 31))) >>> (nI 0 &&& 31)) &&& 1 = 0 := by
  have h2 := (bitI m (c := 0) (by omega)).mp h
  refine (bitI _ (c := 0) (by omega)).mpr ?_
  rw [bit_or m (by omega) (by omega), h2]
  simp
  omega


set_option maxHeartbeats 4000000 in
set_option maxRecDepth 100000 in
theorem y_Street_readFrom (l : Launch) (D : va_G) (k : Nat → ClassId) (st : Nat → Nat) (lo : Nat) (h0 : Nat) (h1 : Nat) (h2 : Nat) (h3 : Nat) (h4 : Nat) (n : Nat) (see : Nat) (tm : Nat) (g : Nat → Int32) (ff : Nat → Int32) (fp : Nat → Int32) (x0 : Nat) (x1 : Nat) (tz : Nat) (ta : Nat) (na : Int32) (fn : Int32) (fb : Int32) (fx : Nat → Int32) (ht : ta ≤ tz) (hz : tz ≤ 240) (hf0 : fn = 0) : CWv l D k st lo yX5_readFrom cX5_readFrom 6 none ({ frames := 7, cells := 0, slots := 0, locals := 155 }) 0 0 [.ref h0, .ref x0] [(h0, .inr (5, (fX5 h1 h2 h3 h4))), (aI k h1 10 (vv n see tm g)), (aI k h2 24 ff), (aI k h3 24 fp), (x0, .inr (6, (fX6 x1 (nI tz) (nI ta) na fn fb))), (aB k x1 240 fx)] (fun (u : Nat × Nat × Nat × (Nat → Int32) × (Nat → Int32) × (Nat → Int32) × Nat × Int32 × Int32 × Int32) => match u with | (n_, see_, tm_, g_, ff_, fp_, ta_, na_, fn_, fb_) => ((fn_ = 0 ∧ ∃ m : Int32, stF (bF fx) tz ta = (0, 0, stX n_ see_ tm_ g_ ff_ fp_ m) ∧ 1 ≤ n_) ∨ (∃ e pl : Nat, fn_ = nI e ∧ 1 ≤ e ∧ e ≤ 4 ∧ (stF (bF fx) tz ta).1 = e ∧ (stF (bF fx) tz ta).2.1 = pl ∧ fb_ = nI pl)) ∧ n_ ≤ 24 ∧ see_ ≤ 2 ∧ tm_ ≤ 3 ∧ ta_ ≤ tz) (fun (u : Nat × Nat × Nat × (Nat → Int32) × (Nat → Int32) × (Nat → Int32) × Nat × Int32 × Int32 × Int32) => match u with | (n_, see_, tm_, g_, ff_, fp_, ta_, na_, fn_, fb_) => [(h0, .inr (5, (fX5 h1 h2 h3 h4))), (aI k h1 10 (vv n_ see_ tm_ g_)), (aI k h2 24 ff_), (aI k h3 24 fp_), (x0, .inr (6, (fX6 x1 (nI tz) (nI ta_) na_ fn_ fb_))), (aB k x1 240 fx)]) := by
  intro sz
  refine Met.ofW (cc := cX5_readFrom) (maxL := 6) (ret := none) (by decide) rfl ?_
  intro p e s m args below meth c s₁ B hml hv
  obtain ⟨rfl, hsz, hlo, hP, hK, hDL, hZ⟩ := hv
  have hx := B.exec
  have hb := B.bytes
  have hr := B.returns
  have hts := WS_ts B.pre
  have hown : s.vm.findClass RX5 = some m.cls := findClass_of_methodNamed B.named
  have hlocks := B.notSynchronized
  subst hsz
  have hD := hDL.self (sz := s.heap.size)
  have hAlo := A_lo hDL hlo
  generalize hAe : va_A [(h0, .inr (5, (fX5 h1 h2 h3 h4))), (aI k h1 10 (vv n see tm g)), (aI k h2 24 ff), (aI k h3 24 fp), (x0, .inr (6, (fX6 x1 (nI tz) (nI ta) na fn fb))), (aB k x1 240 fx)] s.heap.size = A at hD hAlo ⊢
  have hA : ∀ q : Nat, s.heap.size ≤ q → A q := fun q h => by rw [← hAe]; exact Or.inr h
  have hS : va_S A s.heap s.heap [] := va_S.rf
  have hl := lv_entry ([.ref h0, .ref x0]) (n := 6) (Nat.le_of_ble_eq_true rfl)
  rw [lg_entry_eq]
  generalize (lg_sl ([.ref h0, .ref x0]) ++ List.replicate (6 - (lg_sl ([.ref h0, .ref x0])).length) Slot.unset).toArray = ls at hl ⊢
  have hl : lv_has ls 6 [(0, .ref h0), (1, .ref x0)] := hl
  subst hf0
  refine va_getsN (A := A) hx hb (hZ.1.narrow hAlo) hS hown ((hZ.2.2.2.2.2.2.2.2.1.2.1 (RX5, 40, "LastPlace", "NOT_TOLD", "[I", RX7) (List.mem_of_getElem? (i := 0) rfl)).use rfl) (fun _ h9 => h9) dX5_readFrom_0 ?_
  refine lv_iconst (v := 0) hx hb dX5_readFrom_3 (by decide) ?_
  refine lv_aload_n hx hb dX5_readFrom_4 rfl (lv_at hl 0 rfl) ?_
  refine va_get (D := D) (ci := 5) (v := .ref h1) (C := RX5) (T := TX5) (N := 4) hx hb hts inX5 hown hK hP 0 rfl rfl 0 (by decide) (hts _ tw_146) (fun _ h9 => h9) rfl dX5_readFrom_5 ?_
  refine lv_iconst (v := 0) hx hb dX5_readFrom_8 (by decide) ?_
  refine lv_bipush (v := 10) hx hb dX5_readFrom_9 (by decide) ?_
  refine cpT (A := A) hx hb (by rw [hml]; exact hl.1.symm) hown (hts _ tw_364) (hts _ tw_366) (hts _ tw_365) (hts _ tw_88) hK hP hD hS (hZ.2.1.narrow hAlo) 1 1 rfl rfl (by decide) (by decide) (by decide) (by decide) (by decide) (Nat.le_of_ble_eq_true rfl) (Nat.le_of_ble_eq_true rfl) dX5_readFrom_11 (fun H locs hP hD hS => ?_)
  replace hP : va_P D classes [(h0, .inr (5, (fX5 h1 h2 h3 h4))), (aI k h1 10 (va_cpy zNT (vv n see tm g) 0 0 10)), (aI k h2 24 ff), (aI k h3 24 fp), (x0, .inr (6, (fX6 x1 (nI tz) (nI ta) na 0 fb))), (aB k x1 240 fx)] H := hP
  replace hD : va_D A [(h0, .inr (5, (fX5 h1 h2 h3 h4))), (aI k h1 10 (va_cpy zNT (vv n see tm g) 0 0 10)), (aI k h2 24 ff), (aI k h3 24 fp), (x0, .inr (6, (fX6 x1 (nI tz) (nI ta) na 0 fb))), (aB k x1 240 fx)] := hD
  rw [show va_cpy zNT (vv n see tm g) 0 0 10 = vv 0 1 0 (va_cpy zNT g 0 0 10) from vv_cpN _ _ _ _] at hP hD
  obtain ⟨gg_1, hgg_1⟩ : ∃ z : Nat → Int32, z = va_cpy zNT g 0 0 10 := ⟨_, rfl⟩
  rw [← hgg_1] at hP hD
  replace hP : va_P D classes [(h0, .inr (5, (fX5 h1 h2 h3 h4))), (aI k h1 10 (vv 0 1 0 gg_1)), (aI k h2 24 ff), (aI k h3 24 fp), (x0, .inr (6, (fX6 x1 (nI tz) (nI ta) na 0 fb))), (aB k x1 240 fx)] H := hP
  replace hD : va_D A [(h0, .inr (5, (fX5 h1 h2 h3 h4))), (aI k h1 10 (vv 0 1 0 gg_1)), (aI k h2 24 ff), (aI k h3 24 fp), (x0, .inr (6, (fX6 x1 (nI tz) (nI ta) na 0 fb))), (aB k x1 240 fx)] := hD
  refine lv_iconst (v := 0) hx hb dX5_readFrom_14 (by decide) ?_
  refine lv_istore_n (lv' := [(2, .int 0), (0, .ref h0), (1, .ref x0)]) hx hb dX5_readFrom_15 rfl hl (by decide) rfl (fun ls hl => ?_)
  refine lv_iconst (v := 0) hx hb dX5_readFrom_16 (by decide) ?_
  refine lv_istore_n (lv' := [(3, .int 0), (2, .int 0), (0, .ref h0), (1, .ref x0)]) hx hb dX5_readFrom_17 rfl hl (by decide) rfl (fun ls hl => ?_)
  refine W_loop (σ := Nat × Int32 × Nat × Nat × Nat × (Nat → Int32) × (Nat → Int32) × (Nat → Int32) × Nat × Int32 × Int32 × Int32) (fun (n_ : Nat) (x_ : Nat × Int32 × Nat × Nat × Nat × (Nat → Int32) × (Nat → Int32) × (Nat → Int32) × Nat × Int32 × Int32 × Int32) (H : Heap) (locs : List Loc) (ls : Array Slot) => match x_ with | (kk_3, to2_3, n2_3, see2_3, tm2_3, g2_3, ff2_3, fp2_3, ta2_3, na2_3, fn2_3, fb2_3) => n_ = 240 - kk_3 ∧ (kk_3 ≤ 240 ∧ n2_3 ≤ 24 ∧ see2_3 ≤ 2 ∧ tm2_3 ≤ 3 ∧ ta2_3 ≤ tz ∧ (to2_3 >>> (nI 0 &&& 31)) &&& 1 = 0 ∧ ((fn2_3 = 0 ∧ stL (bF fx) tz (240 - kk_3) ta2_3 (stX n2_3 see2_3 tm2_3 g2_3 ff2_3 fp2_3 to2_3) = (stL (bF fx) tz 240 ta st0)) ∨ (∃ e pl : Nat, fn2_3 = nI e ∧ 1 ≤ e ∧ e ≤ 4 ∧ (stL (bF fx) tz 240 ta st0).1 = e ∧ (stL (bF fx) tz 240 ta st0).2.1 = pl ∧ fb2_3 = nI pl))) ∧ va_P D classes [(h0, .inr (5, (fX5 h1 h2 h3 h4))), (aI k h1 10 (vv n2_3 see2_3 tm2_3 g2_3)), (aI k h2 24 ff2_3), (aI k h3 24 fp2_3), (x0, .inr (6, (fX6 x1 (nI tz) (nI ta2_3) na2_3 fn2_3 fb2_3))), (aB k x1 240 fx)] H ∧ va_D A [(h0, .inr (5, (fX5 h1 h2 h3 h4))), (aI k h1 10 (vv n2_3 see2_3 tm2_3 g2_3)), (aI k h2 24 ff2_3), (aI k h3 24 fp2_3), (x0, .inr (6, (fX6 x1 (nI tz) (nI ta2_3) na2_3 fn2_3 fb2_3))), (aB k x1 240 fx)] ∧ va_S A s.heap H locs ∧ lv_has ls 6 [(3, .int (nI kk_3)), (2, .int to2_3), (0, .ref h0), (1, .ref x0)]) (fun n_3 x_3 H locs ls hI ih_3 => ?_) _ (0, 0, 0, 1, 0, gg_1, ff, fp, ta, na, 0, fb) ⟨rfl, ⟨by omega, by omega, by omega, by omega, by omega, by decide, .inl ⟨rfl, by rw [stX_0 hgg_1]⟩⟩, hP, hD, hS, (lv_sub hl [0, 1, 2, 3] rfl)⟩
  obtain ⟨kk_3, to2_3, n2_3, see2_3, tm2_3, g2_3, ff2_3, fp2_3, ta2_3, na2_3, fn2_3, fb2_3⟩ := x_3
  obtain ⟨hm_3, hv_3, hP, hD, hS, hl⟩ := hI
  subst hm_3
  refine lv_iload_n hx hb dX5_readFrom_18 rfl (lv_at hl 0 rfl) ?_
  refine lv_sipush (v := 240) hx hb dX5_readFrom_19 (by decide) ?_
  refine lv_icmp_ge (tgt := 119) hx hb dX5_readFrom_22 (by decide) (fun c_4 => ?_) (fun c_4 => ?_)
  · have c_4 := (nI_leI (a := 240) (b := kk_3) (by omega) (by omega)).mp c_4
    refine lv_aload_n hx hb dX5_readFrom_119 rfl (lv_at hl 3 rfl) ?_
    refine ro_i (D := D) (va_runV (As := []) (rest := []) ⟨hx, hb, hml, hown, hts⟩ ((x_failed l D k st lo x0 x1 tz ta2_3 na2_3 fn2_3 fb2_3) H.size) (cwV 0 hts (gV tw_367 tw_368 tw_369 tw_80 tw_370) rfl rfl rfl (by decide +kernel) ⟨Nat.le_of_ble_eq_true rfl, Nat.le_of_ble_eq_true rfl⟩) (pV hS hAlo hlo hP hK (va_Dlo hD hAlo) hZ [4] (by decide) rfl (ci := 6) (q := (RX6, TX6, 6)) (q0 := 0) rfl rfl) rfl rfl hl.1 rfl (lv_room (Nat.le_of_ble_eq_true rfl)) dX5_readFrom_120 ⟨Nat.le_of_ble_eq_true rfl, Nat.le_of_ble_eq_true rfl⟩) hS hA hP (fun r_5 H locs hw_5 hP hS => ?_)
    try dsimp only at hw_5
    rcases hw_5 with ⟨rfl, hw_5⟩ | ⟨rfl, rfl⟩
    · refine lv_if_ne (tgt := 142) hx hb dX5_readFrom_123 (by decide) (fun _ => ?_) (fun h => absurd h (by decide))
      have hP9 := hP.sub (ws' := [(h0, .inr (5, (fX5 h1 h2 h3 h4))), (aI k h1 10 (vv n2_3 see2_3 tm2_3 g2_3)), (aI k h2 24 ff2_3), (aI k h3 24 fp2_3), (x0, .inr (6, (fX6 x1 (nI tz) (nI ta2_3) na2_3 fn2_3 fb2_3))), (aB k x1 240 fx)]) [0, 1, 2, 3, 4, 5] rfl
      have hD9 := hD.sub (ws' := [(h0, .inr (5, (fX5 h1 h2 h3 h4))), (aI k h1 10 (vv n2_3 see2_3 tm2_3 g2_3)), (aI k h2 24 ff2_3), (aI k h3 24 fp2_3), (x0, .inr (6, (fX6 x1 (nI tz) (nI ta2_3) na2_3 fn2_3 fb2_3))), (aB k x1 240 fx)]) [0, 1, 2, 3, 4, 5] (by decide) rfl
      exact W.vret hx hb hr (fun t ht hW => ⟨⟨(n2_3, see2_3, tm2_3, g2_3, ff2_3, fp2_3, ta2_3, na2_3, fn2_3, fb2_3), rfl, ⟨(by rcases hv_3.2.2.2.2.2.2 with ⟨h, -⟩ | ⟨e, pl, h, h1, h2, h3, h4, h5⟩; exact absurd h hw_5; exact .inr ⟨e, pl, h, h1, h2, (sf_er h3 h1 h4).1, (sf_er h3 h1 h4).2, h5⟩), by omega, by omega, by omega, by omega⟩, by rw [ht]; exact hP9, hD9⟩, hS.F ht⟩) hS.2.2 dX5_readFrom_142
    · refine lv_if_ne (tgt := 142) hx hb dX5_readFrom_123 (by decide) (fun h => absurd (by decide) h) (fun _ => ?_)
      have hst_6 : stL (bF fx) tz (240 - kk_3) ta2_3 (stX n2_3 see2_3 tm2_3 g2_3 ff2_3 fp2_3 to2_3) = (stL (bF fx) tz 240 ta st0) := by rcases hv_3.2.2.2.2.2.2 with ⟨-, h⟩ | ⟨e, pl, h, h1, h2, -⟩; exact h; exact absurd h.symm (nI_ne0 (by omega) (by omega))
      have hend_6 : (stL (bF fx) tz 240 ta st0) = (0, 0, stX n2_3 see2_3 tm2_3 g2_3 ff2_3 fp2_3 to2_3) := (((by rw [show 240 - kk_3 = 0 by omega] at hst_6; exact hst_6) : (0, 0, stX n2_3 see2_3 tm2_3 g2_3 ff2_3 fp2_3 to2_3) = (stL (bF fx) tz 240 ta st0))).symm
      refine lv_aload_n hx hb dX5_readFrom_126 rfl (lv_at hl 2 rfl) ?_
      refine ro_i (D := D) (va_runV (As := []) (rest := []) ⟨hx, hb, hml, hown, hts⟩ ((x_doors l D k st lo h0 h1 h2 h3 h4 n2_3 see2_3 tm2_3 g2_3) H.size) (cwV 0 hts (gV tw_477 tw_478 tw_479 tw_81 tw_480) rfl rfl rfl (by decide +kernel) ⟨Nat.le_of_ble_eq_true rfl, Nat.le_of_ble_eq_true rfl⟩) (pV hS hAlo hlo hP hK (va_Dlo hD hAlo) hZ [0, 1] (by decide) rfl (ci := 5) (q := (RX5, TX5, 4)) (q0 := 0) rfl rfl) rfl rfl hl.1 rfl (lv_room (Nat.le_of_ble_eq_true rfl)) dX5_readFrom_127 ⟨Nat.le_of_ble_eq_true rfl, Nat.le_of_ble_eq_true rfl⟩) hS hA hP (fun r_7 H locs hw_7 hP hS => ?_)
      try dsimp only at hw_7
      subst hw_7
      refine lv_if_ne (tgt := 142) hx hb dX5_readFrom_130 (by decide) (fun c_8 => ?_) (fun c_8 => ?_)
      · have c_8 : ¬ (n2_3 = 0) := fun h => c_8 ((nI_eq (a := n2_3) (b := 0) (by omega) (by omega)).mpr h)
        have hP9 := hP.sub (ws' := [(h0, .inr (5, (fX5 h1 h2 h3 h4))), (aI k h1 10 (vv n2_3 see2_3 tm2_3 g2_3)), (aI k h2 24 ff2_3), (aI k h3 24 fp2_3), (x0, .inr (6, (fX6 x1 (nI tz) (nI ta2_3) na2_3 0 fb2_3))), (aB k x1 240 fx)]) [0, 1, 2, 3, 4, 5] rfl
        have hD9 := hD.sub (ws' := [(h0, .inr (5, (fX5 h1 h2 h3 h4))), (aI k h1 10 (vv n2_3 see2_3 tm2_3 g2_3)), (aI k h2 24 ff2_3), (aI k h3 24 fp2_3), (x0, .inr (6, (fX6 x1 (nI tz) (nI ta2_3) na2_3 0 fb2_3))), (aB k x1 240 fx)]) [0, 1, 2, 3, 4, 5] (by decide) rfl
        exact W.vret hx hb hr (fun t ht hW => ⟨⟨(n2_3, see2_3, tm2_3, g2_3, ff2_3, fp2_3, ta2_3, na2_3, 0, fb2_3), rfl, ⟨.inl ⟨rfl, _, sf_ok hend_6 (show 1 ≤ n2_3 by omega), by omega⟩, by omega, by omega, by omega, by omega⟩, by rw [ht]; exact hP9, hD9⟩, hS.F ht⟩) hS.2.2 dX5_readFrom_142
      · have c_8 := (nI_eq (a := n2_3) (b := 0) (by omega) (by omega)).mp c_8
        refine lv_aload_n hx hb dX5_readFrom_133 rfl (lv_at hl 3 rfl) ?_
        refine lv_iconst (v := 1) hx hb dX5_readFrom_134 (by decide) ?_
        refine lv_aload_n hx hb dX5_readFrom_135 rfl (lv_at hl 3 rfl) ?_
        refine va_get (D := D) (ci := 6) (v := .int (nI tz)) (C := RX6) (T := TX6) (N := 6) hx hb hts inX6 hown hK hP 4 rfl rfl 1 (by decide) (hts _ tw_112) (fun _ h9 => h9) rfl dX5_readFrom_136 ?_
        refine rw_v (D := D) (wr := [(h0, .inr (5, (fX5 h1 h2 h3 h4))), (aI k h1 10 (vv n2_3 see2_3 tm2_3 g2_3)), (aI k h2 24 ff2_3), (aI k h3 24 fp2_3), (aB k x1 240 fx)]) (va_runV (As := [.int 1, .int (nI tz)]) (rest := []) ⟨hx, hb, hml, hown, hts⟩ ((y_fail l D k st lo x0 x1 tz ta2_3 na2_3 0 fb2_3 1 (nI tz) (by decide)) H.size) (cwV 2 hts (gV tw_455 tw_456 tw_457 tw_80 tw_458) rfl rfl rfl (by decide +kernel) ⟨Nat.le_of_ble_eq_true rfl, Nat.le_of_ble_eq_true rfl⟩) (pV hS hAlo hlo hP hK (va_Dlo hD hAlo) hZ [4] (by decide) rfl (ci := 6) (q := (RX6, TX6, 6)) (q0 := 0) rfl rfl) rfl rfl hl.1 rfl (lv_room (Nat.le_of_ble_eq_true rfl)) dX5_readFrom_139 ⟨Nat.le_of_ble_eq_true rfl, Nat.le_of_ble_eq_true rfl⟩) hS hA hP hD [4] [0, 1, 2, 3, 5] rfl rfl (by decide) (by decide) (fun u H locs hw_9 hP hD hS => ?_)
        obtain ⟨fn__9, fb__9⟩ := u
        replace hP : va_P D classes [(h0, .inr (5, (fX5 h1 h2 h3 h4))), (aI k h1 10 (vv n2_3 see2_3 tm2_3 g2_3)), (aI k h2 24 ff2_3), (aI k h3 24 fp2_3), (aB k x1 240 fx), (x0, .inr (6, (fX6 x1 (nI tz) (nI ta2_3) na2_3 fn__9 fb__9)))] H := hP
        replace hD : va_D A [(h0, .inr (5, (fX5 h1 h2 h3 h4))), (aI k h1 10 (vv n2_3 see2_3 tm2_3 g2_3)), (aI k h2 24 ff2_3), (aI k h3 24 fp2_3), (aB k x1 240 fx), (x0, .inr (6, (fX6 x1 (nI tz) (nI ta2_3) na2_3 fn__9 fb__9)))] := hD
        try dsimp only at hw_9
        obtain ⟨hs0_10, hs1_10⟩ := hw_9.2.1 rfl
        replace hs0_10 := hs0_10.symm
        subst hs0_10
        replace hs1_10 := hs1_10.symm
        subst hs1_10
        have hP9 := hP.sub (ws' := [(h0, .inr (5, (fX5 h1 h2 h3 h4))), (aI k h1 10 (vv n2_3 see2_3 tm2_3 g2_3)), (aI k h2 24 ff2_3), (aI k h3 24 fp2_3), (x0, .inr (6, (fX6 x1 (nI tz) (nI ta2_3) na2_3 1 (nI tz)))), (aB k x1 240 fx)]) [0, 1, 2, 3, 5, 4] rfl
        have hD9 := hD.sub (ws' := [(h0, .inr (5, (fX5 h1 h2 h3 h4))), (aI k h1 10 (vv n2_3 see2_3 tm2_3 g2_3)), (aI k h2 24 ff2_3), (aI k h3 24 fp2_3), (x0, .inr (6, (fX6 x1 (nI tz) (nI ta2_3) na2_3 1 (nI tz)))), (aB k x1 240 fx)]) [0, 1, 2, 3, 5, 4] (by decide) rfl
        exact W.vret hx hb hr (fun t ht hW => ⟨⟨(n2_3, see2_3, tm2_3, g2_3, ff2_3, fp2_3, ta2_3, na2_3, 1, (nI tz)), rfl, ⟨.inr ⟨1, tz, rfl, by decide, by decide, (sf_no hend_6 (show n2_3 = 0 by omega)).1, (sf_no hend_6 (show n2_3 = 0 by omega)).2, rfl⟩, by omega, by omega, by omega, by omega⟩, by rw [ht]; exact hP9, hD9⟩, hS.F ht⟩) hS.2.2 dX5_readFrom_142
  · have c_4 : ¬ (240 ≤ kk_3) := fun h => c_4 ((nI_leI (a := 240) (b := kk_3) (by omega) (by omega)).mpr h)
    refine lv_aload_n hx hb dX5_readFrom_25 rfl (lv_at hl 3 rfl) ?_
    refine ro_i (D := D) (va_runV (As := []) (rest := []) ⟨hx, hb, hml, hown, hts⟩ ((x_failed l D k st lo x0 x1 tz ta2_3 na2_3 fn2_3 fb2_3) H.size) (cwV 0 hts (gV tw_367 tw_368 tw_369 tw_80 tw_370) rfl rfl rfl (by decide +kernel) ⟨Nat.le_of_ble_eq_true rfl, Nat.le_of_ble_eq_true rfl⟩) (pV hS hAlo hlo hP hK (va_Dlo hD hAlo) hZ [4] (by decide) rfl (ci := 6) (q := (RX6, TX6, 6)) (q0 := 0) rfl rfl) rfl rfl hl.1 rfl (lv_room (Nat.le_of_ble_eq_true rfl)) dX5_readFrom_26 ⟨Nat.le_of_ble_eq_true rfl, Nat.le_of_ble_eq_true rfl⟩) hS hA hP (fun r_11 H locs hw_11 hP hS => ?_)
    try dsimp only at hw_11
    rcases hw_11 with ⟨rfl, hw_11⟩ | ⟨rfl, rfl⟩
    · refine lv_if_ne (tgt := 119) hx hb dX5_readFrom_29 (by decide) (fun _ => ?_) (fun h => absurd h (by decide))
      refine lv_aload_n hx hb dX5_readFrom_119 rfl (lv_at hl 3 rfl) ?_
      refine ro_i (D := D) (va_runV (As := []) (rest := []) ⟨hx, hb, hml, hown, hts⟩ ((x_failed l D k st lo x0 x1 tz ta2_3 na2_3 fn2_3 fb2_3) H.size) (cwV 0 hts (gV tw_367 tw_368 tw_369 tw_80 tw_370) rfl rfl rfl (by decide +kernel) ⟨Nat.le_of_ble_eq_true rfl, Nat.le_of_ble_eq_true rfl⟩) (pV hS hAlo hlo hP hK (va_Dlo hD hAlo) hZ [4] (by decide) rfl (ci := 6) (q := (RX6, TX6, 6)) (q0 := 0) rfl rfl) rfl rfl hl.1 rfl (lv_room (Nat.le_of_ble_eq_true rfl)) dX5_readFrom_120 ⟨Nat.le_of_ble_eq_true rfl, Nat.le_of_ble_eq_true rfl⟩) hS hA hP (fun r_12 H locs hw_12 hP hS => ?_)
      try dsimp only at hw_12
      obtain rfl : r_12 = 1 := by rcases hw_12 with ⟨h, h2⟩ | ⟨h, h2⟩ <;> first | exact h | exact absurd h2 hw_11
      refine lv_if_ne (tgt := 142) hx hb dX5_readFrom_123 (by decide) (fun _ => ?_) (fun h => absurd h (by decide))
      have hP9 := hP.sub (ws' := [(h0, .inr (5, (fX5 h1 h2 h3 h4))), (aI k h1 10 (vv n2_3 see2_3 tm2_3 g2_3)), (aI k h2 24 ff2_3), (aI k h3 24 fp2_3), (x0, .inr (6, (fX6 x1 (nI tz) (nI ta2_3) na2_3 fn2_3 fb2_3))), (aB k x1 240 fx)]) [0, 1, 2, 3, 4, 5] rfl
      have hD9 := hD.sub (ws' := [(h0, .inr (5, (fX5 h1 h2 h3 h4))), (aI k h1 10 (vv n2_3 see2_3 tm2_3 g2_3)), (aI k h2 24 ff2_3), (aI k h3 24 fp2_3), (x0, .inr (6, (fX6 x1 (nI tz) (nI ta2_3) na2_3 fn2_3 fb2_3))), (aB k x1 240 fx)]) [0, 1, 2, 3, 4, 5] (by decide) rfl
      exact W.vret hx hb hr (fun t ht hW => ⟨⟨(n2_3, see2_3, tm2_3, g2_3, ff2_3, fp2_3, ta2_3, na2_3, fn2_3, fb2_3), rfl, ⟨(by rcases hv_3.2.2.2.2.2.2 with ⟨h, -⟩ | ⟨e, pl, h, h1, h2, h3, h4, h5⟩; exact absurd h hw_11; exact .inr ⟨e, pl, h, h1, h2, (sf_er h3 h1 h4).1, (sf_er h3 h1 h4).2, h5⟩), by omega, by omega, by omega, by omega⟩, by rw [ht]; exact hP9, hD9⟩, hS.F ht⟩) hS.2.2 dX5_readFrom_142
    · refine lv_if_ne (tgt := 119) hx hb dX5_readFrom_29 (by decide) (fun h => absurd (by decide) h) (fun _ => ?_)
      have hst_13 : stL (bF fx) tz (240 - kk_3) ta2_3 (stX n2_3 see2_3 tm2_3 g2_3 ff2_3 fp2_3 to2_3) = (stL (bF fx) tz 240 ta st0) := by rcases hv_3.2.2.2.2.2.2 with ⟨-, h⟩ | ⟨e, pl, h, h1, h2, -⟩; exact h; exact absurd h.symm (nI_ne0 (by omega) (by omega))
      refine lv_aload_n hx hb dX5_readFrom_32 rfl (lv_at hl 3 rfl) ?_
      refine rw_i (D := D) (wr := [(h0, .inr (5, (fX5 h1 h2 h3 h4))), (aI k h1 10 (vv n2_3 see2_3 tm2_3 g2_3)), (aI k h2 24 ff2_3), (aI k h3 24 fp2_3)]) (va_runV (As := []) (rest := []) ⟨hx, hb, hml, hown, hts⟩ ((y_isAtEnd l D k st lo x0 x1 tz ta2_3 na2_3 0 fb2_3 fx (by first | assumption | omega) (by first | assumption | omega)) H.size) (cwV 0 hts (gV tw_371 tw_372 tw_373 tw_80 tw_374) rfl rfl rfl (by decide +kernel) ⟨Nat.le_of_ble_eq_true rfl, Nat.le_of_ble_eq_true rfl⟩) (pV hS hAlo hlo hP hK (va_Dlo hD hAlo) hZ [4, 5] (by decide) rfl (ci := 6) (q := (RX6, TX6, 6)) (q0 := 0) rfl rfl) rfl rfl hl.1 rfl (lv_room (Nat.le_of_ble_eq_true rfl)) dX5_readFrom_33 ⟨Nat.le_of_ble_eq_true rfl, Nat.le_of_ble_eq_true rfl⟩) hS hA hP hD [4, 5] [0, 1, 2, 3] rfl rfl (by decide) (by decide) (fun r_14 u H locs hw_14 hP hD hS => ?_)
      obtain ⟨ta__14, rfl⟩ : ∃ z, z = u := ⟨_, rfl⟩
      replace hP : va_P D classes [(h0, .inr (5, (fX5 h1 h2 h3 h4))), (aI k h1 10 (vv n2_3 see2_3 tm2_3 g2_3)), (aI k h2 24 ff2_3), (aI k h3 24 fp2_3), (x0, .inr (6, (fX6 x1 (nI tz) (nI ta__14) na2_3 0 fb2_3))), (aB k x1 240 fx)] H := hP
      replace hD : va_D A [(h0, .inr (5, (fX5 h1 h2 h3 h4))), (aI k h1 10 (vv n2_3 see2_3 tm2_3 g2_3)), (aI k h2 24 ff2_3), (aI k h3 24 fp2_3), (x0, .inr (6, (fX6 x1 (nI tz) (nI ta__14) na2_3 0 fb2_3))), (aB k x1 240 fx)] := hD
      try dsimp only at hw_14
      rcases hw_14 with ⟨⟨rfl, hz_14⟩ | ⟨rfl, hz_14⟩, hw_14⟩
      · refine lv_if_ne (tgt := 119) hx hb dX5_readFrom_36 (by decide) (fun _ => ?_) (fun h => absurd h (by decide))
        refine lv_aload_n hx hb dX5_readFrom_119 rfl (lv_at hl 3 rfl) ?_
        refine ro_i (D := D) (va_runV (As := []) (rest := []) ⟨hx, hb, hml, hown, hts⟩ ((x_failed l D k st lo x0 x1 tz ta__14 na2_3 0 fb2_3) H.size) (cwV 0 hts (gV tw_367 tw_368 tw_369 tw_80 tw_370) rfl rfl rfl (by decide +kernel) ⟨Nat.le_of_ble_eq_true rfl, Nat.le_of_ble_eq_true rfl⟩) (pV hS hAlo hlo hP hK (va_Dlo hD hAlo) hZ [4] (by decide) rfl (ci := 6) (q := (RX6, TX6, 6)) (q0 := 0) rfl rfl) rfl rfl hl.1 rfl (lv_room (Nat.le_of_ble_eq_true rfl)) dX5_readFrom_120 ⟨Nat.le_of_ble_eq_true rfl, Nat.le_of_ble_eq_true rfl⟩) hS hA hP (fun r_15 H locs hw_15 hP hS => ?_)
        try dsimp only at hw_15
        obtain rfl : r_15 = 0 := by rcases hw_15 with ⟨h, h2⟩ | ⟨h, h2⟩ <;> first | exact h | exact absurd rfl h2 | exact absurd h2 (by decide)
        refine lv_if_ne (tgt := 142) hx hb dX5_readFrom_123 (by decide) (fun h => absurd (by decide) h) (fun _ => ?_)
        have hend_16 : (stL (bF fx) tz 240 ta st0) = (0, 0, stX n2_3 see2_3 tm2_3 g2_3 ff2_3 fp2_3 to2_3) := (((sl_end (show ¬ skA (bF fx) tz ta2_3 < tz by rw [← hw_14.1]; omega)).symm.trans hst_13 : (0, 0, stX n2_3 see2_3 tm2_3 g2_3 ff2_3 fp2_3 to2_3) = (stL (bF fx) tz 240 ta st0))).symm
        refine lv_aload_n hx hb dX5_readFrom_126 rfl (lv_at hl 2 rfl) ?_
        refine ro_i (D := D) (va_runV (As := []) (rest := []) ⟨hx, hb, hml, hown, hts⟩ ((x_doors l D k st lo h0 h1 h2 h3 h4 n2_3 see2_3 tm2_3 g2_3) H.size) (cwV 0 hts (gV tw_477 tw_478 tw_479 tw_81 tw_480) rfl rfl rfl (by decide +kernel) ⟨Nat.le_of_ble_eq_true rfl, Nat.le_of_ble_eq_true rfl⟩) (pV hS hAlo hlo hP hK (va_Dlo hD hAlo) hZ [0, 1] (by decide) rfl (ci := 5) (q := (RX5, TX5, 4)) (q0 := 0) rfl rfl) rfl rfl hl.1 rfl (lv_room (Nat.le_of_ble_eq_true rfl)) dX5_readFrom_127 ⟨Nat.le_of_ble_eq_true rfl, Nat.le_of_ble_eq_true rfl⟩) hS hA hP (fun r_17 H locs hw_17 hP hS => ?_)
        try dsimp only at hw_17
        subst hw_17
        refine lv_if_ne (tgt := 142) hx hb dX5_readFrom_130 (by decide) (fun c_18 => ?_) (fun c_18 => ?_)
        · have c_18 : ¬ (n2_3 = 0) := fun h => c_18 ((nI_eq (a := n2_3) (b := 0) (by omega) (by omega)).mpr h)
          have hP9 := hP.sub (ws' := [(h0, .inr (5, (fX5 h1 h2 h3 h4))), (aI k h1 10 (vv n2_3 see2_3 tm2_3 g2_3)), (aI k h2 24 ff2_3), (aI k h3 24 fp2_3), (x0, .inr (6, (fX6 x1 (nI tz) (nI ta__14) na2_3 0 fb2_3))), (aB k x1 240 fx)]) [0, 1, 2, 3, 4, 5] rfl
          have hD9 := hD.sub (ws' := [(h0, .inr (5, (fX5 h1 h2 h3 h4))), (aI k h1 10 (vv n2_3 see2_3 tm2_3 g2_3)), (aI k h2 24 ff2_3), (aI k h3 24 fp2_3), (x0, .inr (6, (fX6 x1 (nI tz) (nI ta__14) na2_3 0 fb2_3))), (aB k x1 240 fx)]) [0, 1, 2, 3, 4, 5] (by decide) rfl
          exact W.vret hx hb hr (fun t ht hW => ⟨⟨(n2_3, see2_3, tm2_3, g2_3, ff2_3, fp2_3, ta__14, na2_3, 0, fb2_3), rfl, ⟨.inl ⟨rfl, _, sf_ok hend_16 (show 1 ≤ n2_3 by omega), by omega⟩, by omega, by omega, by omega, by omega⟩, by rw [ht]; exact hP9, hD9⟩, hS.F ht⟩) hS.2.2 dX5_readFrom_142
        · have c_18 := (nI_eq (a := n2_3) (b := 0) (by omega) (by omega)).mp c_18
          refine lv_aload_n hx hb dX5_readFrom_133 rfl (lv_at hl 3 rfl) ?_
          refine lv_iconst (v := 1) hx hb dX5_readFrom_134 (by decide) ?_
          refine lv_aload_n hx hb dX5_readFrom_135 rfl (lv_at hl 3 rfl) ?_
          refine va_get (D := D) (ci := 6) (v := .int (nI tz)) (C := RX6) (T := TX6) (N := 6) hx hb hts inX6 hown hK hP 4 rfl rfl 1 (by decide) (hts _ tw_112) (fun _ h9 => h9) rfl dX5_readFrom_136 ?_
          refine rw_v (D := D) (wr := [(h0, .inr (5, (fX5 h1 h2 h3 h4))), (aI k h1 10 (vv n2_3 see2_3 tm2_3 g2_3)), (aI k h2 24 ff2_3), (aI k h3 24 fp2_3), (aB k x1 240 fx)]) (va_runV (As := [.int 1, .int (nI tz)]) (rest := []) ⟨hx, hb, hml, hown, hts⟩ ((y_fail l D k st lo x0 x1 tz ta__14 na2_3 0 fb2_3 1 (nI tz) (by decide)) H.size) (cwV 2 hts (gV tw_455 tw_456 tw_457 tw_80 tw_458) rfl rfl rfl (by decide +kernel) ⟨Nat.le_of_ble_eq_true rfl, Nat.le_of_ble_eq_true rfl⟩) (pV hS hAlo hlo hP hK (va_Dlo hD hAlo) hZ [4] (by decide) rfl (ci := 6) (q := (RX6, TX6, 6)) (q0 := 0) rfl rfl) rfl rfl hl.1 rfl (lv_room (Nat.le_of_ble_eq_true rfl)) dX5_readFrom_139 ⟨Nat.le_of_ble_eq_true rfl, Nat.le_of_ble_eq_true rfl⟩) hS hA hP hD [4] [0, 1, 2, 3, 5] rfl rfl (by decide) (by decide) (fun u H locs hw_19 hP hD hS => ?_)
          obtain ⟨fn__19, fb__19⟩ := u
          replace hP : va_P D classes [(h0, .inr (5, (fX5 h1 h2 h3 h4))), (aI k h1 10 (vv n2_3 see2_3 tm2_3 g2_3)), (aI k h2 24 ff2_3), (aI k h3 24 fp2_3), (aB k x1 240 fx), (x0, .inr (6, (fX6 x1 (nI tz) (nI ta__14) na2_3 fn__19 fb__19)))] H := hP
          replace hD : va_D A [(h0, .inr (5, (fX5 h1 h2 h3 h4))), (aI k h1 10 (vv n2_3 see2_3 tm2_3 g2_3)), (aI k h2 24 ff2_3), (aI k h3 24 fp2_3), (aB k x1 240 fx), (x0, .inr (6, (fX6 x1 (nI tz) (nI ta__14) na2_3 fn__19 fb__19)))] := hD
          try dsimp only at hw_19
          obtain ⟨hs0_20, hs1_20⟩ := hw_19.2.1 rfl
          replace hs0_20 := hs0_20.symm
          subst hs0_20
          replace hs1_20 := hs1_20.symm
          subst hs1_20
          have hP9 := hP.sub (ws' := [(h0, .inr (5, (fX5 h1 h2 h3 h4))), (aI k h1 10 (vv n2_3 see2_3 tm2_3 g2_3)), (aI k h2 24 ff2_3), (aI k h3 24 fp2_3), (x0, .inr (6, (fX6 x1 (nI tz) (nI ta__14) na2_3 1 (nI tz)))), (aB k x1 240 fx)]) [0, 1, 2, 3, 5, 4] rfl
          have hD9 := hD.sub (ws' := [(h0, .inr (5, (fX5 h1 h2 h3 h4))), (aI k h1 10 (vv n2_3 see2_3 tm2_3 g2_3)), (aI k h2 24 ff2_3), (aI k h3 24 fp2_3), (x0, .inr (6, (fX6 x1 (nI tz) (nI ta__14) na2_3 1 (nI tz)))), (aB k x1 240 fx)]) [0, 1, 2, 3, 5, 4] (by decide) rfl
          exact W.vret hx hb hr (fun t ht hW => ⟨⟨(n2_3, see2_3, tm2_3, g2_3, ff2_3, fp2_3, ta__14, na2_3, 1, (nI tz)), rfl, ⟨.inr ⟨1, tz, rfl, by decide, by decide, (sf_no hend_16 (show n2_3 = 0 by omega)).1, (sf_no hend_16 (show n2_3 = 0 by omega)).2, rfl⟩, by omega, by omega, by omega, by omega⟩, by rw [ht]; exact hP9, hD9⟩, hS.F ht⟩) hS.2.2 dX5_readFrom_142
      · refine lv_if_ne (tgt := 119) hx hb dX5_readFrom_36 (by decide) (fun h => absurd (by decide) h) (fun _ => ?_)
        refine lv_aload_n hx hb dX5_readFrom_39 rfl (lv_at hl 3 rfl) ?_
        refine va_get (D := D) (ci := 6) (v := .int (nI ta__14)) (C := RX6) (T := TX6) (N := 6) hx hb hts inX6 hown hK hP 4 rfl rfl 2 (by decide) (hts _ tw_115) (fun _ h9 => h9) rfl dX5_readFrom_40 ?_
        refine lv_istore (lv' := [(4, .int (nI ta__14)), (3, .int (nI kk_3)), (2, .int to2_3), (0, .ref h0), (1, .ref x0)]) hx hb dX5_readFrom_43 hl (by decide) rfl (fun ls hl => ?_)
        refine lv_aload_n hx hb dX5_readFrom_45 rfl (lv_at hl 4 rfl) ?_
        refine rw_i (D := D) (wr := [(h0, .inr (5, (fX5 h1 h2 h3 h4))), (aI k h1 10 (vv n2_3 see2_3 tm2_3 g2_3)), (aI k h2 24 ff2_3), (aI k h3 24 fp2_3)]) (va_runS (As := [.ref x0]) (rest := []) ⟨hx, hb, hml, hown, hts⟩ ((y_takeClauseWord l D k st lo x0 x1 tz ta__14 na2_3 0 fb2_3 fx (by first | assumption | omega) (by first | assumption | omega)) H.size) (va_cwS 1 hts (gS tw_383 tw_384 tw_81 tw_385) rfl rfl rfl (by decide +kernel) ⟨Nat.le_of_ble_eq_true rfl, Nat.le_of_ble_eq_true rfl⟩) (pS hS hAlo hlo hP hK (va_Dlo hD hAlo) hZ [4, 5] (by decide) rfl) rfl rfl hl.1 rfl (lv_room (Nat.le_of_ble_eq_true rfl)) dX5_readFrom_46 ⟨Nat.le_of_ble_eq_true rfl, Nat.le_of_ble_eq_true rfl⟩) hS hA hP hD [4, 5] [0, 1, 2, 3] rfl rfl (by decide) (by decide) (fun r_21 u H locs hw_21 hP hD hS => ?_)
        obtain ⟨ta__21, rfl⟩ : ∃ z, z = u := ⟨_, rfl⟩
        replace hP : va_P D classes [(h0, .inr (5, (fX5 h1 h2 h3 h4))), (aI k h1 10 (vv n2_3 see2_3 tm2_3 g2_3)), (aI k h2 24 ff2_3), (aI k h3 24 fp2_3), (x0, .inr (6, (fX6 x1 (nI tz) (nI ta__21) na2_3 0 fb2_3))), (aB k x1 240 fx)] H := hP
        replace hD : va_D A [(h0, .inr (5, (fX5 h1 h2 h3 h4))), (aI k h1 10 (vv n2_3 see2_3 tm2_3 g2_3)), (aI k h2 24 ff2_3), (aI k h3 24 fp2_3), (x0, .inr (6, (fX6 x1 (nI tz) (nI ta__21) na2_3 0 fb2_3))), (aB k x1 240 fx)] := hD
        try dsimp only at hw_21
        rcases hw_21 with ⟨⟨rfl, hkw_22, hT_22⟩ | ⟨cl_22, hkw_22, hc1_22, hc2_22, rfl, hT_22⟩, hw_21⟩
        · refine lv_istore (lv' := [(5, .int (-1)), (4, .int (nI ta__14)), (3, .int (nI kk_3)), (2, .int to2_3), (0, .ref h0), (1, .ref x0)]) hx hb dX5_readFrom_49 hl (by decide) rfl (fun ls hl => ?_)
          rw [hw_14.1, skA_idem] at hkw_22 hT_22
          refine lv_iload hx hb dX5_readFrom_51 (lv_at hl 0 rfl) ?_
          refine lv_iconst (v := (-1)) hx hb dX5_readFrom_53 (by decide) ?_
          refine lv_icmp_ne (tgt := 67) hx hb dX5_readFrom_54 (by decide) (fun h => absurd (by decide) h) (fun _ => ?_)
          refine lv_aload_n hx hb dX5_readFrom_57 rfl (lv_at hl 5 rfl) ?_
          refine lv_iconst (v := 1) hx hb dX5_readFrom_58 (by decide) ?_
          refine lv_iload hx hb dX5_readFrom_59 (lv_at hl 1 rfl) ?_
          refine rw_v (D := D) (wr := [(h0, .inr (5, (fX5 h1 h2 h3 h4))), (aI k h1 10 (vv n2_3 see2_3 tm2_3 g2_3)), (aI k h2 24 ff2_3), (aI k h3 24 fp2_3), (aB k x1 240 fx)]) (va_runV (As := [.int 1, .int (nI ta__14)]) (rest := []) ⟨hx, hb, hml, hown, hts⟩ ((y_fail l D k st lo x0 x1 tz ta__21 na2_3 0 fb2_3 1 (nI ta__14) (by decide)) H.size) (cwV 2 hts (gV tw_455 tw_456 tw_457 tw_80 tw_458) rfl rfl rfl (by decide +kernel) ⟨Nat.le_of_ble_eq_true rfl, Nat.le_of_ble_eq_true rfl⟩) (pV hS hAlo hlo hP hK (va_Dlo hD hAlo) hZ [4] (by decide) rfl (ci := 6) (q := (RX6, TX6, 6)) (q0 := 0) rfl rfl) rfl rfl hl.1 rfl (lv_room (Nat.le_of_ble_eq_true rfl)) dX5_readFrom_61 ⟨Nat.le_of_ble_eq_true rfl, Nat.le_of_ble_eq_true rfl⟩) hS hA hP hD [4] [0, 1, 2, 3, 5] rfl rfl (by decide) (by decide) (fun u H locs hw_23 hP hD hS => ?_)
          obtain ⟨fn__23, fb__23⟩ := u
          replace hP : va_P D classes [(h0, .inr (5, (fX5 h1 h2 h3 h4))), (aI k h1 10 (vv n2_3 see2_3 tm2_3 g2_3)), (aI k h2 24 ff2_3), (aI k h3 24 fp2_3), (aB k x1 240 fx), (x0, .inr (6, (fX6 x1 (nI tz) (nI ta__21) na2_3 fn__23 fb__23)))] H := hP
          replace hD : va_D A [(h0, .inr (5, (fX5 h1 h2 h3 h4))), (aI k h1 10 (vv n2_3 see2_3 tm2_3 g2_3)), (aI k h2 24 ff2_3), (aI k h3 24 fp2_3), (aB k x1 240 fx), (x0, .inr (6, (fX6 x1 (nI tz) (nI ta__21) na2_3 fn__23 fb__23)))] := hD
          try dsimp only at hw_23
          obtain ⟨hs0_24, hs1_24⟩ := hw_23.2.1 rfl
          replace hs0_24 := hs0_24.symm
          subst hs0_24
          replace hs1_24 := hs1_24.symm
          subst hs1_24
          refine lv_goto (tgt := 113) hx hb dX5_readFrom_64 (by decide) ?_
          refine lv_iinc (v := (nI (kk_3 + 1))) (lv' := [(3, .int (nI (kk_3 + 1))), (5, .int (-1)), (4, .int (nI ta__14)), (2, .int to2_3), (0, .ref h0), (1, .ref x0)]) hx hb dX5_readFrom_113 hl (k := 2) rfl (nI_add kk_3 1) (by decide) rfl (fun ls hl => ?_)
          refine lv_goto (tgt := 18) hx hb dX5_readFrom_116 (by decide) ?_
          exact ih_3 _ (kk_3 + 1, to2_3, n2_3, see2_3, tm2_3, g2_3, ff2_3, fp2_3, ta__21, na2_3, 1, (nI ta__14)) _ _ _ (by omega) ⟨rfl, ⟨by omega, by omega, by omega, by omega, by omega, hv_3.2.2.2.2.2.1, .inr ⟨1, ta__14, rfl, by decide, by omega, (by rw [← hst_13]; exact (sl_err (e := 1) (p := ta__14) (by omega) (show skA (bF fx) tz ta2_3 < tz by rw [← hw_14.1]; exact hz_14) (by rw [cf_none hkw_22]) (by omega) (by rw [cf_none hkw_22]; exact hw_14.1.symm)).1), (by rw [← hst_13]; exact (sl_err (e := 1) (p := ta__14) (by omega) (show skA (bF fx) tz ta2_3 < tz by rw [← hw_14.1]; exact hz_14) (by rw [cf_none hkw_22]) (by omega) (by rw [cf_none hkw_22]; exact hw_14.1.symm)).2), rfl⟩⟩, (hP.sub [0, 1, 2, 3, 5, 4] rfl), (hD.sub [0, 1, 2, 3, 5, 4] (by decide) rfl), hS, (lv_sub hl [0, 3, 4, 5] rfl)⟩
        · refine lv_istore (lv' := [(5, .int (nI cl_22)), (4, .int (nI ta__14)), (3, .int (nI kk_3)), (2, .int to2_3), (0, .ref h0), (1, .ref x0)]) hx hb dX5_readFrom_49 hl (by decide) rfl (fun ls hl => ?_)
          rw [hw_14.1, skA_idem] at hkw_22 hT_22
          refine lv_iload hx hb dX5_readFrom_51 (lv_at hl 0 rfl) ?_
          refine lv_iconst (v := (-1)) hx hb dX5_readFrom_53 (by decide) ?_
          refine lv_icmp_ne (tgt := 67) hx hb dX5_readFrom_54 (by decide) (fun _ => ?_) (fun h => absurd h (nI_ne' (by omega) (by decide)))
          refine lv_iload_n hx hb dX5_readFrom_67 rfl (lv_at hl 3 rfl) ?_
          refine lv_iload hx hb dX5_readFrom_68 (lv_at hl 0 rfl) ?_
          refine lv_ishr hx hb dX5_readFrom_70 ?_
          refine lv_topi (fun x_25 ex_25 => ?_)
          refine lv_iconst (v := 1) hx hb dX5_readFrom_71 (by decide) ?_
          refine lv_iand hx hb dX5_readFrom_72 ?_
          refine lv_topi (fun x_26 ex_26 => ?_)
          refine lv_if_eq (tgt := 86) hx hb dX5_readFrom_73 (by decide) (fun c_27 => ?_) (fun c_27 => ?_)
          · rw [ex_26, ex_25] at c_27
            refine lv_iload hx hb dX5_readFrom_86 (lv_at hl 0 rfl) ?_
            refine lv_if_ne (tgt := 99) hx hb dX5_readFrom_88 (by decide) (fun c_28 => ?_) (fun c_28 => ?_)
            · have c_28 : ¬ (cl_22 = 0) := fun h => c_28 ((nI_eq (a := cl_22) (b := 0) (by omega) (by omega)).mpr h)
              refine lv_aload_n hx hb dX5_readFrom_99 rfl (lv_at hl 4 rfl) ?_
              refine lv_aload_n hx hb dX5_readFrom_100 rfl (lv_at hl 5 rfl) ?_
              refine lv_iload hx hb dX5_readFrom_101 (lv_at hl 0 rfl) ?_
              refine rw_v (D := D) (wr := [(aI k h2 24 ff2_3), (aI k h3 24 fp2_3)]) (va_runV (As := [.ref x0, .int (nI cl_22)]) (rest := []) ⟨hx, hb, hml, hown, hts⟩ ((y_readClause l D k st lo h0 h1 h2 h3 h4 n2_3 see2_3 tm2_3 g2_3 x0 x1 tz ta__21 na2_3 0 fb2_3 fx cl_22 (by first | assumption | omega) (by first | assumption | omega) (by first | assumption | omega) (by first | assumption | omega) (by first | assumption | omega) rfl) H.size) (cwV 2 hts (gV tw_492 tw_494 tw_1 tw_81 tw_495) rfl rfl rfl (by decide +kernel) ⟨Nat.le_of_ble_eq_true rfl, Nat.le_of_ble_eq_true rfl⟩) (pV hS hAlo hlo hP hK (va_Dlo hD hAlo) hZ [0, 1, 4, 5] (by decide) rfl (ci := 5) (q := (RX5, TX5, 4)) (q0 := 0) rfl rfl) rfl rfl hl.1 rfl (lv_room (Nat.le_of_ble_eq_true rfl)) dX5_readFrom_103 ⟨Nat.le_of_ble_eq_true rfl, Nat.le_of_ble_eq_true rfl⟩) hS hA hP hD [0, 1, 4, 5] [2, 3] rfl rfl (by decide) (by decide) (fun u H locs hw_29 hP hD hS => ?_)
              obtain ⟨see__29, tm__29, g__29, ta__29, na__29, fn__29, fb__29⟩ := u
              replace hP : va_P D classes [(aI k h2 24 ff2_3), (aI k h3 24 fp2_3), (h0, .inr (5, (fX5 h1 h2 h3 h4))), (aI k h1 10 (vv n2_3 see__29 tm__29 g__29)), (x0, .inr (6, (fX6 x1 (nI tz) (nI ta__29) na__29 fn__29 fb__29))), (aB k x1 240 fx)] H := hP
              replace hD : va_D A [(aI k h2 24 ff2_3), (aI k h3 24 fp2_3), (h0, .inr (5, (fX5 h1 h2 h3 h4))), (aI k h1 10 (vv n2_3 see__29 tm__29 g__29)), (x0, .inr (6, (fX6 x1 (nI tz) (nI ta__29) na__29 fn__29 fb__29))), (aB k x1 240 fx)] := hD
              try dsimp only at hw_29
              rcases hw_29 with ⟨⟨rfl, v_30, v2_30, hd_30, hvv_30⟩ | ⟨e_30, pl_30, rfl, he1_30, he2_30, hp1_30, hp2_30, rfl⟩, hw_29⟩
              · refine lv_iload_n hx hb dX5_readFrom_106 rfl (lv_at hl 3 rfl) ?_
                refine lv_iconst (v := 1) hx hb dX5_readFrom_107 (by decide) ?_
                refine lv_iload hx hb dX5_readFrom_108 (lv_at hl 0 rfl) ?_
                refine lv_ishl hx hb dX5_readFrom_110 ?_
                refine lv_topi (fun x_31 ex_31 => ?_)
                refine lv_ior hx hb dX5_readFrom_111 ?_
                refine lv_topi (fun x_32 ex_32 => ?_)
                refine lv_istore_n (lv' := [(2, .int x_32), (5, .int (nI cl_22)), (4, .int (nI ta__14)), (3, .int (nI kk_3)), (0, .ref h0), (1, .ref x0)]) hx hb dX5_readFrom_112 rfl hl (by decide) rfl (fun ls hl => ?_)
                refine lv_iinc (v := (nI (kk_3 + 1))) (lv' := [(3, .int (nI (kk_3 + 1))), (2, .int x_32), (5, .int (nI cl_22)), (4, .int (nI ta__14)), (0, .ref h0), (1, .ref x0)]) hx hb dX5_readFrom_113 hl (k := 3) rfl (nI_add kk_3 1) (by decide) rfl (fun ls hl => ?_)
                refine lv_goto (tgt := 18) hx hb dX5_readFrom_116 (by decide) ?_
                exact ih_3 _ (kk_3 + 1, x_32, n2_3, see__29, tm__29, g__29, ff2_3, fp2_3, ta__29, na__29, 0, fb__29) _ _ _ (by omega) ⟨rfl, ⟨by omega, by omega, by omega, by omega, by omega, (by rw [ex_32, ex_31]; exact bit0 (by omega) hv_3.2.2.2.2.2.1), .inl ⟨rfl, by rw [← hst_13, sl_ok (by omega) (show skA (bF fx) tz ta2_3 < tz by rw [← hw_14.1]; exact hz_14) (cf_si0 hkw_22 (by omega) (toX_f c_27 (by omega)) hT_22 hd_30), show 240 - (kk_3 + 1) = 240 - kk_3 - 1 by omega, ex_32, ex_31, stX_si (by omega) hvv_30]; rfl⟩⟩, (hP.sub [2, 3, 0, 1, 4, 5] rfl), (hD.sub [2, 3, 0, 1, 4, 5] (by decide) rfl), hS, (lv_sub hl [0, 1, 4, 5] rfl)⟩
              · refine lv_iload_n hx hb dX5_readFrom_106 rfl (lv_at hl 3 rfl) ?_
                refine lv_iconst (v := 1) hx hb dX5_readFrom_107 (by decide) ?_
                refine lv_iload hx hb dX5_readFrom_108 (lv_at hl 0 rfl) ?_
                refine lv_ishl hx hb dX5_readFrom_110 ?_
                refine lv_topi (fun x_33 ex_33 => ?_)
                refine lv_ior hx hb dX5_readFrom_111 ?_
                refine lv_topi (fun x_34 ex_34 => ?_)
                refine lv_istore_n (lv' := [(2, .int x_34), (5, .int (nI cl_22)), (4, .int (nI ta__14)), (3, .int (nI kk_3)), (0, .ref h0), (1, .ref x0)]) hx hb dX5_readFrom_112 rfl hl (by decide) rfl (fun ls hl => ?_)
                refine lv_iinc (v := (nI (kk_3 + 1))) (lv' := [(3, .int (nI (kk_3 + 1))), (2, .int x_34), (5, .int (nI cl_22)), (4, .int (nI ta__14)), (0, .ref h0), (1, .ref x0)]) hx hb dX5_readFrom_113 hl (k := 3) rfl (nI_add kk_3 1) (by decide) rfl (fun ls hl => ?_)
                refine lv_goto (tgt := 18) hx hb dX5_readFrom_116 (by decide) ?_
                exact ih_3 _ (kk_3 + 1, x_34, n2_3, see__29, tm__29, g__29, ff2_3, fp2_3, ta__29, na__29, (nI e_30), (nI pl_30)) _ _ _ (by omega) ⟨rfl, ⟨by omega, by omega, by omega, by omega, by omega, (by rw [ex_34, ex_33]; exact bit0 (by omega) hv_3.2.2.2.2.2.1), .inr ⟨e_30, pl_30, rfl, he1_30, by omega, (by rw [← hst_13]; exact (sl_err (e := e_30) (p := pl_30) (by omega) (show skA (bF fx) tz ta2_3 < tz by rw [← hw_14.1]; exact hz_14) (cf_si1 (σ := stX n2_3 see2_3 tm2_3 g2_3 ff2_3 fp2_3 to2_3) hkw_22 (by omega) (toX_f c_27 (by omega)) hT_22 hp1_30 he1_30 hp2_30).1 (by omega) (cf_si1 (σ := stX n2_3 see2_3 tm2_3 g2_3 ff2_3 fp2_3 to2_3) hkw_22 (by omega) (toX_f c_27 (by omega)) hT_22 hp1_30 he1_30 hp2_30).2).1), (by rw [← hst_13]; exact (sl_err (e := e_30) (p := pl_30) (by omega) (show skA (bF fx) tz ta2_3 < tz by rw [← hw_14.1]; exact hz_14) (cf_si1 (σ := stX n2_3 see2_3 tm2_3 g2_3 ff2_3 fp2_3 to2_3) hkw_22 (by omega) (toX_f c_27 (by omega)) hT_22 hp1_30 he1_30 hp2_30).1 (by omega) (cf_si1 (σ := stX n2_3 see2_3 tm2_3 g2_3 ff2_3 fp2_3 to2_3) hkw_22 (by omega) (toX_f c_27 (by omega)) hT_22 hp1_30 he1_30 hp2_30).2).2), rfl⟩⟩, (hP.sub [2, 3, 0, 1, 4, 5] rfl), (hD.sub [2, 3, 0, 1, 4, 5] (by decide) rfl), hS, (lv_sub hl [0, 1, 4, 5] rfl)⟩
            · have c_28 := (nI_eq (a := cl_22) (b := 0) (by omega) (by omega)).mp c_28
              refine lv_aload_n hx hb dX5_readFrom_91 rfl (lv_at hl 4 rfl) ?_
              refine lv_aload_n hx hb dX5_readFrom_92 rfl (lv_at hl 5 rfl) ?_
              refine rw_v (D := D) (wr := []) (va_runV (As := [.ref x0]) (rest := []) ⟨hx, hb, hml, hown, hts⟩ ((y_readDoors l D k st lo h0 h1 h2 h3 h4 n2_3 see2_3 tm2_3 g2_3 ff2_3 fp2_3 x0 x1 tz ta__21 na2_3 0 fb2_3 fx (by first | assumption | omega) (by first | assumption | omega) (by first | assumption | omega) rfl) H.size) (cwV 1 hts (gV tw_459 tw_461 tw_0 tw_81 tw_462) rfl rfl rfl (by decide +kernel) ⟨Nat.le_of_ble_eq_true rfl, Nat.le_of_ble_eq_true rfl⟩) (pV hS hAlo hlo hP hK (va_Dlo hD hAlo) hZ [0, 1, 2, 3, 4, 5] (by decide) rfl (ci := 5) (q := (RX5, TX5, 4)) (q0 := 0) rfl rfl) rfl rfl hl.1 rfl (lv_room (Nat.le_of_ble_eq_true rfl)) dX5_readFrom_93 ⟨Nat.le_of_ble_eq_true rfl, Nat.le_of_ble_eq_true rfl⟩) hS hA hP hD [0, 1, 2, 3, 4, 5] [] rfl rfl (by decide) (by decide) (fun u H locs hw_35 hP hD hS => ?_)
              obtain ⟨n__35, ff__35, fp__35, ta__35, na__35, fn__35, fb__35⟩ := u
              replace hP : va_P D classes [(h0, .inr (5, (fX5 h1 h2 h3 h4))), (aI k h1 10 (vv n__35 see2_3 tm2_3 g2_3)), (aI k h2 24 ff__35), (aI k h3 24 fp__35), (x0, .inr (6, (fX6 x1 (nI tz) (nI ta__35) na__35 fn__35 fb__35))), (aB k x1 240 fx)] H := hP
              replace hD : va_D A [(h0, .inr (5, (fX5 h1 h2 h3 h4))), (aI k h1 10 (vv n__35 see2_3 tm2_3 g2_3)), (aI k h2 24 ff__35), (aI k h3 24 fp__35), (x0, .inr (6, (fX6 x1 (nI tz) (nI ta__35) na__35 fn__35 fb__35))), (aB k x1 240 fx)] := hD
              try dsimp only at hw_35
              rcases hw_35 with ⟨⟨rfl, m_36, v3_36, v5_36, hd_36, hn_36, hf_36, hg_36⟩ | ⟨e_36, pl_36, rfl, he1_36, he2_36, hp1_36, hp2_36, rfl⟩, hw_35⟩
              · refine lv_goto (tgt := 113) hx hb dX5_readFrom_96 (by decide) ?_
                refine lv_iinc (v := (nI (kk_3 + 1))) (lv' := [(3, .int (nI (kk_3 + 1))), (5, .int (nI cl_22)), (4, .int (nI ta__14)), (2, .int to2_3), (0, .ref h0), (1, .ref x0)]) hx hb dX5_readFrom_113 hl (k := 2) rfl (nI_add kk_3 1) (by decide) rfl (fun ls hl => ?_)
                refine lv_goto (tgt := 18) hx hb dX5_readFrom_116 (by decide) ?_
                exact ih_3 _ (kk_3 + 1, to2_3, n__35, see2_3, tm2_3, g2_3, ff__35, fp__35, ta__35, na__35, 0, fb__35) _ _ _ (by omega) ⟨rfl, ⟨by omega, by omega, by omega, by omega, by omega, hv_3.2.2.2.2.2.1, .inl ⟨rfl, by rw [← hst_13, sl_ok (by omega) (show skA (bF fx) tz ta2_3 < tz by rw [← hw_14.1]; exact hz_14) (cf_do0 (hkw_22.trans (by omega)) hT_22 hd_36), show 240 - (kk_3 + 1) = 240 - kk_3 - 1 by omega, hn_36, stX_do hf_36 hg_36]; rfl⟩⟩, hP, hD, hS, (lv_sub hl [0, 3, 4, 5] rfl)⟩
              · refine lv_goto (tgt := 113) hx hb dX5_readFrom_96 (by decide) ?_
                refine lv_iinc (v := (nI (kk_3 + 1))) (lv' := [(3, .int (nI (kk_3 + 1))), (5, .int (nI cl_22)), (4, .int (nI ta__14)), (2, .int to2_3), (0, .ref h0), (1, .ref x0)]) hx hb dX5_readFrom_113 hl (k := 2) rfl (nI_add kk_3 1) (by decide) rfl (fun ls hl => ?_)
                refine lv_goto (tgt := 18) hx hb dX5_readFrom_116 (by decide) ?_
                exact ih_3 _ (kk_3 + 1, to2_3, n__35, see2_3, tm2_3, g2_3, ff__35, fp__35, ta__35, na__35, (nI e_36), (nI pl_36)) _ _ _ (by omega) ⟨rfl, ⟨by omega, by omega, by omega, by omega, by omega, hv_3.2.2.2.2.2.1, .inr ⟨e_36, pl_36, rfl, he1_36, by omega, (by rw [← hst_13]; exact (sl_err (e := e_36) (p := pl_36) (by omega) (show skA (bF fx) tz ta2_3 < tz by rw [← hw_14.1]; exact hz_14) (cf_do1 (σ := stX n2_3 see2_3 tm2_3 g2_3 ff2_3 fp2_3 to2_3) (hkw_22.trans (by omega)) hT_22 hp1_36 he1_36 hp2_36).1 (by omega) (cf_do1 (σ := stX n2_3 see2_3 tm2_3 g2_3 ff2_3 fp2_3 to2_3) (hkw_22.trans (by omega)) hT_22 hp1_36 he1_36 hp2_36).2).1), (by rw [← hst_13]; exact (sl_err (e := e_36) (p := pl_36) (by omega) (show skA (bF fx) tz ta2_3 < tz by rw [← hw_14.1]; exact hz_14) (cf_do1 (σ := stX n2_3 see2_3 tm2_3 g2_3 ff2_3 fp2_3 to2_3) (hkw_22.trans (by omega)) hT_22 hp1_36 he1_36 hp2_36).1 (by omega) (cf_do1 (σ := stX n2_3 see2_3 tm2_3 g2_3 ff2_3 fp2_3 to2_3) (hkw_22.trans (by omega)) hT_22 hp1_36 he1_36 hp2_36).2).2), rfl⟩⟩, hP, hD, hS, (lv_sub hl [0, 3, 4, 5] rfl)⟩
          · rw [ex_26, ex_25] at c_27
            have hcl_22 : 1 ≤ cl_22 := by rcases Nat.eq_zero_or_pos cl_22 with h | h; rw [h] at c_27; exact absurd hv_3.2.2.2.2.2.1 c_27; exact h
            refine lv_aload_n hx hb dX5_readFrom_76 rfl (lv_at hl 5 rfl) ?_
            refine lv_iconst (v := 3) hx hb dX5_readFrom_77 (by decide) ?_
            refine lv_iload hx hb dX5_readFrom_78 (lv_at hl 1 rfl) ?_
            refine rw_v (D := D) (wr := [(h0, .inr (5, (fX5 h1 h2 h3 h4))), (aI k h1 10 (vv n2_3 see2_3 tm2_3 g2_3)), (aI k h2 24 ff2_3), (aI k h3 24 fp2_3), (aB k x1 240 fx)]) (va_runV (As := [.int 3, .int (nI ta__14)]) (rest := []) ⟨hx, hb, hml, hown, hts⟩ ((y_fail l D k st lo x0 x1 tz ta__21 na2_3 0 fb2_3 3 (nI ta__14) (by decide)) H.size) (cwV 2 hts (gV tw_455 tw_456 tw_457 tw_80 tw_458) rfl rfl rfl (by decide +kernel) ⟨Nat.le_of_ble_eq_true rfl, Nat.le_of_ble_eq_true rfl⟩) (pV hS hAlo hlo hP hK (va_Dlo hD hAlo) hZ [4] (by decide) rfl (ci := 6) (q := (RX6, TX6, 6)) (q0 := 0) rfl rfl) rfl rfl hl.1 rfl (lv_room (Nat.le_of_ble_eq_true rfl)) dX5_readFrom_80 ⟨Nat.le_of_ble_eq_true rfl, Nat.le_of_ble_eq_true rfl⟩) hS hA hP hD [4] [0, 1, 2, 3, 5] rfl rfl (by decide) (by decide) (fun u H locs hw_37 hP hD hS => ?_)
            obtain ⟨fn__37, fb__37⟩ := u
            replace hP : va_P D classes [(h0, .inr (5, (fX5 h1 h2 h3 h4))), (aI k h1 10 (vv n2_3 see2_3 tm2_3 g2_3)), (aI k h2 24 ff2_3), (aI k h3 24 fp2_3), (aB k x1 240 fx), (x0, .inr (6, (fX6 x1 (nI tz) (nI ta__21) na2_3 fn__37 fb__37)))] H := hP
            replace hD : va_D A [(h0, .inr (5, (fX5 h1 h2 h3 h4))), (aI k h1 10 (vv n2_3 see2_3 tm2_3 g2_3)), (aI k h2 24 ff2_3), (aI k h3 24 fp2_3), (aB k x1 240 fx), (x0, .inr (6, (fX6 x1 (nI tz) (nI ta__21) na2_3 fn__37 fb__37)))] := hD
            try dsimp only at hw_37
            obtain ⟨hs0_38, hs1_38⟩ := hw_37.2.1 rfl
            replace hs0_38 := hs0_38.symm
            subst hs0_38
            replace hs1_38 := hs1_38.symm
            subst hs1_38
            refine lv_goto (tgt := 113) hx hb dX5_readFrom_83 (by decide) ?_
            refine lv_iinc (v := (nI (kk_3 + 1))) (lv' := [(3, .int (nI (kk_3 + 1))), (5, .int (nI cl_22)), (4, .int (nI ta__14)), (2, .int to2_3), (0, .ref h0), (1, .ref x0)]) hx hb dX5_readFrom_113 hl (k := 2) rfl (nI_add kk_3 1) (by decide) rfl (fun ls hl => ?_)
            refine lv_goto (tgt := 18) hx hb dX5_readFrom_116 (by decide) ?_
            exact ih_3 _ (kk_3 + 1, to2_3, n2_3, see2_3, tm2_3, g2_3, ff2_3, fp2_3, ta__21, na2_3, 3, (nI ta__14)) _ _ _ (by omega) ⟨rfl, ⟨by omega, by omega, by omega, by omega, by omega, hv_3.2.2.2.2.2.1, .inr ⟨3, ta__14, rfl, by decide, by omega, (by rw [← hst_13]; exact (sl_err (e := 3) (p := ta__14) (by omega) (show skA (bF fx) tz ta2_3 < tz by rw [← hw_14.1]; exact hz_14) (by rw [cf_told hkw_22 (by omega) (toX_t (by omega) c_27)]) (by omega) (by rw [cf_told hkw_22 (by omega) (toX_t (by omega) c_27)]; exact hw_14.1.symm)).1), (by rw [← hst_13]; exact (sl_err (e := 3) (p := ta__14) (by omega) (show skA (bF fx) tz ta2_3 < tz by rw [← hw_14.1]; exact hz_14) (by rw [cf_told hkw_22 (by omega) (toX_t (by omega) c_27)]) (by omega) (by rw [cf_told hkw_22 (by omega) (toX_t (by omega) c_27)]; exact hw_14.1.symm)).2), rfl⟩⟩, (hP.sub [0, 1, 2, 3, 5, 4] rfl), (hD.sub [0, 1, 2, 3, 5, 4] (by decide) rfl), hS, (lv_sub hl [0, 3, 4, 5] rfl)⟩


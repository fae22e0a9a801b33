theorem f_glueP25 : True := trivial
/-! the row: bits in an int, a row of yes and no -/
def sawO (v : Int32) (n : Nat) (p : Int32) : Int32 := if p = 0 then v else v ||| ((1 : Int32) <<< (nI n &&& 31))
def rowN (f : Nat → Int32) : Nat → Nat
  | 0 => 0
  | n + 1 => rowN f n + (if f n = 1 then 2 ^ n else 0)
theorem rowN_lt (f : Nat → Int32) : ∀ n, rowN f n < 2 ^ n := by
  intro n
  induction n with
  | zero => exact (by decide : (0 : Nat) < 2 ^ 0)
  | succ n ih =>
    show rowN f n + (if f n = 1 then 2 ^ n else 0) < 2 ^ (n + 1)
    rw [Nat.pow_succ]
    by_cases h : f n = 1
    · rw [if_pos h]
      omega
    · rw [if_neg h]
      omega
theorem rowN_congr {f g : Nat → Int32} : ∀ n, (∀ i, i < n → (f i = 1 ↔ g i = 1)) → rowN f n = rowN g n := by
  intro n
  induction n with
  | zero => intro _; rfl
  | succ n ih =>
    intro h
    show rowN f n + (if f n = 1 then 2 ^ n else 0) = rowN g n + (if g n = 1 then 2 ^ n else 0)
    rw [ih (fun i hi => h i (by omega))]
    by_cases c : f n = 1
    · rw [if_pos c, if_pos ((h n (by omega)).mp c)]
    · rw [if_neg c, if_neg (fun q => c ((h n (by omega)).mpr q))]
theorem shl24 : ∀ k, k < 24 → (1 : Int32) <<< (nI k &&& 31) = nI (2 ^ k) := by decide
theorem nI_or {a b : Nat} : nI a ||| nI b = nI (a ||| b) := by
  apply Int32.toBitVec_inj.mp
  rw [Int32.toBitVec_or]
  show BitVec.ofNat 32 a ||| BitVec.ofNat 32 b = BitVec.ofNat 32 (a ||| b)
  exact (BitVec.ofNat_or).symm
theorem nI_and {a b : Nat} : nI a &&& nI b = nI (a &&& b) := by
  apply Int32.toBitVec_inj.mp
  rw [Int32.toBitVec_and]
  show BitVec.ofNat 32 a &&& BitVec.ofNat 32 b = BitVec.ofNat 32 (a &&& b)
  exact (BitVec.ofNat_and).symm
theorem or24 {g k : Nat} (hk : k < 24) (hg : g < 2 ^ k) : nI g ||| ((1 : Int32) <<< (nI k &&& 31)) = nI (g + 2 ^ k) := by
  rw [shl24 k hk, nI_or]
  have h := Nat.two_pow_add_eq_or_of_lt hg 1
  rw [Nat.mul_one] at h
  rw [Nat.or_comm, ← h, Nat.add_comm]
theorem rowN_saw {f : Nat → Int32} {n : Nat} {p v : Int32} (hn : n < 24) (hp : p = 0 ∨ p = 1) (hv : v = nI (rowN f n)) : sawO v n p = nI (rowN (upd f n p) (n + 1)) := by
  have e : rowN (upd f n p) n = rowN f n := rowN_congr n (fun i hi => by rw [pk_un (show ¬ i = n by omega)])
  show _ = nI (rowN (upd f n p) n + (if upd f n p n = 1 then 2 ^ n else 0))
  rw [e, pk_us]
  unfold sawO
  rcases hp with h | h
  · rw [if_pos h, h, if_neg (by decide), hv]
    rfl
  · rw [h, if_neg (by decide), if_pos rfl, hv, or24 hn (rowN_lt f n)]
def b01 (v : Int32) : Int32 := if v = 0 then 0 else 1
def b11 (v : Int32) : Int32 := if v = 1 then 1 else 0
theorem b01_1 {v : Int32} (h : v = 0 ∨ v = 1) : (b01 v = 1 ↔ v = 1) := by
  unfold b01
  rcases h with e | e
  · rw [e, if_pos rfl]
  · rw [e, if_neg (by decide)]
theorem b11_1 {v : Int32} : (b11 v = 1 ↔ v = 1) := by
  unfold b11
  by_cases e : v = 1
  · rw [if_pos e]
    exact ⟨fun _ => e, fun _ => rfl⟩
  · rw [if_neg e]
    exact ⟨fun q => absurd q (by decide), fun q => absurd q e⟩
theorem b11_01 {v : Int32} : b11 v = 0 ∨ b11 v = 1 := by
  unfold b11
  by_cases e : v = 1
  · rw [if_pos e]
    exact .inr rfl
  · rw [if_neg e]
    exact .inl rfl
theorem nar01 {p : Int32} (h : p = 0 ∨ p = 1) : vp_nar .boolean p = p := by
  rcases h with e | e
  · rw [e]
    rfl
  · rw [e]
    rfl
/-- the row, both sides -/
def rwR (rz : Nat) (ro : Int32) (fr : Nat → Int32) : Prop := ro = nI (rowN fr rz) ∧ ∀ i, i < 24 → fr i = 0 ∨ fr i = 1
/-- an image's row, both sides -/
def imR (rz : Nat) (ro : Int32) (f : Nat → Int32) : Prop := ro = nI (rowN f rz)
theorem rwR_saw {n n' : Nat} {v v' p r : Int32} {f f' : Nat → Int32} (hp : p = 0 ∨ p = 1) (h : rwR n v f) (hs : sawP n r n') (h1 : n < 24 → v' = sawO v n p) (h2 : ¬ n < 24 → v' = v) (g1 : n < 24 → f' = upd f n (vp_nar .boolean p)) (g2 : ¬ n < 24 → f' = f) : rwR n' v' f' := by
  by_cases c : n < 24
  · rw [(hs.1 c).2, h1 c, g1 c, nar01 hp]
    refine ⟨rowN_saw c hp h.1, fun i hi => ?_⟩
    by_cases e : i = n
    · rw [e, pk_us]
      exact hp
    · rw [pk_un e]
      exact h.2 i hi
  · rw [(hs.2 c).2, h2 c, g2 c]
    exact h
theorem rwR_0 {v : Int32} {f : Nat → Int32} {n m : Nat} {w : Int32} (h : rwR n w f) (e : m = 0) (hv : v = 0) : rwR m v f := by
  rw [e, hv]
  exact ⟨rfl, h.2⟩
/-! images -/
def kpX (pz k a s : Int32) (w : Nat → Int32) (a' s' : Int32) (w' : Nat → Int32) (a2 s2 : Int32) (w2 : Nat → Int32) : Prop := (pz = k → a' = a2 ∧ s' = s2 ∧ ∀ c, c < 4 → w' c = w2 c) ∧ (¬ pz = k → a' = a ∧ s' = s ∧ ∀ c, c < 4 → w' c = w c)
def kpM (pz k : Int32) (B : Nat) (f f' : Nat → Int32) (sd : Int32) (fr fw : Nat → Int32) : Prop := (pz = k → f' (B + 2) = sd ∧ (∀ i, i < 24 → f' (B + 3 + i) = b01 (fr i)) ∧ ∀ c, c < 4 → f' (B + 27 + c) = fw c) ∧ (¬ pz = k → ∀ x, B ≤ x → x < B + 35 → f' x = f x)
theorem kp_row {pz k a s a' s' a2 s2 : Int32} {w w' w2 : Nat → Int32} {B n n' n2 m m' m2 : Nat} {f f' fr fw : Nat → Int32} {sd q q' : Int32} (hn : n ≤ 24) (h : kpX pz k a s w a' s' w' a2 s2 w2) (g : kpM pz k B f f' sd fr fw) (hk : kpN pz k q q' n m n' m' n2 m2) (hn2 : n2 ≤ 24) (e : rwR n2 a2 fr) (es : s2 = sd) (ew : ∀ c, c < 4 → w2 c = fw c) (i1 : imR n a (fun i => f (B + 3 + i))) (i2 : s = f (B + 2)) (i3 : ∀ c, c < 4 → w c = f (B + 27 + c)) : imR n' a' (fun i => f' (B + 3 + i)) ∧ s' = f' (B + 2) ∧ ∀ c, c < 4 → w' c = f' (B + 27 + c) := by
  rcases Classical.em (pz = k) with c | c
  · obtain ⟨h1, h2, h3⟩ := h.1 c
    obtain ⟨g1, g2, g3⟩ := g.1 c
    rw [(hk.1 c).2.1, h1, h2, g1]
    refine ⟨?_, es, fun c hc => (h3 c hc).trans ((ew c hc).trans (g3 c hc).symm)⟩
    unfold imR
    rw [e.1]
    exact congrArg nI (rowN_congr n2 (fun i hi => by
      show fr i = 1 ↔ f' (B + 3 + i) = 1
      rw [g2 i (by omega), b01_1 (e.2 i (by omega))]))
  · obtain ⟨h1, h2, h3⟩ := h.2 c
    have g2 := g.2 c
    rw [(hk.2 c).2.1, h1, h2, g2 (B + 2) (by omega) (by omega)]
    refine ⟨?_, i2, fun c hc => (h3 c hc).trans ((i3 c hc).trans (g2 (B + 27 + c) (by omega) (by omega)).symm)⟩
    unfold imR
    rw [i1]
    exact congrArg nI (rowN_congr n (fun i hi => by
      show f (B + 3 + i) = 1 ↔ f' (B + 3 + i) = 1
      rw [g2 (B + 3 + i) (by omega) (by omega)]))
abbrev SNt : Type := Int32 × Int32 × (Nat → Int32)
def eqT (a b : SNt) : Prop := a.1 = b.1 ∧ a.2.1 = b.2.1 ∧ ∀ c, c < 4 → a.2.2 c = b.2.2 c
theorem eqT_r (a : SNt) : eqT a a := ⟨rfl, rfl, fun _ _ => rfl⟩
def gbX (pz f0 f1 : Int32) (t0 t1 t t' : SNt) : Prop := (pz = 0 → ¬ f0 = 0 → eqT t' t0) ∧ (pz = 1 → ¬ f1 = 0 → eqT t' t1) ∧ (¬ (pz = 0 ∧ ¬ f0 = 0) → ¬ (pz = 1 ∧ ¬ f1 = 0) → eqT t' t)
def gbR (pz f0 f1 : Int32) (im fr : Nat → Int32) (sd : Int32) (fw fr' : Nat → Int32) (sd' : Int32) (fw' : Nat → Int32) : Prop := (pz = 0 → ¬ f0 = 0 → sd' = im 2 ∧ (∀ i, i < 24 → fr' i = b11 (im (3 + i))) ∧ ∀ c, c < 4 → fw' c = im (27 + c)) ∧ (pz = 1 → ¬ f1 = 0 → sd' = im 37 ∧ (∀ i, i < 24 → fr' i = b11 (im (38 + i))) ∧ ∀ c, c < 4 → fw' c = im (62 + c)) ∧ (¬ (pz = 0 ∧ ¬ f0 = 0) → ¬ (pz = 1 ∧ ¬ f1 = 0) → sd' = sd ∧ fr' = fr ∧ fw' = fw)
theorem gb_row {pz f0 f1 a0 s0 a1 s1 a s a' s' sd sd' r : Int32} {w0 w1 w w' im fr fw fr' fw' : Nat → Int32} {n0 n1 n n' : Nat} (h : gbX pz f0 f1 (a0, s0, w0) (a1, s1, w1) (a, s, w) (a', s', w')) (g : gbR pz f0 f1 im fr sd fw fr' sd' fw') (hg : gbP pz f0 f1 n0 n1 n r n') (hn0 : n0 ≤ 24) (hn1 : n1 ≤ 24) (e : rwR n a fr) (es : s = sd) (ew : ∀ c, c < 4 → w c = fw c) (i1 : imR n0 a0 (fun i => im (3 + i))) (i2 : s0 = im 2) (i3 : ∀ c, c < 4 → w0 c = im (27 + c)) (j1 : imR n1 a1 (fun i => im (38 + i))) (j2 : s1 = im 37) (j3 : ∀ c, c < 4 → w1 c = im (62 + c)) : rwR n' a' fr' ∧ s' = sd' ∧ ∀ c, c < 4 → w' c = fw' c := by
  rcases Classical.em (pz = 0 ∧ ¬ f0 = 0) with c | c
  · obtain ⟨h1, h2, h3⟩ := h.1 c.1 c.2
    obtain ⟨g1, g2, g3⟩ := g.1 c.1 c.2
    rw [((hg.1 c.1).2 c.2).2]
    refine ⟨⟨?_, fun i hi => by rw [g2 i hi]; exact b11_01⟩, (show s' = s0 from h2).trans (i2.trans g1.symm), fun c hc => (h3 c hc).trans ((i3 c hc).trans (g3 c hc).symm)⟩
    rw [show a' = a0 from h1, i1]
    exact congrArg nI (rowN_congr n0 (fun i hi => by
      show im (3 + i) = 1 ↔ fr' i = 1
      rw [g2 i (by omega), b11_1]))
  · rcases Classical.em (pz = 1 ∧ ¬ f1 = 0) with d | d
    · obtain ⟨h1, h2, h3⟩ := h.2.1 d.1 d.2
      obtain ⟨g1, g2, g3⟩ := g.2.1 d.1 d.2
      rw [((hg.2.1 d.1).2 d.2).2]
      refine ⟨⟨?_, fun i hi => by rw [g2 i hi]; exact b11_01⟩, (show s' = s1 from h2).trans (j2.trans g1.symm), fun c hc => (h3 c hc).trans ((j3 c hc).trans (g3 c hc).symm)⟩
      rw [show a' = a1 from h1, j1]
      exact congrArg nI (rowN_congr n1 (fun i hi => by
        show im (38 + i) = 1 ↔ fr' i = 1
        rw [g2 i (by omega), b11_1]))
    · obtain ⟨h1, h2, h3⟩ := h.2.2 c d
      obtain ⟨g1, g2, g3⟩ := g.2.2 c d
      have en : n' = n := by
        rcases Classical.em (pz = 0) with z | z
        · exact ((hg.1 z).1 (Classical.not_not.mp (fun q => c ⟨z, q⟩))).2
        · rcases Classical.em (pz = 1) with y | y
          · exact ((hg.2.1 y).1 (Classical.not_not.mp (fun q => d ⟨y, q⟩))).2
          · exact (hg.2.2 z y).2
      rw [en, show a' = a from h1, show s' = s from h2, g1, g2, g3]
      exact ⟨e, es, fun c hc => (h3 c hc).trans (ew c hc)⟩
theorem gx_out {pz f0 f1 : Int32} {t0 t1 t : SNt} (h : ¬ inB pz 0 1) : gbX pz f0 f1 t0 t1 t t := ⟨fun e _ => absurd e (no_in h).1, fun e _ => absurd e (no_in h).2, fun _ _ => eqT_r t⟩
theorem gx_n0 {f0 f1 : Int32} {t0 t1 t : SNt} (h : f0 = 0) : gbX 0 f0 f1 t0 t1 t t := ⟨fun _ q => absurd h q, fun e => absurd e (by decide), fun _ _ => eqT_r t⟩
theorem gx_n1 {f0 f1 : Int32} {t0 t1 t : SNt} (h : f1 = 0) : gbX 1 f0 f1 t0 t1 t t := ⟨fun e => absurd e (by decide), fun _ q => absurd h q, fun _ _ => eqT_r t⟩
theorem gx_k0 {f0 f1 : Int32} {t0 t1 t t' : SNt} (h : ¬ f0 = 0) (g : eqT t' t0) : gbX 0 f0 f1 t0 t1 t t' := ⟨fun _ _ => g, fun e => absurd e (by decide), fun q => absurd ⟨rfl, h⟩ q⟩
theorem gx_k1 {f0 f1 : Int32} {t0 t1 t t' : SNt} (h : ¬ f1 = 0) (g : eqT t' t1) : gbX 1 f0 f1 t0 t1 t t' := ⟨fun e => absurd e (by decide), fun _ _ => g, fun _ q => absurd ⟨rfl, h⟩ q⟩
theorem gr_out {pz f0 f1 sd : Int32} {im fr fw : Nat → Int32} (h : ¬ inB pz 0 1) : gbR pz f0 f1 im fr sd fw fr sd fw := ⟨fun e _ => absurd e (no_in h).1, fun e _ => absurd e (no_in h).2, fun _ _ => ⟨rfl, rfl, rfl⟩⟩
theorem gr_n0 {f0 f1 sd : Int32} {im fr fw : Nat → Int32} (h : f0 = 0) : gbR 0 f0 f1 im fr sd fw fr sd fw := ⟨fun _ q => absurd h q, fun e => absurd e (by decide), fun _ _ => ⟨rfl, rfl, rfl⟩⟩
theorem gr_n1 {f0 f1 sd : Int32} {im fr fw : Nat → Int32} (h : f1 = 0) : gbR 1 f0 f1 im fr sd fw fr sd fw := ⟨fun e => absurd e (by decide), fun _ q => absurd h q, fun _ _ => ⟨rfl, rfl, rfl⟩⟩
theorem gr_k0 {f0 f1 sd sd' : Int32} {im fr fw fr' fw' : Nat → Int32} (h : ¬ f0 = 0) (g : sd' = im 2 ∧ (∀ i, i < 24 → fr' i = b11 (im (3 + i))) ∧ ∀ c, c < 4 → fw' c = im (27 + c)) : gbR 0 f0 f1 im fr sd fw fr' sd' fw' := ⟨fun _ _ => g, fun e => absurd e (by decide), fun q => absurd ⟨rfl, h⟩ q⟩
theorem gr_k1 {f0 f1 sd sd' : Int32} {im fr fw fr' fw' : Nat → Int32} (h : ¬ f1 = 0) (g : sd' = im 37 ∧ (∀ i, i < 24 → fr' i = b11 (im (38 + i))) ∧ ∀ c, c < 4 → fw' c = im (62 + c)) : gbR 1 f0 f1 im fr sd fw fr' sd' fw' := ⟨fun e => absurd e (by decide), fun _ _ => g, fun _ q => absurd ⟨rfl, h⟩ q⟩
/-! cars' walks, the seed -/
def carW (p0 p1 : Int32) (n : Nat) (w w' : Nat → Int32) : Prop := ((inB p0 0 99 ∧ inB p1 0 24) ∧ n < 4 → ∀ c, c < 4 → w' c = upd w n p0 c) ∧ (¬ ((inB p0 0 99 ∧ inB p1 0 24) ∧ n < 4) → ∀ c, c < 4 → w' c = w c)
theorem carW_rel {p0 p1 : Int32} {n : Nat} {w w' v v' : Nat → Int32} (h : carW p0 p1 n w w') (g : carW p0 p1 n v v') (e : ∀ c, c < 4 → w c = v c) : ∀ c, c < 4 → w' c = v' c := by
  intro c hc
  rcases Classical.em ((inB p0 0 99 ∧ inB p1 0 24) ∧ n < 4) with q | q
  · rw [h.1 q c hc, g.1 q c hc]
    by_cases d : c = n
    · rw [d, pk_us, pk_us]
    · rw [pk_un d, pk_un d]
      exact e c hc
  · rw [h.2 q c hc, g.2 q c hc]
    exact e c hc
def sedP (p s r s' : Int32) : Prop := (p < 0 → r = -1002 ∧ s' = s) ∧ (¬ p < 0 → r = s ∧ s' = p)
theorem sedP_fun {p s r s' q t : Int32} (h : sedP p s r s') (g : sedP p s q t) : r = q ∧ s' = t := by
  rcases Classical.em (p < 0) with c | c
  · exact ⟨(h.1 c).1.trans (g.1 c).1.symm, (h.1 c).2.trans (g.1 c).2.symm⟩
  · exact ⟨(h.2 c).1.trans (g.2 c).1.symm, (h.2 c).2.trans (g.2 c).2.symm⟩
theorem cpy4 {f g : Nat → Int32} {c : Nat} (h : c < 4) : va_cpy f g 0 0 4 c = f c := by
  rw [pk_cpy_in (by omega) (by omega), show 0 + (c - 0) = c by omega]
theorem im_st {f F : Nat → Int32} {B k : Nat} {x : Int32} (h : ∀ i, i < k → f (B + i) = F i) (hx : x = F k) : ∀ i, i < k + 1 → upd f (B + k) x (B + i) = F i := by
  intro i hi
  by_cases e : i = k
  · rw [e, pk_us]
    exact hx
  · rw [pk_un (by omega)]
    exact h i (by omega)


set_option maxHeartbeats 4000000 in
set_option maxRecDepth 100000 in
theorem x_see3 (l : Launch) (D : va_G) (k : Nat → ClassId) (st : Nat → Nat) (lo : Nat) (c0 : Nat) (c1 : Nat) (c2 : Nat) (cc : Nat) (rz : Nat) (ro : Int32) (sd : Int32) (p0 : Int32) (hrz : rz < 24) : CWi l D k st lo yX4_see cX4_see 2 (some .int) ({ frames := 0, cells := 0, slots := 0, locals := 0 }) 0 0 [.ref c0, .int p0] [(c0, .inr (4, (fX4 c1 c2 (nI cc) (nI rz) ro sd)))] (fun (r : Int32) (u : Nat × Int32) => match u with | (rz_, ro_) => r = nI (rz + 1) ∧ rz_ = rz + 1 ∧ ro_ = sawO ro rz p0) (fun (u : Nat × Int32) => match u with | (rz_, ro_) => [(c0, .inr (4, (fX4 c1 c2 (nI cc) (nI rz_) ro_ sd)))]) := by
  intro sz
  refine Met.ofW (cc := cX4_see) (maxL := 2) (ret := (some .int)) (by decide) rfl ?_
  intro p e s m args below meth c s₁ B hml hv
  obtain ⟨rfl, hsz, hlo, hP, hK, hDL, hZ⟩ := hv
  have hx := B.exec
  have hb := B.bytes
  have hr := B.returns
  have hts := WS_ts B.pre
  have hown : s.vm.findClass RX4 = some m.cls := findClass_of_methodNamed B.named
  have hlocks := B.notSynchronized
  subst hsz
  have hD := hDL.self (sz := s.heap.size)
  have hAlo := A_lo hDL hlo
  generalize hAe : va_A [(c0, .inr (4, (fX4 c1 c2 (nI cc) (nI rz) ro sd)))] s.heap.size = A at hD hAlo ⊢
  have hA : ∀ q : Nat, s.heap.size ≤ q → A q := fun q h => by rw [← hAe]; exact Or.inr h
  have hS : va_S A s.heap s.heap [] := va_S.rf
  have hl := lv_entry ([.ref c0, .int p0]) (n := 2) (Nat.le_of_ble_eq_true rfl)
  rw [lg_entry_eq]
  generalize (lg_sl ([.ref c0, .int p0]) ++ List.replicate (2 - (lg_sl ([.ref c0, .int p0])).length) Slot.unset).toArray = ls at hl ⊢
  have hl : lv_has ls 2 [(0, .ref c0), (1, .int p0)] := hl
  refine lv_iload_n hx hb dX4_see_0 rfl (lv_at hl 1 rfl) ?_
  refine lv_if_eq (tgt := 19) hx hb dX4_see_1 (by decide) (fun c_1 => ?_) (fun c_1 => ?_)
  · refine lv_aload_n hx hb dX4_see_19 rfl (lv_at hl 0 rfl) ?_
    refine lv_dup hx hb dX4_see_20 rfl ?_
    refine va_get (D := D) (ci := 4) (v := .int (nI rz)) (C := RX4) (T := TX4) (N := 6) hx hb hts inX4 hown hK hP 0 rfl rfl 3 (by decide) (hts _ tw_181) (fun _ h9 => h9) rfl dX4_see_21 ?_
    refine lv_iconst (v := 1) hx hb dX4_see_24 (by decide) ?_
    refine lv_iadd hx hb dX4_see_25 ?_
    refine lv_ti (y := (nI (rz + 1))) (nI_add rz 1) ?_
    refine va_put (D := D) (ci := 4) (v := .int (nI (rz + 1))) (ty := .int) (C := RX4) (T := TX4) (N := 6) hx hb hts inX4 tyX4 tyX4_ok nmX4 hown hK hP hD hS 0 rfl rfl 3 (by decide) (hts _ tw_181) (fun _ h9 => h9) rfl (by decide +kernel) rfl rfl (Nat.le_of_ble_eq_true rfl) dX4_see_26 (fun H locs hP hD hS => ?_)
    replace hP : va_P D classes [(c0, .inr (4, (fX4 c1 c2 (nI cc) (nI (rz + 1)) ro sd)))] H := hP
    replace hD : va_D A [(c0, .inr (4, (fX4 c1 c2 (nI cc) (nI (rz + 1)) ro sd)))] := hD
    refine lv_aload_n hx hb dX4_see_29 rfl (lv_at hl 0 rfl) ?_
    refine va_get (D := D) (ci := 4) (v := .int (nI (rz + 1))) (C := RX4) (T := TX4) (N := 6) hx hb hts inX4 hown hK hP 0 rfl rfl 3 (by decide) (hts _ tw_181) (fun _ h9 => h9) rfl dX4_see_30 ?_
    have hP9 := hP.sub (ws' := [(c0, .inr (4, (fX4 c1 c2 (nI cc) (nI (rz + 1)) ro sd)))]) [0] rfl
    have hD9 := hD.sub (ws' := [(c0, .inr (4, (fX4 c1 c2 (nI cc) (nI (rz + 1)) ro sd)))]) [0] (by decide) rfl
    exact W.iret (v := (nI (rz + 1))) hx hb hr (fun t ht hW => ⟨⟨(nI (rz + 1)), ((rz + 1), ro), rfl, ⟨rfl, rfl, (if_pos c_1).symm⟩, by rw [ht]; exact hP9, hD9⟩, hS.F ht⟩) hS.2.2 dX4_see_33
  · refine lv_aload_n hx hb dX4_see_4 rfl (lv_at hl 0 rfl) ?_
    refine lv_dup hx hb dX4_see_5 rfl ?_
    refine va_get (D := D) (ci := 4) (v := .int ro) (C := RX4) (T := TX4) (N := 6) hx hb hts inX4 hown hK hP 0 rfl rfl 4 (by decide) (hts _ tw_185) (fun _ h9 => h9) rfl dX4_see_6 ?_
    refine lv_iconst (v := 1) hx hb dX4_see_9 (by decide) ?_
    refine lv_aload_n hx hb dX4_see_10 rfl (lv_at hl 0 rfl) ?_
    refine va_get (D := D) (ci := 4) (v := .int (nI rz)) (C := RX4) (T := TX4) (N := 6) hx hb hts inX4 hown hK hP 0 rfl rfl 3 (by decide) (hts _ tw_181) (fun _ h9 => h9) rfl dX4_see_11 ?_
    refine lv_ishl hx hb dX4_see_14 ?_
    refine lv_topi (fun x_2 ex_2 => ?_)
    refine lv_ior hx hb dX4_see_15 ?_
    refine lv_topi (fun x_3 ex_3 => ?_)
    refine va_put (D := D) (ci := 4) (v := .int x_3) (ty := .int) (C := RX4) (T := TX4) (N := 6) hx hb hts inX4 tyX4 tyX4_ok nmX4 hown hK hP hD hS 0 rfl rfl 4 (by decide) (hts _ tw_185) (fun _ h9 => h9) rfl (by decide +kernel) rfl rfl (Nat.le_of_ble_eq_true rfl) dX4_see_16 (fun H locs hP hD hS => ?_)
    replace hP : va_P D classes [(c0, .inr (4, (fX4 c1 c2 (nI cc) (nI rz) x_3 sd)))] H := hP
    replace hD : va_D A [(c0, .inr (4, (fX4 c1 c2 (nI cc) (nI rz) x_3 sd)))] := hD
    refine lv_aload_n hx hb dX4_see_19 rfl (lv_at hl 0 rfl) ?_
    refine lv_dup hx hb dX4_see_20 rfl ?_
    refine va_get (D := D) (ci := 4) (v := .int (nI rz)) (C := RX4) (T := TX4) (N := 6) hx hb hts inX4 hown hK hP 0 rfl rfl 3 (by decide) (hts _ tw_181) (fun _ h9 => h9) rfl dX4_see_21 ?_
    refine lv_iconst (v := 1) hx hb dX4_see_24 (by decide) ?_
    refine lv_iadd hx hb dX4_see_25 ?_
    refine lv_ti (y := (nI (rz + 1))) (nI_add rz 1) ?_
    refine va_put (D := D) (ci := 4) (v := .int (nI (rz + 1))) (ty := .int) (C := RX4) (T := TX4) (N := 6) hx hb hts inX4 tyX4 tyX4_ok nmX4 hown hK hP hD hS 0 rfl rfl 3 (by decide) (hts _ tw_181) (fun _ h9 => h9) rfl (by decide +kernel) rfl rfl (Nat.le_of_ble_eq_true rfl) dX4_see_26 (fun H locs hP hD hS => ?_)
    replace hP : va_P D classes [(c0, .inr (4, (fX4 c1 c2 (nI cc) (nI (rz + 1)) x_3 sd)))] H := hP
    replace hD : va_D A [(c0, .inr (4, (fX4 c1 c2 (nI cc) (nI (rz + 1)) x_3 sd)))] := hD
    refine lv_aload_n hx hb dX4_see_29 rfl (lv_at hl 0 rfl) ?_
    refine va_get (D := D) (ci := 4) (v := .int (nI (rz + 1))) (C := RX4) (T := TX4) (N := 6) hx hb hts inX4 hown hK hP 0 rfl rfl 3 (by decide) (hts _ tw_181) (fun _ h9 => h9) rfl dX4_see_30 ?_
    have hP9 := hP.sub (ws' := [(c0, .inr (4, (fX4 c1 c2 (nI cc) (nI (rz + 1)) x_3 sd)))]) [0] rfl
    have hD9 := hD.sub (ws' := [(c0, .inr (4, (fX4 c1 c2 (nI cc) (nI (rz + 1)) x_3 sd)))]) [0] (by decide) rfl
    exact W.iret (v := (nI (rz + 1))) hx hb hr (fun t ht hW => ⟨⟨(nI (rz + 1)), ((rz + 1), x_3), rfl, ⟨rfl, rfl, by rw [ex_3, ex_2]; exact (if_neg c_1).symm⟩, by rw [ht]; exact hP9, hD9⟩, hS.F ht⟩) hS.2.2 dX4_see_33


set_option maxHeartbeats 4000000 in
set_option maxRecDepth 100000 in
theorem x_saw3 (l : Launch) (D : va_G) (k : Nat → ClassId) (st : Nat → Nat) (lo : Nat) (a : Nat → Nat) (rk : Nat) (lfa : Int32) (cc : Nat) (rz : Nat) (ro : Int32) (sd : Int32) (p0 : Int32) (hrz : rz ≤ 24) : CWi l D k st lo yX7_saw cX7_saw 2 (some .int) ({ frames := 1, cells := 0, slots := 0, locals := 21 }) 0 0 [.ref (a 0), .int p0] [((a 0), .inr (7, (fX7 (a 1) (a 3) (a 19) (a 35) (a 40) (nI rk) lfa (a 53) (a 56) (a 63) (a 64) (a 68)))), ((a 53), .inr (4, (fX4 (a 54) (a 55) (nI cc) (nI rz) ro sd)))] (fun (r : Int32) (u : Nat × Int32) => match u with | (rz_, ro_) => sawP rz r rz_ ∧ rz_ ≤ 24 ∧ (rz < 24 → ro_ = sawO ro rz p0) ∧ (¬ rz < 24 → ro_ = ro)) (fun (u : Nat × Int32) => match u with | (rz_, ro_) => [((a 0), .inr (7, (fX7 (a 1) (a 3) (a 19) (a 35) (a 40) (nI rk) lfa (a 53) (a 56) (a 63) (a 64) (a 68)))), ((a 53), .inr (4, (fX4 (a 54) (a 55) (nI cc) (nI rz_) ro_ sd)))]) := by
  intro sz
  refine Met.ofW (cc := cX7_saw) (maxL := 2) (ret := (some .int)) (by decide) rfl ?_
  intro p e s m args below meth c s₁ B hml hv
  obtain ⟨rfl, hsz, hlo, hP, hK, hDL, hZ⟩ := hv
  have hx := B.exec
  have hb := B.bytes
  have hr := B.returns
  have hts := WS_ts B.pre
  have hown : s.vm.findClass RX7 = some m.cls := findClass_of_methodNamed B.named
  have hlocks := B.notSynchronized
  subst hsz
  have hD := hDL.self (sz := s.heap.size)
  have hAlo := A_lo hDL hlo
  generalize hAe : va_A [((a 0), .inr (7, (fX7 (a 1) (a 3) (a 19) (a 35) (a 40) (nI rk) lfa (a 53) (a 56) (a 63) (a 64) (a 68)))), ((a 53), .inr (4, (fX4 (a 54) (a 55) (nI cc) (nI rz) ro sd)))] s.heap.size = A at hD hAlo ⊢
  have hA : ∀ q : Nat, s.heap.size ≤ q → A q := fun q h => by rw [← hAe]; exact Or.inr h
  have hS : va_S A s.heap s.heap [] := va_S.rf
  have hl := lv_entry ([.ref (a 0), .int p0]) (n := 2) (Nat.le_of_ble_eq_true rfl)
  rw [lg_entry_eq]
  generalize (lg_sl ([.ref (a 0), .int p0]) ++ List.replicate (2 - (lg_sl ([.ref (a 0), .int p0])).length) Slot.unset).toArray = ls at hl ⊢
  have hl : lv_has ls 2 [(0, .ref (a 0)), (1, .int p0)] := hl
  refine lv_aload_n hx hb dX7_saw_0 rfl (lv_at hl 0 rfl) ?_
  refine va_get (D := D) (ci := 7) (v := .ref (a 53)) (C := RX7) (T := TX7) (N := 12) hx hb hts inX7 hown hK hP 0 rfl rfl 7 (by decide) (hts _ tw_312) (fun _ h9 => h9) rfl dX7_saw_1 ?_
  refine va_get (D := D) (ci := 4) (v := .int (nI rz)) (C := RX4) (T := TX4) (N := 6) hx hb hts inX4 hown hK hP 1 rfl rfl 3 (by decide) (hts _ tw_184) (fun _ h9 => h9) rfl dX7_saw_4 ?_
  refine lv_bipush (v := 24) hx hb dX7_saw_7 (by decide) ?_
  refine lv_icmp_ge (tgt := 23) hx hb dX7_saw_9 (by decide) (fun c_1 => ?_) (fun c_1 => ?_)
  · have c_1 := (nI_leI (a := 24) (b := rz) (by omega) (by omega)).mp c_1
    refine lv_sipush (v := (-1004)) hx hb dX7_saw_23 (by decide) ?_
    have hP9 := hP.sub (ws' := [((a 0), .inr (7, (fX7 (a 1) (a 3) (a 19) (a 35) (a 40) (nI rk) lfa (a 53) (a 56) (a 63) (a 64) (a 68)))), ((a 53), .inr (4, (fX4 (a 54) (a 55) (nI cc) (nI rz) ro sd)))]) [0, 1] rfl
    have hD9 := hD.sub (ws' := [((a 0), .inr (7, (fX7 (a 1) (a 3) (a 19) (a 35) (a 40) (nI rk) lfa (a 53) (a 56) (a 63) (a 64) (a 68)))), ((a 53), .inr (4, (fX4 (a 54) (a 55) (nI cc) (nI rz) ro sd)))]) [0, 1] (by decide) rfl
    exact W.iret (v := (-1004)) hx hb hr (fun t ht hW => ⟨⟨(-1004), (rz, ro), rfl, ⟨⟨fun h => absurd h (by omega), fun _ => ⟨rfl, rfl⟩⟩, by omega, fun h => absurd h (by omega), fun _ => rfl⟩, by rw [ht]; exact hP9, hD9⟩, hS.F ht⟩) hS.2.2 dX7_saw_26
  · have c_1 : ¬ (24 ≤ rz) := fun h => c_1 ((nI_leI (a := 24) (b := rz) (by omega) (by omega)).mpr h)
    refine lv_aload_n hx hb dX7_saw_12 rfl (lv_at hl 0 rfl) ?_
    refine va_get (D := D) (ci := 7) (v := .ref (a 53)) (C := RX7) (T := TX7) (N := 12) hx hb hts inX7 hown hK hP 0 rfl rfl 7 (by decide) (hts _ tw_312) (fun _ h9 => h9) rfl dX7_saw_13 ?_
    refine lv_iload_n hx hb dX7_saw_16 rfl (lv_at hl 1 rfl) ?_
    refine rw_i (D := D) (wr := [((a 0), .inr (7, (fX7 (a 1) (a 3) (a 19) (a 35) (a 40) (nI rk) lfa (a 53) (a 56) (a 63) (a 64) (a 68))))]) (va_runV (As := [.int p0]) (rest := []) ⟨hx, hb, hml, hown, hts⟩ ((x_see3 l D k st lo (a 53) (a 54) (a 55) cc rz ro sd p0 (by first | assumption | omega)) s.heap.size) (cwV 1 hts (gV tw_740 tw_741 tw_742 tw_82 tw_743) rfl rfl rfl (by decide +kernel) ⟨Nat.le_of_ble_eq_true rfl, Nat.le_of_ble_eq_true rfl⟩) (pV hS hAlo hlo hP hK (va_Dlo hD hAlo) hZ [1] (by decide) rfl (ci := 4) (q := (RX4, TX4, 6)) (q0 := 0) rfl rfl) rfl rfl hl.1 rfl (lv_room (Nat.le_of_ble_eq_true rfl)) dX7_saw_17 ⟨Nat.le_of_ble_eq_true rfl, Nat.le_of_ble_eq_true rfl⟩) hS hA hP hD [1] [0] rfl rfl (by decide) (by decide) (fun r_2 u H locs hw_2 hP hD hS => ?_)
    obtain ⟨rz__2, ro__2⟩ := u
    replace hP : va_P D classes [((a 0), .inr (7, (fX7 (a 1) (a 3) (a 19) (a 35) (a 40) (nI rk) lfa (a 53) (a 56) (a 63) (a 64) (a 68)))), ((a 53), .inr (4, (fX4 (a 54) (a 55) (nI cc) (nI rz__2) ro__2 sd)))] H := hP
    replace hD : va_D A [((a 0), .inr (7, (fX7 (a 1) (a 3) (a 19) (a 35) (a 40) (nI rk) lfa (a 53) (a 56) (a 63) (a 64) (a 68)))), ((a 53), .inr (4, (fX4 (a 54) (a 55) (nI cc) (nI rz__2) ro__2 sd)))] := hD
    try dsimp only at hw_2
    refine lv_goto (tgt := 26) hx hb dX7_saw_20 (by decide) ?_
    have hP9 := hP.sub (ws' := [((a 0), .inr (7, (fX7 (a 1) (a 3) (a 19) (a 35) (a 40) (nI rk) lfa (a 53) (a 56) (a 63) (a 64) (a 68)))), ((a 53), .inr (4, (fX4 (a 54) (a 55) (nI cc) (nI rz__2) ro__2 sd)))]) [0, 1] rfl
    have hD9 := hD.sub (ws' := [((a 0), .inr (7, (fX7 (a 1) (a 3) (a 19) (a 35) (a 40) (nI rk) lfa (a 53) (a 56) (a 63) (a 64) (a 68)))), ((a 53), .inr (4, (fX4 (a 54) (a 55) (nI cc) (nI rz__2) ro__2 sd)))]) [0, 1] (by decide) rfl
    exact W.iret (v := r_2) hx hb hr (fun t ht hW => ⟨⟨r_2, (rz__2, ro__2), rfl, ⟨⟨fun _ => ⟨hw_2.1, hw_2.2.1⟩, fun h => absurd (by omega) h⟩, by omega, fun _ => hw_2.2.2, fun h => absurd (by omega) h⟩, by rw [ht]; exact hP9, hD9⟩, hS.F ht⟩) hS.2.2 dX7_saw_26


set_option maxHeartbeats 4000000 in
set_option maxRecDepth 100000 in
theorem x_clear3 (l : Launch) (D : va_G) (k : Nat → ClassId) (st : Nat → Nat) (lo : Nat) (a : Nat → Nat) (rk : Nat) (lfa : Int32) (cc : Nat) (rz : Nat) (ro : Int32) (sd : Int32) (hrz : rz ≤ 24) : CWi l D k st lo yX7_clear cX7_clear 2 (some .int) ({ frames := 0, cells := 0, slots := 0, locals := 0 }) 0 0 [.ref (a 0)] [((a 0), .inr (7, (fX7 (a 1) (a 3) (a 19) (a 35) (a 40) (nI rk) lfa (a 53) (a 56) (a 63) (a 64) (a 68)))), ((a 53), .inr (4, (fX4 (a 54) (a 55) (nI cc) (nI rz) ro sd)))] (fun (r : Int32) (u : Nat × Int32) => match u with | (rz_, ro_) => r = nI rz ∧ rz_ = 0 ∧ ro_ = 0) (fun (u : Nat × Int32) => match u with | (rz_, ro_) => [((a 0), .inr (7, (fX7 (a 1) (a 3) (a 19) (a 35) (a 40) (nI rk) lfa (a 53) (a 56) (a 63) (a 64) (a 68)))), ((a 53), .inr (4, (fX4 (a 54) (a 55) (nI cc) (nI rz_) ro_ sd)))]) := by
  intro sz
  refine Met.ofW (cc := cX7_clear) (maxL := 2) (ret := (some .int)) (by decide) rfl ?_
  intro p e s m args below meth c s₁ B hml hv
  obtain ⟨rfl, hsz, hlo, hP, hK, hDL, hZ⟩ := hv
  have hx := B.exec
  have hb := B.bytes
  have hr := B.returns
  have hts := WS_ts B.pre
  have hown : s.vm.findClass RX7 = some m.cls := findClass_of_methodNamed B.named
  have hlocks := B.notSynchronized
  subst hsz
  have hD := hDL.self (sz := s.heap.size)
  have hAlo := A_lo hDL hlo
  generalize hAe : va_A [((a 0), .inr (7, (fX7 (a 1) (a 3) (a 19) (a 35) (a 40) (nI rk) lfa (a 53) (a 56) (a 63) (a 64) (a 68)))), ((a 53), .inr (4, (fX4 (a 54) (a 55) (nI cc) (nI rz) ro sd)))] s.heap.size = A at hD hAlo ⊢
  have hA : ∀ q : Nat, s.heap.size ≤ q → A q := fun q h => by rw [← hAe]; exact Or.inr h
  have hS : va_S A s.heap s.heap [] := va_S.rf
  have hl := lv_entry ([.ref (a 0)]) (n := 2) (Nat.le_of_ble_eq_true rfl)
  rw [lg_entry_eq]
  generalize (lg_sl ([.ref (a 0)]) ++ List.replicate (2 - (lg_sl ([.ref (a 0)])).length) Slot.unset).toArray = ls at hl ⊢
  have hl : lv_has ls 2 [(0, .ref (a 0))] := hl
  refine lv_aload_n hx hb dX7_clear_0 rfl (lv_at hl 0 rfl) ?_
  refine va_get (D := D) (ci := 7) (v := .ref (a 53)) (C := RX7) (T := TX7) (N := 12) hx hb hts inX7 hown hK hP 0 rfl rfl 7 (by decide) (hts _ tw_312) (fun _ h9 => h9) rfl dX7_clear_1 ?_
  refine va_get (D := D) (ci := 4) (v := .int (nI rz)) (C := RX4) (T := TX4) (N := 6) hx hb hts inX4 hown hK hP 1 rfl rfl 3 (by decide) (hts _ tw_184) (fun _ h9 => h9) rfl dX7_clear_4 ?_
  refine lv_istore_n (lv' := [(1, .int (nI rz)), (0, .ref (a 0))]) hx hb dX7_clear_7 rfl hl (by decide) rfl (fun ls hl => ?_)
  refine lv_aload_n hx hb dX7_clear_8 rfl (lv_at hl 1 rfl) ?_
  refine va_get (D := D) (ci := 7) (v := .ref (a 53)) (C := RX7) (T := TX7) (N := 12) hx hb hts inX7 hown hK hP 0 rfl rfl 7 (by decide) (hts _ tw_312) (fun _ h9 => h9) rfl dX7_clear_9 ?_
  refine lv_iconst (v := 0) hx hb dX7_clear_12 (by decide) ?_
  refine va_put (D := D) (ci := 4) (v := .int 0) (ty := .int) (C := RX4) (T := TX4) (N := 6) hx hb hts inX4 tyX4 tyX4_ok nmX4 hown hK hP hD hS 1 rfl rfl 3 (by decide) (hts _ tw_184) (fun _ h9 => h9) rfl (by decide +kernel) rfl rfl (Nat.le_of_ble_eq_true rfl) dX7_clear_13 (fun H locs hP hD hS => ?_)
  replace hP : va_P D classes [((a 0), .inr (7, (fX7 (a 1) (a 3) (a 19) (a 35) (a 40) (nI rk) lfa (a 53) (a 56) (a 63) (a 64) (a 68)))), ((a 53), .inr (4, (fX4 (a 54) (a 55) (nI cc) 0 ro sd)))] H := hP
  replace hD : va_D A [((a 0), .inr (7, (fX7 (a 1) (a 3) (a 19) (a 35) (a 40) (nI rk) lfa (a 53) (a 56) (a 63) (a 64) (a 68)))), ((a 53), .inr (4, (fX4 (a 54) (a 55) (nI cc) 0 ro sd)))] := hD
  refine lv_aload_n hx hb dX7_clear_16 rfl (lv_at hl 1 rfl) ?_
  refine va_get (D := D) (ci := 7) (v := .ref (a 53)) (C := RX7) (T := TX7) (N := 12) hx hb hts inX7 hown hK hP 0 rfl rfl 7 (by decide) (hts _ tw_312) (fun _ h9 => h9) rfl dX7_clear_17 ?_
  refine lv_iconst (v := 0) hx hb dX7_clear_20 (by decide) ?_
  refine va_put (D := D) (ci := 4) (v := .int 0) (ty := .int) (C := RX4) (T := TX4) (N := 6) hx hb hts inX4 tyX4 tyX4_ok nmX4 hown hK hP hD hS 1 rfl rfl 4 (by decide) (hts _ tw_187) (fun _ h9 => h9) rfl (by decide +kernel) rfl rfl (Nat.le_of_ble_eq_true rfl) dX7_clear_21 (fun H locs hP hD hS => ?_)
  replace hP : va_P D classes [((a 0), .inr (7, (fX7 (a 1) (a 3) (a 19) (a 35) (a 40) (nI rk) lfa (a 53) (a 56) (a 63) (a 64) (a 68)))), ((a 53), .inr (4, (fX4 (a 54) (a 55) (nI cc) 0 0 sd)))] H := hP
  replace hD : va_D A [((a 0), .inr (7, (fX7 (a 1) (a 3) (a 19) (a 35) (a 40) (nI rk) lfa (a 53) (a 56) (a 63) (a 64) (a 68)))), ((a 53), .inr (4, (fX4 (a 54) (a 55) (nI cc) 0 0 sd)))] := hD
  refine lv_iload_n hx hb dX7_clear_24 rfl (lv_at hl 0 rfl) ?_
  have hP9 := hP.sub (ws' := [((a 0), .inr (7, (fX7 (a 1) (a 3) (a 19) (a 35) (a 40) (nI rk) lfa (a 53) (a 56) (a 63) (a 64) (a 68)))), ((a 53), .inr (4, (fX4 (a 54) (a 55) (nI cc) 0 0 sd)))]) [0, 1] rfl
  have hD9 := hD.sub (ws' := [((a 0), .inr (7, (fX7 (a 1) (a 3) (a 19) (a 35) (a 40) (nI rk) lfa (a 53) (a 56) (a 63) (a 64) (a 68)))), ((a 53), .inr (4, (fX4 (a 54) (a 55) (nI cc) 0 0 sd)))]) [0, 1] (by decide) rfl
  exact W.iret (v := (nI rz)) hx hb hr (fun t ht hW => ⟨⟨(nI rz), (0, 0), rfl, ⟨rfl, rfl, rfl⟩, by rw [ht]; exact hP9, hD9⟩, hS.F ht⟩) hS.2.2 dX7_clear_25


set_option maxHeartbeats 4000000 in
set_option maxRecDepth 100000 in
theorem x_addCar3 (l : Launch) (D : va_G) (k : Nat → ClassId) (st : Nat → Nat) (lo : Nat) (c0 : Nat) (c1 : Nat) (c2 : Nat) (cc : Nat) (rz : Nat) (ro : Int32) (sd : Int32) (wk : Nat → Int32) (br : Nat → Nat) (p0 : Int32) (bb : Nat) (hcc : cc < 4) (hbb : bb ≤ 24) (hbr : ∀ j, br j ≤ 24) : CWi l D k st lo yX4_addCar cX4_addCar 4 (some .int) ({ frames := 0, cells := 0, slots := 0, locals := 0 }) 0 0 [.ref c0, .int p0, .int (nI bb)] [(c0, .inr (4, (fX4 c1 c2 (nI cc) (nI rz) ro sd))), (aI k c1 4 wk), (aI k c2 4 (nF br))] (fun (r : Int32) (u : Nat × (Nat → Int32) × (Nat → Nat)) => match u with | (cc_, wk_, br_) => (r = nI cc ∧ cc_ = cc + 1) ∧ (∀ j, br_ j ≤ 24) ∧ (∀ c, wk_ c = upd wk cc p0 c)) (fun (u : Nat × (Nat → Int32) × (Nat → Nat)) => match u with | (cc_, wk_, br_) => [(c0, .inr (4, (fX4 c1 c2 (nI cc_) (nI rz) ro sd))), (aI k c1 4 wk_), (aI k c2 4 (nF br_))]) := by
  intro sz
  refine Met.ofW (cc := cX4_addCar) (maxL := 4) (ret := (some .int)) (by decide) rfl ?_
  intro p e s m args below meth c s₁ B hml hv
  obtain ⟨rfl, hsz, hlo, hP, hK, hDL, hZ⟩ := hv
  have hx := B.exec
  have hb := B.bytes
  have hr := B.returns
  have hts := WS_ts B.pre
  have hown : s.vm.findClass RX4 = some m.cls := findClass_of_methodNamed B.named
  have hlocks := B.notSynchronized
  subst hsz
  have hD := hDL.self (sz := s.heap.size)
  have hAlo := A_lo hDL hlo
  generalize hAe : va_A [(c0, .inr (4, (fX4 c1 c2 (nI cc) (nI rz) ro sd))), (aI k c1 4 wk), (aI k c2 4 (nF br))] s.heap.size = A at hD hAlo ⊢
  have hA : ∀ q : Nat, s.heap.size ≤ q → A q := fun q h => by rw [← hAe]; exact Or.inr h
  have hS : va_S A s.heap s.heap [] := va_S.rf
  have hl := lv_entry ([.ref c0, .int p0, .int (nI bb)]) (n := 4) (Nat.le_of_ble_eq_true rfl)
  rw [lg_entry_eq]
  generalize (lg_sl ([.ref c0, .int p0, .int (nI bb)]) ++ List.replicate (4 - (lg_sl ([.ref c0, .int p0, .int (nI bb)])).length) Slot.unset).toArray = ls at hl ⊢
  have hl : lv_has ls 4 [(0, .ref c0), (1, .int p0), (2, .int (nI bb))] := hl
  refine lv_aload_n hx hb dX4_addCar_0 rfl (lv_at hl 0 rfl) ?_
  refine va_get (D := D) (ci := 4) (v := .int (nI cc)) (C := RX4) (T := TX4) (N := 6) hx hb hts inX4 hown hK hP 0 rfl rfl 2 (by decide) (hts _ tw_178) (fun _ h9 => h9) rfl dX4_addCar_1 ?_
  refine lv_istore_n (lv' := [(3, .int (nI cc)), (0, .ref c0), (1, .int p0), (2, .int (nI bb))]) hx hb dX4_addCar_4 rfl hl (by decide) rfl (fun ls hl => ?_)
  refine lv_iload_n hx hb dX4_addCar_5 rfl (lv_at hl 0 rfl) ?_
  refine lv_iconst (v := 4) hx hb dX4_addCar_6 (by decide) ?_
  refine lv_icmp_ge (tgt := 34) hx hb dX4_addCar_7 (by decide) (fun h => absurd ((nI_leI (a := 4) (b := cc) (by omega) (by omega)).mp h) (by omega)) (fun _ => ?_)
  refine lv_aload_n hx hb dX4_addCar_10 rfl (lv_at hl 1 rfl) ?_
  refine va_get (D := D) (ci := 4) (v := .ref c1) (C := RX4) (T := TX4) (N := 6) hx hb hts inX4 hown hK hP 0 rfl rfl 0 (by decide) (hts _ tw_173) (fun _ h9 => h9) rfl dX4_addCar_11 ?_
  refine lv_iload_n hx hb dX4_addCar_14 rfl (lv_at hl 0 rfl) ?_
  refine lv_iload_n hx hb dX4_addCar_15 rfl (lv_at hl 2 rfl) ?_
  refine va_iast hx hb hK hP hD hS 1 1 rfl rfl (vp_in_nI (by omega) (by decide)) dX4_addCar_16 (fun H locs hP hD hS => ?_)
  replace hP : va_P D classes [(c0, .inr (4, (fX4 c1 c2 (nI cc) (nI rz) ro sd))), (aI k c1 4 (upd wk (Int32.toNatClampNeg (nI cc)) p0)), (aI k c2 4 (nF br))] H := hP
  replace hD : va_D A [(c0, .inr (4, (fX4 c1 c2 (nI cc) (nI rz) ro sd))), (aI k c1 4 (upd wk (Int32.toNatClampNeg (nI cc)) p0)), (aI k c2 4 (nF br))] := hD
  rw [nI_clamp (n := cc) (by omega)] at hP hD
  replace hP : va_P D classes [(c0, .inr (4, (fX4 c1 c2 (nI cc) (nI rz) ro sd))), (aI k c1 4 (upd wk cc p0)), (aI k c2 4 (nF br))] H := hP
  replace hD : va_D A [(c0, .inr (4, (fX4 c1 c2 (nI cc) (nI rz) ro sd))), (aI k c1 4 (upd wk cc p0)), (aI k c2 4 (nF br))] := hD
  refine lv_aload_n hx hb dX4_addCar_17 rfl (lv_at hl 1 rfl) ?_
  refine va_get (D := D) (ci := 4) (v := .ref c2) (C := RX4) (T := TX4) (N := 6) hx hb hts inX4 hown hK hP 0 rfl rfl 1 (by decide) (hts _ tw_175) (fun _ h9 => h9) rfl dX4_addCar_18 ?_
  refine lv_iload_n hx hb dX4_addCar_21 rfl (lv_at hl 0 rfl) ?_
  refine lv_iload_n hx hb dX4_addCar_22 rfl (lv_at hl 3 rfl) ?_
  refine va_iast hx hb hK hP hD hS 2 1 rfl rfl (vp_in_nI (by omega) (by decide)) dX4_addCar_23 (fun H locs hP hD hS => ?_)
  replace hP : va_P D classes [(c0, .inr (4, (fX4 c1 c2 (nI cc) (nI rz) ro sd))), (aI k c1 4 (upd wk cc p0)), (aI k c2 4 (upd (nF br) (Int32.toNatClampNeg (nI cc)) (nI bb)))] H := hP
  replace hD : va_D A [(c0, .inr (4, (fX4 c1 c2 (nI cc) (nI rz) ro sd))), (aI k c1 4 (upd wk cc p0)), (aI k c2 4 (upd (nF br) (Int32.toNatClampNeg (nI cc)) (nI bb)))] := hD
  rw [nI_clamp (n := cc) (by omega)] at hP hD
  rw [show upd (nF br) cc (nI bb) = nF (fun j => if j = cc then bb else br j) from nF_upd _ _ _] at hP hD
  obtain ⟨d_4, hd_4⟩ : ∃ z : Nat → Nat, z = (fun j => if j = cc then bb else br j) := ⟨_, rfl⟩
  rw [← hd_4] at hP hD
  have hbb_4 : ∀ j, d_4 j ≤ 24 := by rw [hd_4]; exact up_le hbr (by omega)
  refine lv_aload_n hx hb dX4_addCar_24 rfl (lv_at hl 1 rfl) ?_
  refine lv_dup hx hb dX4_addCar_25 rfl ?_
  refine va_get (D := D) (ci := 4) (v := .int (nI cc)) (C := RX4) (T := TX4) (N := 6) hx hb hts inX4 hown hK hP 0 rfl rfl 2 (by decide) (hts _ tw_178) (fun _ h9 => h9) rfl dX4_addCar_26 ?_
  refine lv_iconst (v := 1) hx hb dX4_addCar_29 (by decide) ?_
  refine lv_iadd hx hb dX4_addCar_30 ?_
  refine lv_ti (y := (nI (cc + 1))) (nI_add cc 1) ?_
  refine va_put (D := D) (ci := 4) (v := .int (nI (cc + 1))) (ty := .int) (C := RX4) (T := TX4) (N := 6) hx hb hts inX4 tyX4 tyX4_ok nmX4 hown hK hP hD hS 0 rfl rfl 2 (by decide) (hts _ tw_178) (fun _ h9 => h9) rfl (by decide +kernel) rfl rfl (Nat.le_of_ble_eq_true rfl) dX4_addCar_31 (fun H locs hP hD hS => ?_)
  replace hP : va_P D classes [(c0, .inr (4, (fX4 c1 c2 (nI (cc + 1)) (nI rz) ro sd))), (aI k c1 4 (upd wk cc p0)), (aI k c2 4 (nF d_4))] H := hP
  replace hD : va_D A [(c0, .inr (4, (fX4 c1 c2 (nI (cc + 1)) (nI rz) ro sd))), (aI k c1 4 (upd wk cc p0)), (aI k c2 4 (nF d_4))] := hD
  refine lv_iload_n hx hb dX4_addCar_34 rfl (lv_at hl 0 rfl) ?_
  have hP9 := hP.sub (ws' := [(c0, .inr (4, (fX4 c1 c2 (nI (cc + 1)) (nI rz) ro sd))), (aI k c1 4 (upd wk cc p0)), (aI k c2 4 (nF d_4))]) [0, 1, 2] rfl
  have hD9 := hD.sub (ws' := [(c0, .inr (4, (fX4 c1 c2 (nI (cc + 1)) (nI rz) ro sd))), (aI k c1 4 (upd wk cc p0)), (aI k c2 4 (nF d_4))]) [0, 1, 2] (by decide) rfl
  exact W.iret (v := (nI cc)) hx hb hr (fun t ht hW => ⟨⟨(nI cc), ((cc + 1), (upd wk cc p0), d_4), rfl, ⟨⟨rfl, rfl⟩, hbb_4, fun _ => rfl⟩, by rw [ht]; exact hP9, hD9⟩, hS.F ht⟩) hS.2.2 dX4_addCar_35


set_option maxHeartbeats 4000000 in
set_option maxRecDepth 100000 in
theorem x_car3 (l : Launch) (D : va_G) (k : Nat → ClassId) (st : Nat → Nat) (lo : Nat) (a : Nat → Nat) (rk : Nat) (lfa : Int32) (cc : Nat) (rz : Nat) (ro : Int32) (sd : Int32) (wk : Nat → Int32) (br : Nat → Nat) (p0 : Int32) (p1 : Int32) (hcc : cc ≤ 4) (hbr : ∀ j, br j ≤ 24) : CWi l D k st lo yX7_car cX7_car 3 (some .int) ({ frames := 1, cells := 0, slots := 0, locals := 23 }) 0 0 [.ref (a 0), .int p0, .int p1] [((a 0), .inr (7, (fX7 (a 1) (a 3) (a 19) (a 35) (a 40) (nI rk) lfa (a 53) (a 56) (a 63) (a 64) (a 68)))), ((a 53), .inr (4, (fX4 (a 54) (a 55) (nI cc) (nI rz) ro sd))), (aI k (a 54) 4 wk), (aI k (a 55) 4 (nF br))] (fun (r : Int32) (u : Nat × (Nat → Int32) × (Nat → Nat)) => match u with | (cc_, wk_, br_) => carP p0 p1 cc r cc_ ∧ cc_ ≤ 4 ∧ (∀ j, br_ j ≤ 24) ∧ carW p0 p1 cc wk wk_) (fun (u : Nat × (Nat → Int32) × (Nat → Nat)) => match u with | (cc_, wk_, br_) => [((a 0), .inr (7, (fX7 (a 1) (a 3) (a 19) (a 35) (a 40) (nI rk) lfa (a 53) (a 56) (a 63) (a 64) (a 68)))), ((a 53), .inr (4, (fX4 (a 54) (a 55) (nI cc_) (nI rz) ro sd))), (aI k (a 54) 4 wk_), (aI k (a 55) 4 (nF br_))]) := by
  intro sz
  refine Met.ofW (cc := cX7_car) (maxL := 3) (ret := (some .int)) (by decide) rfl ?_
  intro p e s m args below meth c s₁ B hml hv
  obtain ⟨rfl, hsz, hlo, hP, hK, hDL, hZ⟩ := hv
  have hx := B.exec
  have hb := B.bytes
  have hr := B.returns
  have hts := WS_ts B.pre
  have hown : s.vm.findClass RX7 = some m.cls := findClass_of_methodNamed B.named
  have hlocks := B.notSynchronized
  subst hsz
  have hD := hDL.self (sz := s.heap.size)
  have hAlo := A_lo hDL hlo
  generalize hAe : va_A [((a 0), .inr (7, (fX7 (a 1) (a 3) (a 19) (a 35) (a 40) (nI rk) lfa (a 53) (a 56) (a 63) (a 64) (a 68)))), ((a 53), .inr (4, (fX4 (a 54) (a 55) (nI cc) (nI rz) ro sd))), (aI k (a 54) 4 wk), (aI k (a 55) 4 (nF br))] s.heap.size = A at hD hAlo ⊢
  have hA : ∀ q : Nat, s.heap.size ≤ q → A q := fun q h => by rw [← hAe]; exact Or.inr h
  have hS : va_S A s.heap s.heap [] := va_S.rf
  have hl := lv_entry ([.ref (a 0), .int p0, .int p1]) (n := 3) (Nat.le_of_ble_eq_true rfl)
  rw [lg_entry_eq]
  generalize (lg_sl ([.ref (a 0), .int p0, .int p1]) ++ List.replicate (3 - (lg_sl ([.ref (a 0), .int p0, .int p1])).length) Slot.unset).toArray = ls at hl ⊢
  have hl : lv_has ls 3 [(0, .ref (a 0)), (1, .int p0), (2, .int p1)] := hl
  refine lv_iload_n hx hb dX7_car_0 rfl (lv_at hl 1 rfl) ?_
  refine lv_iconst (v := 0) hx hb dX7_car_1 (by decide) ?_
  refine va_gets (A := A) hx hb (hZ.2.2.1.narrow hAlo) hS hown (hts _ tw_800) (fun _ h9 => h9) dX7_car_2 ?_
  refine lv_iconst (v := 2) hx hb dX7_car_5 (by decide) ?_
  refine va_ti (A := A) hx hb (hZ.2.2.2.1.narrow hAlo) hS (i := 2) (by unfold vp_in; decide) (v := .int 99) rfl dX7_car_6 ?_
  refine ro_i (D := D) (va_runS (As := [.int p0, .int 0, .int 99]) (rest := []) ⟨hx, hb, hml, hown, hts⟩ ((k_isIn l D k st lo p0 0 99) s.heap.size) (va_cwS 3 hts (gS tw_593 tw_594 tw_79 tw_595) rfl rfl rfl (by decide +kernel) ⟨Nat.le_of_ble_eq_true rfl, Nat.le_of_ble_eq_true rfl⟩) (pS hS hAlo hlo hP hK (va_Dlo hD hAlo) hZ [] (by decide) rfl) rfl rfl hl.1 rfl (lv_room (Nat.le_of_ble_eq_true rfl)) dX7_car_7 ⟨Nat.le_of_ble_eq_true rfl, Nat.le_of_ble_eq_true rfl⟩) hS hA hP (fun r_1 H locs hw_1 hP hS => ?_)
  try dsimp only at hw_1
  rcases hw_1 with ⟨rfl, hw_1⟩ | ⟨rfl, hw_1⟩
  · refine lv_if_eq (tgt := 23) hx hb dX7_car_10 (by decide) (fun h => absurd h (by decide)) (fun _ => ?_)
    refine lv_iload_n hx hb dX7_car_13 rfl (lv_at hl 2 rfl) ?_
    refine lv_iconst (v := 0) hx hb dX7_car_14 (by decide) ?_
    refine lv_bipush (v := 24) hx hb dX7_car_15 (by decide) ?_
    refine ro_i (D := D) (va_runS (As := [.int p1, .int 0, .int 24]) (rest := []) ⟨hx, hb, hml, hown, hts⟩ ((k_isIn l D k st lo p1 0 24) H.size) (va_cwS 3 hts (gS tw_593 tw_594 tw_79 tw_595) rfl rfl rfl (by decide +kernel) ⟨Nat.le_of_ble_eq_true rfl, Nat.le_of_ble_eq_true rfl⟩) (pS hS hAlo hlo hP hK (va_Dlo hD hAlo) hZ [] (by decide) rfl) rfl rfl hl.1 rfl (lv_room (Nat.le_of_ble_eq_true rfl)) dX7_car_17 ⟨Nat.le_of_ble_eq_true rfl, Nat.le_of_ble_eq_true rfl⟩) hS hA hP (fun r_2 H locs hw_2 hP hS => ?_)
    try dsimp only at hw_2
    rcases hw_2 with ⟨rfl, hw_2⟩ | ⟨rfl, hw_2⟩
    · refine lv_if_ne (tgt := 27) hx hb dX7_car_20 (by decide) (fun _ => ?_) (fun h => absurd h (by decide))
      refine lv_aload_n hx hb dX7_car_27 rfl (lv_at hl 0 rfl) ?_
      refine va_get (D := D) (ci := 7) (v := .ref (a 53)) (C := RX7) (T := TX7) (N := 12) hx hb hts inX7 hown hK hP 0 rfl rfl 7 (by decide) (hts _ tw_312) (fun _ h9 => h9) rfl dX7_car_28 ?_
      refine va_get (D := D) (ci := 4) (v := .int (nI cc)) (C := RX4) (T := TX4) (N := 6) hx hb hts inX4 hown hK hP 1 rfl rfl 2 (by decide) (hts _ tw_180) (fun _ h9 => h9) rfl dX7_car_31 ?_
      refine lv_iconst (v := 4) hx hb dX7_car_34 (by decide) ?_
      refine lv_icmp_ge (tgt := 50) hx hb dX7_car_35 (by decide) (fun c_3 => ?_) (fun c_3 => ?_)
      · have c_3 := (nI_leI (a := 4) (b := cc) (by omega) (by omega)).mp c_3
        refine lv_sipush (v := (-1004)) hx hb dX7_car_50 (by decide) ?_
        have hP9 := hP.sub (ws' := [((a 0), .inr (7, (fX7 (a 1) (a 3) (a 19) (a 35) (a 40) (nI rk) lfa (a 53) (a 56) (a 63) (a 64) (a 68)))), ((a 53), .inr (4, (fX4 (a 54) (a 55) (nI cc) (nI rz) ro sd))), (aI k (a 54) 4 wk), (aI k (a 55) 4 (nF br))]) [0, 1, 2, 3] rfl
        have hD9 := hD.sub (ws' := [((a 0), .inr (7, (fX7 (a 1) (a 3) (a 19) (a 35) (a 40) (nI rk) lfa (a 53) (a 56) (a 63) (a 64) (a 68)))), ((a 53), .inr (4, (fX4 (a 54) (a 55) (nI cc) (nI rz) ro sd))), (aI k (a 54) 4 wk), (aI k (a 55) 4 (nF br))]) [0, 1, 2, 3] (by decide) rfl
        exact W.iret (v := (-1004)) hx hb hr (fun t ht hW => ⟨⟨(-1004), (cc, wk, br), rfl, ⟨⟨fun _ => ⟨fun h => absurd h (by omega), fun _ => ⟨rfl, rfl⟩⟩, fun h => absurd ⟨hw_1, hw_2⟩ h⟩, by omega, hbr, ⟨fun h => absurd h.2 (by omega), fun _ _ _ => rfl⟩⟩, by rw [ht]; exact hP9, hD9⟩, hS.F ht⟩) hS.2.2 dX7_car_53
      · have c_3 : ¬ (4 ≤ cc) := fun h => c_3 ((nI_leI (a := 4) (b := cc) (by omega) (by omega)).mpr h)
        obtain ⟨nb_4, hnl_4, hnh_4, rfl⟩ := inB_ofc (a := 0) (b := 24) (by omega) (by omega) hw_2
        refine lv_aload_n hx hb dX7_car_38 rfl (lv_at hl 0 rfl) ?_
        refine va_get (D := D) (ci := 7) (v := .ref (a 53)) (C := RX7) (T := TX7) (N := 12) hx hb hts inX7 hown hK hP 0 rfl rfl 7 (by decide) (hts _ tw_312) (fun _ h9 => h9) rfl dX7_car_39 ?_
        refine lv_iload_n hx hb dX7_car_42 rfl (lv_at hl 1 rfl) ?_
        refine lv_iload_n hx hb dX7_car_43 rfl (lv_at hl 2 rfl) ?_
        refine rw_i (D := D) (wr := [((a 0), .inr (7, (fX7 (a 1) (a 3) (a 19) (a 35) (a 40) (nI rk) lfa (a 53) (a 56) (a 63) (a 64) (a 68))))]) (va_runV (As := [.int p0, .int (nI nb_4)]) (rest := []) ⟨hx, hb, hml, hown, hts⟩ ((x_addCar3 l D k st lo (a 53) (a 54) (a 55) cc rz ro sd wk br p0 nb_4 (by first | assumption | omega) (by first | assumption | omega) hbr) H.size) (cwV 2 hts (gV tw_801 tw_802 tw_803 tw_82 tw_804) rfl rfl rfl (by decide +kernel) ⟨Nat.le_of_ble_eq_true rfl, Nat.le_of_ble_eq_true rfl⟩) (pV hS hAlo hlo hP hK (va_Dlo hD hAlo) hZ [1, 2, 3] (by decide) rfl (ci := 4) (q := (RX4, TX4, 6)) (q0 := 0) rfl rfl) rfl rfl hl.1 rfl (lv_room (Nat.le_of_ble_eq_true rfl)) dX7_car_44 ⟨Nat.le_of_ble_eq_true rfl, Nat.le_of_ble_eq_true rfl⟩) hS hA hP hD [1, 2, 3] [0] rfl rfl (by decide) (by decide) (fun r_5 u H locs hw_5 hP hD hS => ?_)
        obtain ⟨cc__5, wk__5, br__5⟩ := u
        replace hP : va_P D classes [((a 0), .inr (7, (fX7 (a 1) (a 3) (a 19) (a 35) (a 40) (nI rk) lfa (a 53) (a 56) (a 63) (a 64) (a 68)))), ((a 53), .inr (4, (fX4 (a 54) (a 55) (nI cc__5) (nI rz) ro sd))), (aI k (a 54) 4 wk__5), (aI k (a 55) 4 (nF br__5))] H := hP
        replace hD : va_D A [((a 0), .inr (7, (fX7 (a 1) (a 3) (a 19) (a 35) (a 40) (nI rk) lfa (a 53) (a 56) (a 63) (a 64) (a 68)))), ((a 53), .inr (4, (fX4 (a 54) (a 55) (nI cc__5) (nI rz) ro sd))), (aI k (a 54) 4 wk__5), (aI k (a 55) 4 (nF br__5))] := hD
        try dsimp only at hw_5
        refine lv_goto (tgt := 53) hx hb dX7_car_47 (by decide) ?_
        have hP9 := hP.sub (ws' := [((a 0), .inr (7, (fX7 (a 1) (a 3) (a 19) (a 35) (a 40) (nI rk) lfa (a 53) (a 56) (a 63) (a 64) (a 68)))), ((a 53), .inr (4, (fX4 (a 54) (a 55) (nI cc__5) (nI rz) ro sd))), (aI k (a 54) 4 wk__5), (aI k (a 55) 4 (nF br__5))]) [0, 1, 2, 3] rfl
        have hD9 := hD.sub (ws' := [((a 0), .inr (7, (fX7 (a 1) (a 3) (a 19) (a 35) (a 40) (nI rk) lfa (a 53) (a 56) (a 63) (a 64) (a 68)))), ((a 53), .inr (4, (fX4 (a 54) (a 55) (nI cc__5) (nI rz) ro sd))), (aI k (a 54) 4 wk__5), (aI k (a 55) 4 (nF br__5))]) [0, 1, 2, 3] (by decide) rfl
        exact W.iret (v := r_5) hx hb hr (fun t ht hW => ⟨⟨r_5, (cc__5, wk__5, br__5), rfl, ⟨⟨fun _ => ⟨fun _ => hw_5.1, fun h => absurd (by omega) h⟩, fun h => absurd ⟨hw_1, hw_2⟩ h⟩, by omega, hw_5.2.1, ⟨fun _ c _ => hw_5.2.2 c, fun h => absurd ⟨⟨hw_1, hw_2⟩, by omega⟩ h⟩⟩, by rw [ht]; exact hP9, hD9⟩, hS.F ht⟩) hS.2.2 dX7_car_53
    · refine lv_if_ne (tgt := 27) hx hb dX7_car_20 (by decide) (fun h => absurd (by decide) h) (fun _ => ?_)
      refine lv_sipush (v := (-1002)) hx hb dX7_car_23 (by decide) ?_
      have hP9 := hP.sub (ws' := [((a 0), .inr (7, (fX7 (a 1) (a 3) (a 19) (a 35) (a 40) (nI rk) lfa (a 53) (a 56) (a 63) (a 64) (a 68)))), ((a 53), .inr (4, (fX4 (a 54) (a 55) (nI cc) (nI rz) ro sd))), (aI k (a 54) 4 wk), (aI k (a 55) 4 (nF br))]) [0, 1, 2, 3] rfl
      have hD9 := hD.sub (ws' := [((a 0), .inr (7, (fX7 (a 1) (a 3) (a 19) (a 35) (a 40) (nI rk) lfa (a 53) (a 56) (a 63) (a 64) (a 68)))), ((a 53), .inr (4, (fX4 (a 54) (a 55) (nI cc) (nI rz) ro sd))), (aI k (a 54) 4 wk), (aI k (a 55) 4 (nF br))]) [0, 1, 2, 3] (by decide) rfl
      exact W.iret (v := (-1002)) hx hb hr (fun t ht hW => ⟨⟨(-1002), (cc, wk, br), rfl, ⟨⟨fun h => absurd h.2 hw_2, fun _ => ⟨rfl, rfl⟩⟩, by omega, hbr, ⟨fun h => absurd h.1.2 hw_2, fun _ _ _ => rfl⟩⟩, by rw [ht]; exact hP9, hD9⟩, hS.F ht⟩) hS.2.2 dX7_car_26
  · refine lv_if_eq (tgt := 23) hx hb dX7_car_10 (by decide) (fun _ => ?_) (fun h => absurd (by decide) h)
    refine lv_sipush (v := (-1002)) hx hb dX7_car_23 (by decide) ?_
    have hP9 := hP.sub (ws' := [((a 0), .inr (7, (fX7 (a 1) (a 3) (a 19) (a 35) (a 40) (nI rk) lfa (a 53) (a 56) (a 63) (a 64) (a 68)))), ((a 53), .inr (4, (fX4 (a 54) (a 55) (nI cc) (nI rz) ro sd))), (aI k (a 54) 4 wk), (aI k (a 55) 4 (nF br))]) [0, 1, 2, 3] rfl
    have hD9 := hD.sub (ws' := [((a 0), .inr (7, (fX7 (a 1) (a 3) (a 19) (a 35) (a 40) (nI rk) lfa (a 53) (a 56) (a 63) (a 64) (a 68)))), ((a 53), .inr (4, (fX4 (a 54) (a 55) (nI cc) (nI rz) ro sd))), (aI k (a 54) 4 wk), (aI k (a 55) 4 (nF br))]) [0, 1, 2, 3] (by decide) rfl
    exact W.iret (v := (-1002)) hx hb hr (fun t ht hW => ⟨⟨(-1002), (cc, wk, br), rfl, ⟨⟨fun h => absurd h.1 hw_1, fun _ => ⟨rfl, rfl⟩⟩, by omega, hbr, ⟨fun h => absurd h.1.1 hw_1, fun _ _ _ => rfl⟩⟩, by rw [ht]; exact hP9, hD9⟩, hS.F ht⟩) hS.2.2 dX7_car_26


set_option maxHeartbeats 4000000 in
set_option maxRecDepth 100000 in
theorem x_copyFrom3 (l : Launch) (D : va_G) (k : Nat → ClassId) (st : Nat → Nat) (lo : Nat) (c0 : Nat) (c1 : Nat) (c2 : Nat) (cc : Nat) (rz : Nat) (ro : Int32) (sd : Int32) (wk : Nat → Int32) (br : Nat → Nat) (o0 : Nat) (o1 : Nat) (o2 : Nat) (cco : Nat) (rzo : Nat) (roo : Int32) (sdo : Int32) (wko : Nat → Int32) (bro : Nat → Nat) (hcc : cco ≤ 4) (hrz : rzo ≤ 24) (hbr : ∀ j, br j ≤ 24) (hbo : ∀ j, bro j ≤ 24) : CWv l D k st lo yX4_copyFrom cX4_copyFrom 2 none ({ frames := 1, cells := 0, slots := 0, locals := 60 }) 0 0 [.ref c0, .ref o0] [(c0, .inr (4, (fX4 c1 c2 (nI cc) (nI rz) ro sd))), (aI k c1 4 wk), (aI k c2 4 (nF br)), (o0, .inr (4, (fX4 o1 o2 (nI cco) (nI rzo) roo sdo))), (aI k o1 4 wko), (aI k o2 4 (nF bro))] (fun (u : Nat × Nat × Int32 × Int32 × (Nat → Int32) × (Nat → Nat)) => match u with | (cc_, rz_, ro_, sd_, wk_, br_) => cco = cc_ ∧ rzo = rz_ ∧ (∀ j, br_ j ≤ 24) ∧ roo = ro_ ∧ sdo = sd_ ∧ ∀ c, c < 4 → wk_ c = wko c) (fun (u : Nat × Nat × Int32 × Int32 × (Nat → Int32) × (Nat → Nat)) => match u with | (cc_, rz_, ro_, sd_, wk_, br_) => [(c0, .inr (4, (fX4 c1 c2 (nI cc_) (nI rz_) ro_ sd_))), (aI k c1 4 wk_), (aI k c2 4 (nF br_)), (o0, .inr (4, (fX4 o1 o2 (nI cco) (nI rzo) roo sdo))), (aI k o1 4 wko), (aI k o2 4 (nF bro))]) := by
  intro sz
  refine Met.ofW (cc := cX4_copyFrom) (maxL := 2) (ret := none) (by decide) rfl ?_
  intro p e s m args below meth c s₁ B hml hv
  obtain ⟨rfl, hsz, hlo, hP, hK, hDL, hZ⟩ := hv
  have hx := B.exec
  have hb := B.bytes
  have hr := B.returns
  have hts := WS_ts B.pre
  have hown : s.vm.findClass RX4 = some m.cls := findClass_of_methodNamed B.named
  have hlocks := B.notSynchronized
  subst hsz
  have hD := hDL.self (sz := s.heap.size)
  have hAlo := A_lo hDL hlo
  generalize hAe : va_A [(c0, .inr (4, (fX4 c1 c2 (nI cc) (nI rz) ro sd))), (aI k c1 4 wk), (aI k c2 4 (nF br)), (o0, .inr (4, (fX4 o1 o2 (nI cco) (nI rzo) roo sdo))), (aI k o1 4 wko), (aI k o2 4 (nF bro))] s.heap.size = A at hD hAlo ⊢
  have hA : ∀ q : Nat, s.heap.size ≤ q → A q := fun q h => by rw [← hAe]; exact Or.inr h
  have hS : va_S A s.heap s.heap [] := va_S.rf
  have hl := lv_entry ([.ref c0, .ref o0]) (n := 2) (Nat.le_of_ble_eq_true rfl)
  rw [lg_entry_eq]
  generalize (lg_sl ([.ref c0, .ref o0]) ++ List.replicate (2 - (lg_sl ([.ref c0, .ref o0])).length) Slot.unset).toArray = ls at hl ⊢
  have hl : lv_has ls 2 [(0, .ref c0), (1, .ref o0)] := hl
  refine lv_aload_n hx hb dX4_copyFrom_0 rfl (lv_at hl 1 rfl) ?_
  refine va_get (D := D) (ci := 4) (v := .ref o1) (C := RX4) (T := TX4) (N := 6) hx hb hts inX4 hown hK hP 3 rfl rfl 0 (by decide) (hts _ tw_173) (fun _ h9 => h9) rfl dX4_copyFrom_1 ?_
  refine lv_iconst (v := 0) hx hb dX4_copyFrom_4 (by decide) ?_
  refine lv_aload_n hx hb dX4_copyFrom_5 rfl (lv_at hl 0 rfl) ?_
  refine va_get (D := D) (ci := 4) (v := .ref c1) (C := RX4) (T := TX4) (N := 6) hx hb hts inX4 hown hK hP 0 rfl rfl 0 (by decide) (hts _ tw_173) (fun _ h9 => h9) rfl dX4_copyFrom_6 ?_
  refine lv_iconst (v := 0) hx hb dX4_copyFrom_9 (by decide) ?_
  refine lv_iconst (v := 4) hx hb dX4_copyFrom_10 (by decide) ?_
  refine va_copyi hx hb (by rw [hml]; exact hl.1.symm) hown (hts _ tw_883) (hts _ tw_366) (hts _ tw_365) (hts _ tw_88) hK hP hD hS 4 1 1 1 rfl rfl rfl rfl rfl (by decide) (by decide) (by decide) (by decide) (by decide) (fun _ _ => rfl) (Nat.le_of_ble_eq_true rfl) (Nat.le_of_ble_eq_true rfl) dX4_copyFrom_11 (fun H locs hP hD hS => ?_)
  replace hP : va_P D classes [(c0, .inr (4, (fX4 c1 c2 (nI cc) (nI rz) ro sd))), (aI k c1 4 (va_cpy wko wk 0 0 4)), (aI k c2 4 (nF br)), (o0, .inr (4, (fX4 o1 o2 (nI cco) (nI rzo) roo sdo))), (aI k o1 4 wko), (aI k o2 4 (nF bro))] H := hP
  replace hD : va_D A [(c0, .inr (4, (fX4 c1 c2 (nI cc) (nI rz) ro sd))), (aI k c1 4 (va_cpy wko wk 0 0 4)), (aI k c2 4 (nF br)), (o0, .inr (4, (fX4 o1 o2 (nI cco) (nI rzo) roo sdo))), (aI k o1 4 wko), (aI k o2 4 (nF bro))] := hD
  refine lv_aload_n hx hb dX4_copyFrom_14 rfl (lv_at hl 1 rfl) ?_
  refine va_get (D := D) (ci := 4) (v := .ref o2) (C := RX4) (T := TX4) (N := 6) hx hb hts inX4 hown hK hP 3 rfl rfl 1 (by decide) (hts _ tw_175) (fun _ h9 => h9) rfl dX4_copyFrom_15 ?_
  refine lv_iconst (v := 0) hx hb dX4_copyFrom_18 (by decide) ?_
  refine lv_aload_n hx hb dX4_copyFrom_19 rfl (lv_at hl 0 rfl) ?_
  refine va_get (D := D) (ci := 4) (v := .ref c2) (C := RX4) (T := TX4) (N := 6) hx hb hts inX4 hown hK hP 0 rfl rfl 1 (by decide) (hts _ tw_175) (fun _ h9 => h9) rfl dX4_copyFrom_20 ?_
  refine lv_iconst (v := 0) hx hb dX4_copyFrom_23 (by decide) ?_
  refine lv_iconst (v := 4) hx hb dX4_copyFrom_24 (by decide) ?_
  refine va_copyi hx hb (by rw [hml]; exact hl.1.symm) hown (hts _ tw_883) (hts _ tw_366) (hts _ tw_365) (hts _ tw_88) hK hP hD hS 5 2 1 1 rfl rfl rfl rfl rfl (by decide) (by decide) (by decide) (by decide) (by decide) (fun _ _ => rfl) (Nat.le_of_ble_eq_true rfl) (Nat.le_of_ble_eq_true rfl) dX4_copyFrom_25 (fun H locs hP hD hS => ?_)
  replace hP : va_P D classes [(c0, .inr (4, (fX4 c1 c2 (nI cc) (nI rz) ro sd))), (aI k c1 4 (va_cpy wko wk 0 0 4)), (aI k c2 4 (va_cpy (nF bro) (nF br) 0 0 4)), (o0, .inr (4, (fX4 o1 o2 (nI cco) (nI rzo) roo sdo))), (aI k o1 4 wko), (aI k o2 4 (nF bro))] H := hP
  replace hD : va_D A [(c0, .inr (4, (fX4 c1 c2 (nI cc) (nI rz) ro sd))), (aI k c1 4 (va_cpy wko wk 0 0 4)), (aI k c2 4 (va_cpy (nF bro) (nF br) 0 0 4)), (o0, .inr (4, (fX4 o1 o2 (nI cco) (nI rzo) roo sdo))), (aI k o1 4 wko), (aI k o2 4 (nF bro))] := hD
  obtain ⟨d_3, hd_3, hbb_3⟩ := nF_cpy hbo hbr
  rw [show va_cpy (nF bro) (nF br) 0 0 4 = nF d_3 from hd_3] at hP hD
  replace hP : va_P D classes [(c0, .inr (4, (fX4 c1 c2 (nI cc) (nI rz) ro sd))), (aI k c1 4 (va_cpy wko wk 0 0 4)), (aI k c2 4 (nF d_3)), (o0, .inr (4, (fX4 o1 o2 (nI cco) (nI rzo) roo sdo))), (aI k o1 4 wko), (aI k o2 4 (nF bro))] H := hP
  replace hD : va_D A [(c0, .inr (4, (fX4 c1 c2 (nI cc) (nI rz) ro sd))), (aI k c1 4 (va_cpy wko wk 0 0 4)), (aI k c2 4 (nF d_3)), (o0, .inr (4, (fX4 o1 o2 (nI cco) (nI rzo) roo sdo))), (aI k o1 4 wko), (aI k o2 4 (nF bro))] := hD
  refine lv_aload_n hx hb dX4_copyFrom_28 rfl (lv_at hl 0 rfl) ?_
  refine lv_aload_n hx hb dX4_copyFrom_29 rfl (lv_at hl 1 rfl) ?_
  refine va_get (D := D) (ci := 4) (v := .int (nI cco)) (C := RX4) (T := TX4) (N := 6) hx hb hts inX4 hown hK hP 3 rfl rfl 2 (by decide) (hts _ tw_178) (fun _ h9 => h9) rfl dX4_copyFrom_30 ?_
  refine va_put (D := D) (ci := 4) (v := .int (nI cco)) (ty := .int) (C := RX4) (T := TX4) (N := 6) hx hb hts inX4 tyX4 tyX4_ok nmX4 hown hK hP hD hS 0 rfl rfl 2 (by decide) (hts _ tw_178) (fun _ h9 => h9) rfl (by decide +kernel) rfl rfl (Nat.le_of_ble_eq_true rfl) dX4_copyFrom_33 (fun H locs hP hD hS => ?_)
  replace hP : va_P D classes [(c0, .inr (4, (fX4 c1 c2 (nI cco) (nI rz) ro sd))), (aI k c1 4 (va_cpy wko wk 0 0 4)), (aI k c2 4 (nF d_3)), (o0, .inr (4, (fX4 o1 o2 (nI cco) (nI rzo) roo sdo))), (aI k o1 4 wko), (aI k o2 4 (nF bro))] H := hP
  replace hD : va_D A [(c0, .inr (4, (fX4 c1 c2 (nI cco) (nI rz) ro sd))), (aI k c1 4 (va_cpy wko wk 0 0 4)), (aI k c2 4 (nF d_3)), (o0, .inr (4, (fX4 o1 o2 (nI cco) (nI rzo) roo sdo))), (aI k o1 4 wko), (aI k o2 4 (nF bro))] := hD
  refine lv_aload_n hx hb dX4_copyFrom_36 rfl (lv_at hl 0 rfl) ?_
  refine lv_aload_n hx hb dX4_copyFrom_37 rfl (lv_at hl 1 rfl) ?_
  refine va_get (D := D) (ci := 4) (v := .int (nI rzo)) (C := RX4) (T := TX4) (N := 6) hx hb hts inX4 hown hK hP 3 rfl rfl 3 (by decide) (hts _ tw_181) (fun _ h9 => h9) rfl dX4_copyFrom_38 ?_
  refine va_put (D := D) (ci := 4) (v := .int (nI rzo)) (ty := .int) (C := RX4) (T := TX4) (N := 6) hx hb hts inX4 tyX4 tyX4_ok nmX4 hown hK hP hD hS 0 rfl rfl 3 (by decide) (hts _ tw_181) (fun _ h9 => h9) rfl (by decide +kernel) rfl rfl (Nat.le_of_ble_eq_true rfl) dX4_copyFrom_41 (fun H locs hP hD hS => ?_)
  replace hP : va_P D classes [(c0, .inr (4, (fX4 c1 c2 (nI cco) (nI rzo) ro sd))), (aI k c1 4 (va_cpy wko wk 0 0 4)), (aI k c2 4 (nF d_3)), (o0, .inr (4, (fX4 o1 o2 (nI cco) (nI rzo) roo sdo))), (aI k o1 4 wko), (aI k o2 4 (nF bro))] H := hP
  replace hD : va_D A [(c0, .inr (4, (fX4 c1 c2 (nI cco) (nI rzo) ro sd))), (aI k c1 4 (va_cpy wko wk 0 0 4)), (aI k c2 4 (nF d_3)), (o0, .inr (4, (fX4 o1 o2 (nI cco) (nI rzo) roo sdo))), (aI k o1 4 wko), (aI k o2 4 (nF bro))] := hD
  refine lv_aload_n hx hb dX4_copyFrom_44 rfl (lv_at hl 0 rfl) ?_
  refine lv_aload_n hx hb dX4_copyFrom_45 rfl (lv_at hl 1 rfl) ?_
  refine va_get (D := D) (ci := 4) (v := .int roo) (C := RX4) (T := TX4) (N := 6) hx hb hts inX4 hown hK hP 3 rfl rfl 4 (by decide) (hts _ tw_185) (fun _ h9 => h9) rfl dX4_copyFrom_46 ?_
  refine va_put (D := D) (ci := 4) (v := .int roo) (ty := .int) (C := RX4) (T := TX4) (N := 6) hx hb hts inX4 tyX4 tyX4_ok nmX4 hown hK hP hD hS 0 rfl rfl 4 (by decide) (hts _ tw_185) (fun _ h9 => h9) rfl (by decide +kernel) rfl rfl (Nat.le_of_ble_eq_true rfl) dX4_copyFrom_49 (fun H locs hP hD hS => ?_)
  replace hP : va_P D classes [(c0, .inr (4, (fX4 c1 c2 (nI cco) (nI rzo) roo sd))), (aI k c1 4 (va_cpy wko wk 0 0 4)), (aI k c2 4 (nF d_3)), (o0, .inr (4, (fX4 o1 o2 (nI cco) (nI rzo) roo sdo))), (aI k o1 4 wko), (aI k o2 4 (nF bro))] H := hP
  replace hD : va_D A [(c0, .inr (4, (fX4 c1 c2 (nI cco) (nI rzo) roo sd))), (aI k c1 4 (va_cpy wko wk 0 0 4)), (aI k c2 4 (nF d_3)), (o0, .inr (4, (fX4 o1 o2 (nI cco) (nI rzo) roo sdo))), (aI k o1 4 wko), (aI k o2 4 (nF bro))] := hD
  refine lv_aload_n hx hb dX4_copyFrom_52 rfl (lv_at hl 0 rfl) ?_
  refine lv_aload_n hx hb dX4_copyFrom_53 rfl (lv_at hl 1 rfl) ?_
  refine va_get (D := D) (ci := 4) (v := .int sdo) (C := RX4) (T := TX4) (N := 6) hx hb hts inX4 hown hK hP 3 rfl rfl 5 (by decide) (hts _ tw_188) (fun _ h9 => h9) rfl dX4_copyFrom_54 ?_
  refine va_put (D := D) (ci := 4) (v := .int sdo) (ty := .int) (C := RX4) (T := TX4) (N := 6) hx hb hts inX4 tyX4 tyX4_ok nmX4 hown hK hP hD hS 0 rfl rfl 5 (by decide) (hts _ tw_188) (fun _ h9 => h9) rfl (by decide +kernel) rfl rfl (Nat.le_of_ble_eq_true rfl) dX4_copyFrom_57 (fun H locs hP hD hS => ?_)
  replace hP : va_P D classes [(c0, .inr (4, (fX4 c1 c2 (nI cco) (nI rzo) roo sdo))), (aI k c1 4 (va_cpy wko wk 0 0 4)), (aI k c2 4 (nF d_3)), (o0, .inr (4, (fX4 o1 o2 (nI cco) (nI rzo) roo sdo))), (aI k o1 4 wko), (aI k o2 4 (nF bro))] H := hP
  replace hD : va_D A [(c0, .inr (4, (fX4 c1 c2 (nI cco) (nI rzo) roo sdo))), (aI k c1 4 (va_cpy wko wk 0 0 4)), (aI k c2 4 (nF d_3)), (o0, .inr (4, (fX4 o1 o2 (nI cco) (nI rzo) roo sdo))), (aI k o1 4 wko), (aI k o2 4 (nF bro))] := hD
  have hP9 := hP.sub (ws' := [(c0, .inr (4, (fX4 c1 c2 (nI cco) (nI rzo) roo sdo))), (aI k c1 4 (va_cpy wko wk 0 0 4)), (aI k c2 4 (nF d_3)), (o0, .inr (4, (fX4 o1 o2 (nI cco) (nI rzo) roo sdo))), (aI k o1 4 wko), (aI k o2 4 (nF bro))]) [0, 1, 2, 3, 4, 5] rfl
  have hD9 := hD.sub (ws' := [(c0, .inr (4, (fX4 c1 c2 (nI cco) (nI rzo) roo sdo))), (aI k c1 4 (va_cpy wko wk 0 0 4)), (aI k c2 4 (nF d_3)), (o0, .inr (4, (fX4 o1 o2 (nI cco) (nI rzo) roo sdo))), (aI k o1 4 wko), (aI k o2 4 (nF bro))]) [0, 1, 2, 3, 4, 5] (by decide) rfl
  exact W.vret hx hb hr (fun t ht hW => ⟨⟨(cco, rzo, roo, sdo, (va_cpy wko wk 0 0 4), d_3), rfl, ⟨rfl, rfl, hbb_3, rfl, rfl, fun c hc => cpy4 hc⟩, by rw [ht]; exact hP9, hD9⟩, hS.F ht⟩) hS.2.2 dX4_copyFrom_60


set_option maxHeartbeats 4000000 in
set_option maxRecDepth 100000 in
theorem x_keep3 (l : Launch) (D : va_G) (k : Nat → ClassId) (st : Nat → Nat) (lo : Nat) (a : Nat → Nat) (rk : Nat) (lfa : Int32) (cc : Nat) (rz : Nat) (ro : Int32) (sd : Int32) (wk : Nat → Int32) (br : Nat → Nat) (cci0 : Nat) (rzi0 : Nat) (roi0 : Int32) (sdi0 : Int32) (wki0 : Nat → Int32) (bri0 : Nat → Nat) (cci1 : Nat) (rzi1 : Nat) (roi1 : Int32) (sdi1 : Int32) (wki1 : Nat → Int32) (bri1 : Nat → Nat) (fk : Nat → Int32) (pz : Int32) (hcc : cc ≤ 4) (hrz : rz ≤ 24) (hbr : ∀ j, br j ≤ 24) (hcci0 : cci0 ≤ 4) (hrzi0 : rzi0 ≤ 24) (hbi0 : ∀ j, bri0 j ≤ 24) (hcci1 : cci1 ≤ 4) (hrzi1 : rzi1 ≤ 24) (hbi1 : ∀ j, bri1 j ≤ 24) : CWi l D k st lo yX7_keep cX7_keep 2 (some .int) ({ frames := 2, cells := 0, slots := 0, locals := 81 }) 0 0 [.ref (a 0), .int pz] [((a 0), .inr (7, (fX7 (a 1) (a 3) (a 19) (a 35) (a 40) (nI rk) lfa (a 53) (a 56) (a 63) (a 64) (a 68)))), ((a 53), .inr (4, (fX4 (a 54) (a 55) (nI cc) (nI rz) ro sd))), (aI k (a 54) 4 wk), (aI k (a 55) 4 (nF br)), ((a 56), .inl (k 6, 2, .inr (.inr (.inr (.inr (a2 (a 57) (a 60))))))), ((a 57), .inr (4, (fX4 (a 58) (a 59) (nI cci0) (nI rzi0) roi0 sdi0))), (aI k (a 58) 4 wki0), (aI k (a 59) 4 (nF bri0)), ((a 60), .inr (4, (fX4 (a 61) (a 62) (nI cci1) (nI rzi1) roi1 sdi1))), (aI k (a 61) 4 wki1), (aI k (a 62) 4 (nF bri1)), (aZ k (a 63) 2 fk)] (fun (r : Int32) (u : Nat × Nat × Int32 × Int32 × (Nat → Int32) × (Nat → Nat) × Nat × Nat × Int32 × Int32 × (Nat → Int32) × (Nat → Nat) × (Nat → Int32)) => match u with | (cci0_, rzi0_, roi0_, sdi0_, wki0_, bri0_, cci1_, rzi1_, roi1_, sdi1_, wki1_, bri1_, fk_) => cci0_ ≤ 4 ∧ rzi0_ ≤ 24 ∧ (∀ j, bri0_ j ≤ 24) ∧ cci1_ ≤ 4 ∧ rzi1_ ≤ 24 ∧ (∀ j, bri1_ j ≤ 24) ∧ kpN pz 0 (fk 0) (fk_ 0) rzi0 cci0 rzi0_ cci0_ rz cc ∧ kpN pz 1 (fk 1) (fk_ 1) rzi1 cci1 rzi1_ cci1_ rz cc ∧ (inB pz 0 1 → r = 1) ∧ (¬ inB pz 0 1 → r = -1001) ∧ kpX pz 0 roi0 sdi0 wki0 roi0_ sdi0_ wki0_ ro sd wk ∧ kpX pz 1 roi1 sdi1 wki1 roi1_ sdi1_ wki1_ ro sd wk) (fun (u : Nat × Nat × Int32 × Int32 × (Nat → Int32) × (Nat → Nat) × Nat × Nat × Int32 × Int32 × (Nat → Int32) × (Nat → Nat) × (Nat → Int32)) => match u with | (cci0_, rzi0_, roi0_, sdi0_, wki0_, bri0_, cci1_, rzi1_, roi1_, sdi1_, wki1_, bri1_, fk_) => [((a 0), .inr (7, (fX7 (a 1) (a 3) (a 19) (a 35) (a 40) (nI rk) lfa (a 53) (a 56) (a 63) (a 64) (a 68)))), ((a 53), .inr (4, (fX4 (a 54) (a 55) (nI cc) (nI rz) ro sd))), (aI k (a 54) 4 wk), (aI k (a 55) 4 (nF br)), ((a 56), .inl (k 6, 2, .inr (.inr (.inr (.inr (a2 (a 57) (a 60))))))), ((a 57), .inr (4, (fX4 (a 58) (a 59) (nI cci0_) (nI rzi0_) roi0_ sdi0_))), (aI k (a 58) 4 wki0_), (aI k (a 59) 4 (nF bri0_)), ((a 60), .inr (4, (fX4 (a 61) (a 62) (nI cci1_) (nI rzi1_) roi1_ sdi1_))), (aI k (a 61) 4 wki1_), (aI k (a 62) 4 (nF bri1_)), (aZ k (a 63) 2 fk_)]) := by
  intro sz
  refine Met.ofW (cc := cX7_keep) (maxL := 2) (ret := (some .int)) (by decide) rfl ?_
  intro p e s m args below meth c s₁ B hml hv
  obtain ⟨rfl, hsz, hlo, hP, hK, hDL, hZ⟩ := hv
  have hx := B.exec
  have hb := B.bytes
  have hr := B.returns
  have hts := WS_ts B.pre
  have hown : s.vm.findClass RX7 = some m.cls := findClass_of_methodNamed B.named
  have hlocks := B.notSynchronized
  subst hsz
  have hD := hDL.self (sz := s.heap.size)
  have hAlo := A_lo hDL hlo
  generalize hAe : va_A [((a 0), .inr (7, (fX7 (a 1) (a 3) (a 19) (a 35) (a 40) (nI rk) lfa (a 53) (a 56) (a 63) (a 64) (a 68)))), ((a 53), .inr (4, (fX4 (a 54) (a 55) (nI cc) (nI rz) ro sd))), (aI k (a 54) 4 wk), (aI k (a 55) 4 (nF br)), ((a 56), .inl (k 6, 2, .inr (.inr (.inr (.inr (a2 (a 57) (a 60))))))), ((a 57), .inr (4, (fX4 (a 58) (a 59) (nI cci0) (nI rzi0) roi0 sdi0))), (aI k (a 58) 4 wki0), (aI k (a 59) 4 (nF bri0)), ((a 60), .inr (4, (fX4 (a 61) (a 62) (nI cci1) (nI rzi1) roi1 sdi1))), (aI k (a 61) 4 wki1), (aI k (a 62) 4 (nF bri1)), (aZ k (a 63) 2 fk)] s.heap.size = A at hD hAlo ⊢
  have hA : ∀ q : Nat, s.heap.size ≤ q → A q := fun q h => by rw [← hAe]; exact Or.inr h
  have hS : va_S A s.heap s.heap [] := va_S.rf
  have hl := lv_entry ([.ref (a 0), .int pz]) (n := 2) (Nat.le_of_ble_eq_true rfl)
  rw [lg_entry_eq]
  generalize (lg_sl ([.ref (a 0), .int pz]) ++ List.replicate (2 - (lg_sl ([.ref (a 0), .int pz])).length) Slot.unset).toArray = ls at hl ⊢
  have hl : lv_has ls 2 [(0, .ref (a 0)), (1, .int pz)] := hl
  refine lv_iload_n hx hb dX7_keep_0 rfl (lv_at hl 1 rfl) ?_
  refine lv_iconst (v := 0) hx hb dX7_keep_1 (by decide) ?_
  refine lv_iconst (v := 1) hx hb dX7_keep_2 (by decide) ?_
  refine ro_i (D := D) (va_runS (As := [.int pz, .int 0, .int 1]) (rest := []) ⟨hx, hb, hml, hown, hts⟩ ((k_isIn l D k st lo pz 0 1) s.heap.size) (va_cwS 3 hts (gS tw_593 tw_594 tw_79 tw_595) rfl rfl rfl (by decide +kernel) ⟨Nat.le_of_ble_eq_true rfl, Nat.le_of_ble_eq_true rfl⟩) (pS hS hAlo hlo hP hK (va_Dlo hD hAlo) hZ [] (by decide) rfl) rfl rfl hl.1 rfl (lv_room (Nat.le_of_ble_eq_true rfl)) dX7_keep_3 ⟨Nat.le_of_ble_eq_true rfl, Nat.le_of_ble_eq_true rfl⟩) hS hA hP (fun r_1 H locs hw_1 hP hS => ?_)
  try dsimp only at hw_1
  rcases hw_1 with ⟨rfl, hw_1⟩ | ⟨rfl, hw_1⟩
  · refine lv_if_ne (tgt := 13) hx hb dX7_keep_6 (by decide) (fun _ => ?_) (fun h => absurd h (by decide))
    rcases spl2 hw_1 with rfl | rfl
    · refine lv_aload_n hx hb dX7_keep_13 rfl (lv_at hl 0 rfl) ?_
      refine va_get (D := D) (ci := 7) (v := .ref (a 56)) (C := RX7) (T := TX7) (N := 12) hx hb hts inX7 hown hK hP 0 rfl rfl 8 (by decide) (hts _ tw_313) (fun _ h9 => h9) rfl dX7_keep_14 ?_
      refine lv_iload_n hx hb dX7_keep_17 rfl (lv_at hl 1 rfl) ?_
      refine va_aldq hx hb hK hP 4 6 rfl rfl (by unfold vp_in; decide) dX7_keep_18 ?_
      refine lv_tr (y := .ref (a 57)) rfl ?_
      refine lv_aload_n hx hb dX7_keep_19 rfl (lv_at hl 0 rfl) ?_
      refine va_get (D := D) (ci := 7) (v := .ref (a 53)) (C := RX7) (T := TX7) (N := 12) hx hb hts inX7 hown hK hP 0 rfl rfl 7 (by decide) (hts _ tw_312) (fun _ h9 => h9) rfl dX7_keep_20 ?_
      refine rw_v (D := D) (wr := [((a 0), .inr (7, (fX7 (a 1) (a 3) (a 19) (a 35) (a 40) (nI rk) lfa (a 53) (a 56) (a 63) (a 64) (a 68)))), ((a 56), .inl (k 6, 2, .inr (.inr (.inr (.inr (a2 (a 57) (a 60))))))), ((a 60), .inr (4, (fX4 (a 61) (a 62) (nI cci1) (nI rzi1) roi1 sdi1))), (aI k (a 61) 4 wki1), (aI k (a 62) 4 (nF bri1)), (aZ k (a 63) 2 fk)]) (va_runV (As := [.ref (a 53)]) (rest := []) ⟨hx, hb, hml, hown, hts⟩ ((x_copyFrom3 l D k st lo (a 57) (a 58) (a 59) cci0 rzi0 roi0 sdi0 wki0 bri0 (a 53) (a 54) (a 55) cc rz ro sd wk br (by first | assumption | omega) (by first | assumption | omega) hbi0 hbr) H.size) (cwV 1 hts (gV tw_955 tw_956 tw_957 tw_82 tw_958) rfl rfl rfl (by decide +kernel) ⟨Nat.le_of_ble_eq_true rfl, Nat.le_of_ble_eq_true rfl⟩) (pV hS hAlo hlo hP hK (va_Dlo hD hAlo) hZ [5, 6, 7, 1, 2, 3] (by decide) rfl (ci := 4) (q := (RX4, TX4, 6)) (q0 := 0) rfl rfl) rfl rfl hl.1 rfl (lv_room (Nat.le_of_ble_eq_true rfl)) dX7_keep_23 ⟨Nat.le_of_ble_eq_true rfl, Nat.le_of_ble_eq_true rfl⟩) hS hA hP hD [5, 6, 7, 1, 2, 3] [0, 4, 8, 9, 10, 11] rfl rfl (by decide +kernel) (by decide +kernel) (fun u H locs hw_2 hP hD hS => ?_)
      obtain ⟨cc__2, rz__2, ro__2, sd__2, wk__2, br__2⟩ := u
      replace hP : va_P D classes [((a 0), .inr (7, (fX7 (a 1) (a 3) (a 19) (a 35) (a 40) (nI rk) lfa (a 53) (a 56) (a 63) (a 64) (a 68)))), ((a 56), .inl (k 6, 2, .inr (.inr (.inr (.inr (a2 (a 57) (a 60))))))), ((a 60), .inr (4, (fX4 (a 61) (a 62) (nI cci1) (nI rzi1) roi1 sdi1))), (aI k (a 61) 4 wki1), (aI k (a 62) 4 (nF bri1)), (aZ k (a 63) 2 fk), ((a 57), .inr (4, (fX4 (a 58) (a 59) (nI cc__2) (nI rz__2) ro__2 sd__2))), (aI k (a 58) 4 wk__2), (aI k (a 59) 4 (nF br__2)), ((a 53), .inr (4, (fX4 (a 54) (a 55) (nI cc) (nI rz) ro sd))), (aI k (a 54) 4 wk), (aI k (a 55) 4 (nF br))] H := hP
      replace hD : va_D A [((a 0), .inr (7, (fX7 (a 1) (a 3) (a 19) (a 35) (a 40) (nI rk) lfa (a 53) (a 56) (a 63) (a 64) (a 68)))), ((a 56), .inl (k 6, 2, .inr (.inr (.inr (.inr (a2 (a 57) (a 60))))))), ((a 60), .inr (4, (fX4 (a 61) (a 62) (nI cci1) (nI rzi1) roi1 sdi1))), (aI k (a 61) 4 wki1), (aI k (a 62) 4 (nF bri1)), (aZ k (a 63) 2 fk), ((a 57), .inr (4, (fX4 (a 58) (a 59) (nI cc__2) (nI rz__2) ro__2 sd__2))), (aI k (a 58) 4 wk__2), (aI k (a 59) 4 (nF br__2)), ((a 53), .inr (4, (fX4 (a 54) (a 55) (nI cc) (nI rz) ro sd))), (aI k (a 54) 4 wk), (aI k (a 55) 4 (nF br))] := hD
      try dsimp only at hw_2
      obtain ⟨rfl, rfl, hbq_3, rfl, rfl, hw_2⟩ := hw_2
      refine lv_aload_n hx hb dX7_keep_26 rfl (lv_at hl 0 rfl) ?_
      refine va_get (D := D) (ci := 7) (v := .ref (a 63)) (C := RX7) (T := TX7) (N := 12) hx hb hts inX7 hown hK hP 0 rfl rfl 9 (by decide) (hts _ tw_314) (fun _ h9 => h9) rfl dX7_keep_27 ?_
      refine lv_iload_n hx hb dX7_keep_30 rfl (lv_at hl 1 rfl) ?_
      refine lv_iconst (v := 1) hx hb dX7_keep_31 (by decide) ?_
      refine va_zast hx hb hK hP hD hS 5 2 rfl rfl (by unfold vp_in; decide) dX7_keep_32 (fun H locs hP hD hS => ?_)
      replace hP : va_P D classes [((a 0), .inr (7, (fX7 (a 1) (a 3) (a 19) (a 35) (a 40) (nI rk) lfa (a 53) (a 56) (a 63) (a 64) (a 68)))), ((a 56), .inl (k 6, 2, .inr (.inr (.inr (.inr (a2 (a 57) (a 60))))))), ((a 60), .inr (4, (fX4 (a 61) (a 62) (nI cci1) (nI rzi1) roi1 sdi1))), (aI k (a 61) 4 wki1), (aI k (a 62) 4 (nF bri1)), (aZ k (a 63) 2 (upd fk (Int32.toNatClampNeg 0) (vp_nar .boolean 1))), ((a 57), .inr (4, (fX4 (a 58) (a 59) (nI cc) (nI rz) ro sd))), (aI k (a 58) 4 wk__2), (aI k (a 59) 4 (nF br__2)), ((a 53), .inr (4, (fX4 (a 54) (a 55) (nI cc) (nI rz) ro sd))), (aI k (a 54) 4 wk), (aI k (a 55) 4 (nF br))] H := hP
      replace hD : va_D A [((a 0), .inr (7, (fX7 (a 1) (a 3) (a 19) (a 35) (a 40) (nI rk) lfa (a 53) (a 56) (a 63) (a 64) (a 68)))), ((a 56), .inl (k 6, 2, .inr (.inr (.inr (.inr (a2 (a 57) (a 60))))))), ((a 60), .inr (4, (fX4 (a 61) (a 62) (nI cci1) (nI rzi1) roi1 sdi1))), (aI k (a 61) 4 wki1), (aI k (a 62) 4 (nF bri1)), (aZ k (a 63) 2 (upd fk (Int32.toNatClampNeg 0) (vp_nar .boolean 1))), ((a 57), .inr (4, (fX4 (a 58) (a 59) (nI cc) (nI rz) ro sd))), (aI k (a 58) 4 wk__2), (aI k (a 59) 4 (nF br__2)), ((a 53), .inr (4, (fX4 (a 54) (a 55) (nI cc) (nI rz) ro sd))), (aI k (a 54) 4 wk), (aI k (a 55) 4 (nF br))] := hD
      replace hP : va_P D classes [((a 0), .inr (7, (fX7 (a 1) (a 3) (a 19) (a 35) (a 40) (nI rk) lfa (a 53) (a 56) (a 63) (a 64) (a 68)))), ((a 56), .inl (k 6, 2, .inr (.inr (.inr (.inr (a2 (a 57) (a 60))))))), ((a 60), .inr (4, (fX4 (a 61) (a 62) (nI cci1) (nI rzi1) roi1 sdi1))), (aI k (a 61) 4 wki1), (aI k (a 62) 4 (nF bri1)), (aZ k (a 63) 2 (upd fk 0 1)), ((a 57), .inr (4, (fX4 (a 58) (a 59) (nI cc) (nI rz) ro sd))), (aI k (a 58) 4 wk__2), (aI k (a 59) 4 (nF br__2)), ((a 53), .inr (4, (fX4 (a 54) (a 55) (nI cc) (nI rz) ro sd))), (aI k (a 54) 4 wk), (aI k (a 55) 4 (nF br))] H := hP
      replace hD : va_D A [((a 0), .inr (7, (fX7 (a 1) (a 3) (a 19) (a 35) (a 40) (nI rk) lfa (a 53) (a 56) (a 63) (a 64) (a 68)))), ((a 56), .inl (k 6, 2, .inr (.inr (.inr (.inr (a2 (a 57) (a 60))))))), ((a 60), .inr (4, (fX4 (a 61) (a 62) (nI cci1) (nI rzi1) roi1 sdi1))), (aI k (a 61) 4 wki1), (aI k (a 62) 4 (nF bri1)), (aZ k (a 63) 2 (upd fk 0 1)), ((a 57), .inr (4, (fX4 (a 58) (a 59) (nI cc) (nI rz) ro sd))), (aI k (a 58) 4 wk__2), (aI k (a 59) 4 (nF br__2)), ((a 53), .inr (4, (fX4 (a 54) (a 55) (nI cc) (nI rz) ro sd))), (aI k (a 54) 4 wk), (aI k (a 55) 4 (nF br))] := hD
      refine lv_iconst (v := 1) hx hb dX7_keep_33 (by decide) ?_
      have hP9 := hP.sub (ws' := [((a 0), .inr (7, (fX7 (a 1) (a 3) (a 19) (a 35) (a 40) (nI rk) lfa (a 53) (a 56) (a 63) (a 64) (a 68)))), ((a 53), .inr (4, (fX4 (a 54) (a 55) (nI cc) (nI rz) ro sd))), (aI k (a 54) 4 wk), (aI k (a 55) 4 (nF br)), ((a 56), .inl (k 6, 2, .inr (.inr (.inr (.inr (a2 (a 57) (a 60))))))), ((a 57), .inr (4, (fX4 (a 58) (a 59) (nI cc) (nI rz) ro sd))), (aI k (a 58) 4 wk__2), (aI k (a 59) 4 (nF br__2)), ((a 60), .inr (4, (fX4 (a 61) (a 62) (nI cci1) (nI rzi1) roi1 sdi1))), (aI k (a 61) 4 wki1), (aI k (a 62) 4 (nF bri1)), (aZ k (a 63) 2 (upd fk 0 1))]) [0, 9, 10, 11, 1, 6, 7, 8, 2, 3, 4, 5] rfl
      have hD9 := hD.sub (ws' := [((a 0), .inr (7, (fX7 (a 1) (a 3) (a 19) (a 35) (a 40) (nI rk) lfa (a 53) (a 56) (a 63) (a 64) (a 68)))), ((a 53), .inr (4, (fX4 (a 54) (a 55) (nI cc) (nI rz) ro sd))), (aI k (a 54) 4 wk), (aI k (a 55) 4 (nF br)), ((a 56), .inl (k 6, 2, .inr (.inr (.inr (.inr (a2 (a 57) (a 60))))))), ((a 57), .inr (4, (fX4 (a 58) (a 59) (nI cc) (nI rz) ro sd))), (aI k (a 58) 4 wk__2), (aI k (a 59) 4 (nF br__2)), ((a 60), .inr (4, (fX4 (a 61) (a 62) (nI cci1) (nI rzi1) roi1 sdi1))), (aI k (a 61) 4 wki1), (aI k (a 62) 4 (nF bri1)), (aZ k (a 63) 2 (upd fk 0 1))]) [0, 9, 10, 11, 1, 6, 7, 8, 2, 3, 4, 5] (by decide +kernel) rfl
      exact W.iret (v := 1) hx hb hr (fun t ht hW => ⟨⟨1, (cc, rz, ro, sd, wk__2, br__2, cci1, rzi1, roi1, sdi1, wki1, bri1, (upd fk 0 1)), rfl, ⟨by omega, by omega, hbq_3, by omega, by omega, hbi1, ⟨fun _ => ⟨by rfl, rfl, rfl⟩, fun h => absurd rfl h⟩, ⟨fun h => absurd h (by decide), fun _ => ⟨by rfl, rfl, rfl⟩⟩, fun _ => rfl, fun h => absurd hw_1 h, ⟨fun _ => ⟨rfl, rfl, hw_2⟩, fun h => absurd rfl h⟩, ⟨fun h => absurd h (by decide), fun _ => ⟨rfl, rfl, fun _ _ => rfl⟩⟩⟩, by rw [ht]; exact hP9, hD9⟩, hS.F ht⟩) hS.2.2 dX7_keep_34
    · refine lv_aload_n hx hb dX7_keep_13 rfl (lv_at hl 0 rfl) ?_
      refine va_get (D := D) (ci := 7) (v := .ref (a 56)) (C := RX7) (T := TX7) (N := 12) hx hb hts inX7 hown hK hP 0 rfl rfl 8 (by decide) (hts _ tw_313) (fun _ h9 => h9) rfl dX7_keep_14 ?_
      refine lv_iload_n hx hb dX7_keep_17 rfl (lv_at hl 1 rfl) ?_
      refine va_aldq hx hb hK hP 4 6 rfl rfl (by unfold vp_in; decide) dX7_keep_18 ?_
      refine lv_tr (y := .ref (a 60)) rfl ?_
      refine lv_aload_n hx hb dX7_keep_19 rfl (lv_at hl 0 rfl) ?_
      refine va_get (D := D) (ci := 7) (v := .ref (a 53)) (C := RX7) (T := TX7) (N := 12) hx hb hts inX7 hown hK hP 0 rfl rfl 7 (by decide) (hts _ tw_312) (fun _ h9 => h9) rfl dX7_keep_20 ?_
      refine rw_v (D := D) (wr := [((a 0), .inr (7, (fX7 (a 1) (a 3) (a 19) (a 35) (a 40) (nI rk) lfa (a 53) (a 56) (a 63) (a 64) (a 68)))), ((a 56), .inl (k 6, 2, .inr (.inr (.inr (.inr (a2 (a 57) (a 60))))))), ((a 57), .inr (4, (fX4 (a 58) (a 59) (nI cci0) (nI rzi0) roi0 sdi0))), (aI k (a 58) 4 wki0), (aI k (a 59) 4 (nF bri0)), (aZ k (a 63) 2 fk)]) (va_runV (As := [.ref (a 53)]) (rest := []) ⟨hx, hb, hml, hown, hts⟩ ((x_copyFrom3 l D k st lo (a 60) (a 61) (a 62) cci1 rzi1 roi1 sdi1 wki1 bri1 (a 53) (a 54) (a 55) cc rz ro sd wk br (by first | assumption | omega) (by first | assumption | omega) hbi1 hbr) H.size) (cwV 1 hts (gV tw_955 tw_956 tw_957 tw_82 tw_958) rfl rfl rfl (by decide +kernel) ⟨Nat.le_of_ble_eq_true rfl, Nat.le_of_ble_eq_true rfl⟩) (pV hS hAlo hlo hP hK (va_Dlo hD hAlo) hZ [8, 9, 10, 1, 2, 3] (by decide) rfl (ci := 4) (q := (RX4, TX4, 6)) (q0 := 0) rfl rfl) rfl rfl hl.1 rfl (lv_room (Nat.le_of_ble_eq_true rfl)) dX7_keep_23 ⟨Nat.le_of_ble_eq_true rfl, Nat.le_of_ble_eq_true rfl⟩) hS hA hP hD [8, 9, 10, 1, 2, 3] [0, 4, 5, 6, 7, 11] rfl rfl (by decide +kernel) (by decide +kernel) (fun u H locs hw_5 hP hD hS => ?_)
      obtain ⟨cc__5, rz__5, ro__5, sd__5, wk__5, br__5⟩ := u
      replace hP : va_P D classes [((a 0), .inr (7, (fX7 (a 1) (a 3) (a 19) (a 35) (a 40) (nI rk) lfa (a 53) (a 56) (a 63) (a 64) (a 68)))), ((a 56), .inl (k 6, 2, .inr (.inr (.inr (.inr (a2 (a 57) (a 60))))))), ((a 57), .inr (4, (fX4 (a 58) (a 59) (nI cci0) (nI rzi0) roi0 sdi0))), (aI k (a 58) 4 wki0), (aI k (a 59) 4 (nF bri0)), (aZ k (a 63) 2 fk), ((a 60), .inr (4, (fX4 (a 61) (a 62) (nI cc__5) (nI rz__5) ro__5 sd__5))), (aI k (a 61) 4 wk__5), (aI k (a 62) 4 (nF br__5)), ((a 53), .inr (4, (fX4 (a 54) (a 55) (nI cc) (nI rz) ro sd))), (aI k (a 54) 4 wk), (aI k (a 55) 4 (nF br))] H := hP
      replace hD : va_D A [((a 0), .inr (7, (fX7 (a 1) (a 3) (a 19) (a 35) (a 40) (nI rk) lfa (a 53) (a 56) (a 63) (a 64) (a 68)))), ((a 56), .inl (k 6, 2, .inr (.inr (.inr (.inr (a2 (a 57) (a 60))))))), ((a 57), .inr (4, (fX4 (a 58) (a 59) (nI cci0) (nI rzi0) roi0 sdi0))), (aI k (a 58) 4 wki0), (aI k (a 59) 4 (nF bri0)), (aZ k (a 63) 2 fk), ((a 60), .inr (4, (fX4 (a 61) (a 62) (nI cc__5) (nI rz__5) ro__5 sd__5))), (aI k (a 61) 4 wk__5), (aI k (a 62) 4 (nF br__5)), ((a 53), .inr (4, (fX4 (a 54) (a 55) (nI cc) (nI rz) ro sd))), (aI k (a 54) 4 wk), (aI k (a 55) 4 (nF br))] := hD
      try dsimp only at hw_5
      obtain ⟨rfl, rfl, hbq_6, rfl, rfl, hw_5⟩ := hw_5
      refine lv_aload_n hx hb dX7_keep_26 rfl (lv_at hl 0 rfl) ?_
      refine va_get (D := D) (ci := 7) (v := .ref (a 63)) (C := RX7) (T := TX7) (N := 12) hx hb hts inX7 hown hK hP 0 rfl rfl 9 (by decide) (hts _ tw_314) (fun _ h9 => h9) rfl dX7_keep_27 ?_
      refine lv_iload_n hx hb dX7_keep_30 rfl (lv_at hl 1 rfl) ?_
      refine lv_iconst (v := 1) hx hb dX7_keep_31 (by decide) ?_
      refine va_zast hx hb hK hP hD hS 5 2 rfl rfl (by unfold vp_in; decide) dX7_keep_32 (fun H locs hP hD hS => ?_)
      replace hP : va_P D classes [((a 0), .inr (7, (fX7 (a 1) (a 3) (a 19) (a 35) (a 40) (nI rk) lfa (a 53) (a 56) (a 63) (a 64) (a 68)))), ((a 56), .inl (k 6, 2, .inr (.inr (.inr (.inr (a2 (a 57) (a 60))))))), ((a 57), .inr (4, (fX4 (a 58) (a 59) (nI cci0) (nI rzi0) roi0 sdi0))), (aI k (a 58) 4 wki0), (aI k (a 59) 4 (nF bri0)), (aZ k (a 63) 2 (upd fk (Int32.toNatClampNeg 1) (vp_nar .boolean 1))), ((a 60), .inr (4, (fX4 (a 61) (a 62) (nI cc) (nI rz) ro sd))), (aI k (a 61) 4 wk__5), (aI k (a 62) 4 (nF br__5)), ((a 53), .inr (4, (fX4 (a 54) (a 55) (nI cc) (nI rz) ro sd))), (aI k (a 54) 4 wk), (aI k (a 55) 4 (nF br))] H := hP
      replace hD : va_D A [((a 0), .inr (7, (fX7 (a 1) (a 3) (a 19) (a 35) (a 40) (nI rk) lfa (a 53) (a 56) (a 63) (a 64) (a 68)))), ((a 56), .inl (k 6, 2, .inr (.inr (.inr (.inr (a2 (a 57) (a 60))))))), ((a 57), .inr (4, (fX4 (a 58) (a 59) (nI cci0) (nI rzi0) roi0 sdi0))), (aI k (a 58) 4 wki0), (aI k (a 59) 4 (nF bri0)), (aZ k (a 63) 2 (upd fk (Int32.toNatClampNeg 1) (vp_nar .boolean 1))), ((a 60), .inr (4, (fX4 (a 61) (a 62) (nI cc) (nI rz) ro sd))), (aI k (a 61) 4 wk__5), (aI k (a 62) 4 (nF br__5)), ((a 53), .inr (4, (fX4 (a 54) (a 55) (nI cc) (nI rz) ro sd))), (aI k (a 54) 4 wk), (aI k (a 55) 4 (nF br))] := hD
      replace hP : va_P D classes [((a 0), .inr (7, (fX7 (a 1) (a 3) (a 19) (a 35) (a 40) (nI rk) lfa (a 53) (a 56) (a 63) (a 64) (a 68)))), ((a 56), .inl (k 6, 2, .inr (.inr (.inr (.inr (a2 (a 57) (a 60))))))), ((a 57), .inr (4, (fX4 (a 58) (a 59) (nI cci0) (nI rzi0) roi0 sdi0))), (aI k (a 58) 4 wki0), (aI k (a 59) 4 (nF bri0)), (aZ k (a 63) 2 (upd fk 1 1)), ((a 60), .inr (4, (fX4 (a 61) (a 62) (nI cc) (nI rz) ro sd))), (aI k (a 61) 4 wk__5), (aI k (a 62) 4 (nF br__5)), ((a 53), .inr (4, (fX4 (a 54) (a 55) (nI cc) (nI rz) ro sd))), (aI k (a 54) 4 wk), (aI k (a 55) 4 (nF br))] H := hP
      replace hD : va_D A [((a 0), .inr (7, (fX7 (a 1) (a 3) (a 19) (a 35) (a 40) (nI rk) lfa (a 53) (a 56) (a 63) (a 64) (a 68)))), ((a 56), .inl (k 6, 2, .inr (.inr (.inr (.inr (a2 (a 57) (a 60))))))), ((a 57), .inr (4, (fX4 (a 58) (a 59) (nI cci0) (nI rzi0) roi0 sdi0))), (aI k (a 58) 4 wki0), (aI k (a 59) 4 (nF bri0)), (aZ k (a 63) 2 (upd fk 1 1)), ((a 60), .inr (4, (fX4 (a 61) (a 62) (nI cc) (nI rz) ro sd))), (aI k (a 61) 4 wk__5), (aI k (a 62) 4 (nF br__5)), ((a 53), .inr (4, (fX4 (a 54) (a 55) (nI cc) (nI rz) ro sd))), (aI k (a 54) 4 wk), (aI k (a 55) 4 (nF br))] := hD
      refine lv_iconst (v := 1) hx hb dX7_keep_33 (by decide) ?_
      have hP9 := hP.sub (ws' := [((a 0), .inr (7, (fX7 (a 1) (a 3) (a 19) (a 35) (a 40) (nI rk) lfa (a 53) (a 56) (a 63) (a 64) (a 68)))), ((a 53), .inr (4, (fX4 (a 54) (a 55) (nI cc) (nI rz) ro sd))), (aI k (a 54) 4 wk), (aI k (a 55) 4 (nF br)), ((a 56), .inl (k 6, 2, .inr (.inr (.inr (.inr (a2 (a 57) (a 60))))))), ((a 57), .inr (4, (fX4 (a 58) (a 59) (nI cci0) (nI rzi0) roi0 sdi0))), (aI k (a 58) 4 wki0), (aI k (a 59) 4 (nF bri0)), ((a 60), .inr (4, (fX4 (a 61) (a 62) (nI cc) (nI rz) ro sd))), (aI k (a 61) 4 wk__5), (aI k (a 62) 4 (nF br__5)), (aZ k (a 63) 2 (upd fk 1 1))]) [0, 9, 10, 11, 1, 2, 3, 4, 6, 7, 8, 5] rfl
      have hD9 := hD.sub (ws' := [((a 0), .inr (7, (fX7 (a 1) (a 3) (a 19) (a 35) (a 40) (nI rk) lfa (a 53) (a 56) (a 63) (a 64) (a 68)))), ((a 53), .inr (4, (fX4 (a 54) (a 55) (nI cc) (nI rz) ro sd))), (aI k (a 54) 4 wk), (aI k (a 55) 4 (nF br)), ((a 56), .inl (k 6, 2, .inr (.inr (.inr (.inr (a2 (a 57) (a 60))))))), ((a 57), .inr (4, (fX4 (a 58) (a 59) (nI cci0) (nI rzi0) roi0 sdi0))), (aI k (a 58) 4 wki0), (aI k (a 59) 4 (nF bri0)), ((a 60), .inr (4, (fX4 (a 61) (a 62) (nI cc) (nI rz) ro sd))), (aI k (a 61) 4 wk__5), (aI k (a 62) 4 (nF br__5)), (aZ k (a 63) 2 (upd fk 1 1))]) [0, 9, 10, 11, 1, 2, 3, 4, 6, 7, 8, 5] (by decide +kernel) rfl
      exact W.iret (v := 1) hx hb hr (fun t ht hW => ⟨⟨1, (cci0, rzi0, roi0, sdi0, wki0, bri0, cc, rz, ro, sd, wk__5, br__5, (upd fk 1 1)), rfl, ⟨by omega, by omega, hbi0, by omega, by omega, hbq_6, ⟨fun h => absurd h (by decide), fun _ => ⟨by rfl, rfl, rfl⟩⟩, ⟨fun _ => ⟨by rfl, rfl, rfl⟩, fun h => absurd rfl h⟩, fun _ => rfl, fun h => absurd hw_1 h, ⟨fun h => absurd h (by decide), fun _ => ⟨rfl, rfl, fun _ _ => rfl⟩⟩, ⟨fun _ => ⟨rfl, rfl, hw_5⟩, fun h => absurd rfl h⟩⟩, by rw [ht]; exact hP9, hD9⟩, hS.F ht⟩) hS.2.2 dX7_keep_34
  · refine lv_if_ne (tgt := 13) hx hb dX7_keep_6 (by decide) (fun h => absurd (by decide) h) (fun _ => ?_)
    refine lv_sipush (v := (-1001)) hx hb dX7_keep_9 (by decide) ?_
    have hP9 := hP.sub (ws' := [((a 0), .inr (7, (fX7 (a 1) (a 3) (a 19) (a 35) (a 40) (nI rk) lfa (a 53) (a 56) (a 63) (a 64) (a 68)))), ((a 53), .inr (4, (fX4 (a 54) (a 55) (nI cc) (nI rz) ro sd))), (aI k (a 54) 4 wk), (aI k (a 55) 4 (nF br)), ((a 56), .inl (k 6, 2, .inr (.inr (.inr (.inr (a2 (a 57) (a 60))))))), ((a 57), .inr (4, (fX4 (a 58) (a 59) (nI cci0) (nI rzi0) roi0 sdi0))), (aI k (a 58) 4 wki0), (aI k (a 59) 4 (nF bri0)), ((a 60), .inr (4, (fX4 (a 61) (a 62) (nI cci1) (nI rzi1) roi1 sdi1))), (aI k (a 61) 4 wki1), (aI k (a 62) 4 (nF bri1)), (aZ k (a 63) 2 fk)]) [0, 1, 2, 3, 4, 5, 6, 7, 8, 9, 10, 11] rfl
    have hD9 := hD.sub (ws' := [((a 0), .inr (7, (fX7 (a 1) (a 3) (a 19) (a 35) (a 40) (nI rk) lfa (a 53) (a 56) (a 63) (a 64) (a 68)))), ((a 53), .inr (4, (fX4 (a 54) (a 55) (nI cc) (nI rz) ro sd))), (aI k (a 54) 4 wk), (aI k (a 55) 4 (nF br)), ((a 56), .inl (k 6, 2, .inr (.inr (.inr (.inr (a2 (a 57) (a 60))))))), ((a 57), .inr (4, (fX4 (a 58) (a 59) (nI cci0) (nI rzi0) roi0 sdi0))), (aI k (a 58) 4 wki0), (aI k (a 59) 4 (nF bri0)), ((a 60), .inr (4, (fX4 (a 61) (a 62) (nI cci1) (nI rzi1) roi1 sdi1))), (aI k (a 61) 4 wki1), (aI k (a 62) 4 (nF bri1)), (aZ k (a 63) 2 fk)]) [0, 1, 2, 3, 4, 5, 6, 7, 8, 9, 10, 11] (by decide +kernel) rfl
    exact W.iret (v := (-1001)) hx hb hr (fun t ht hW => ⟨⟨(-1001), (cci0, rzi0, roi0, sdi0, wki0, bri0, cci1, rzi1, roi1, sdi1, wki1, bri1, fk), rfl, ⟨by omega, by omega, hbi0, by omega, by omega, hbi1, ⟨fun h => absurd h (no_in hw_1).1, fun _ => ⟨rfl, rfl, rfl⟩⟩, ⟨fun h => absurd h (no_in hw_1).2, fun _ => ⟨rfl, rfl, rfl⟩⟩, fun h => absurd h hw_1, fun _ => rfl, ⟨fun h => absurd h (no_in hw_1).1, fun _ => ⟨rfl, rfl, fun _ _ => rfl⟩⟩, ⟨fun h => absurd h (no_in hw_1).2, fun _ => ⟨rfl, rfl, fun _ _ => rfl⟩⟩⟩, by rw [ht]; exact hP9, hD9⟩, hS.F ht⟩) hS.2.2 dX7_keep_12


set_option maxHeartbeats 4000000 in
set_option maxRecDepth 100000 in
theorem x_goBack3 (l : Launch) (D : va_G) (k : Nat → ClassId) (st : Nat → Nat) (lo : Nat) (a : Nat → Nat) (rk : Nat) (lfa : Int32) (cc : Nat) (rz : Nat) (ro : Int32) (sd : Int32) (wk : Nat → Int32) (br : Nat → Nat) (cci0 : Nat) (rzi0 : Nat) (roi0 : Int32) (sdi0 : Int32) (wki0 : Nat → Int32) (bri0 : Nat → Nat) (cci1 : Nat) (rzi1 : Nat) (roi1 : Int32) (sdi1 : Int32) (wki1 : Nat → Int32) (bri1 : Nat → Nat) (fk : Nat → Int32) (pz : Int32) (hcc : cc ≤ 4) (hrz : rz ≤ 24) (hbr : ∀ j, br j ≤ 24) (hcci0 : cci0 ≤ 4) (hrzi0 : rzi0 ≤ 24) (hbi0 : ∀ j, bri0 j ≤ 24) (hcci1 : cci1 ≤ 4) (hrzi1 : rzi1 ≤ 24) (hbi1 : ∀ j, bri1 j ≤ 24) : CWi l D k st lo yX7_goBack cX7_goBack 2 (some .int) ({ frames := 2, cells := 0, slots := 0, locals := 81 }) 0 0 [.ref (a 0), .int pz] [((a 0), .inr (7, (fX7 (a 1) (a 3) (a 19) (a 35) (a 40) (nI rk) lfa (a 53) (a 56) (a 63) (a 64) (a 68)))), ((a 53), .inr (4, (fX4 (a 54) (a 55) (nI cc) (nI rz) ro sd))), (aI k (a 54) 4 wk), (aI k (a 55) 4 (nF br)), ((a 56), .inl (k 6, 2, .inr (.inr (.inr (.inr (a2 (a 57) (a 60))))))), ((a 57), .inr (4, (fX4 (a 58) (a 59) (nI cci0) (nI rzi0) roi0 sdi0))), (aI k (a 58) 4 wki0), (aI k (a 59) 4 (nF bri0)), ((a 60), .inr (4, (fX4 (a 61) (a 62) (nI cci1) (nI rzi1) roi1 sdi1))), (aI k (a 61) 4 wki1), (aI k (a 62) 4 (nF bri1)), (aZ k (a 63) 2 fk)] (fun (r : Int32) (u : Nat × Nat × Int32 × Int32 × (Nat → Int32) × (Nat → Nat)) => match u with | (cc_, rz_, ro_, sd_, wk_, br_) => gbP pz (fk 0) (fk 1) rzi0 rzi1 rz r rz_ ∧ gbP pz (fk 0) (fk 1) cci0 cci1 cc r cc_ ∧ cc_ ≤ 4 ∧ rz_ ≤ 24 ∧ (∀ j, br_ j ≤ 24) ∧ gbX pz (fk 0) (fk 1) (roi0, sdi0, wki0) (roi1, sdi1, wki1) (ro, sd, wk) (ro_, sd_, wk_)) (fun (u : Nat × Nat × Int32 × Int32 × (Nat → Int32) × (Nat → Nat)) => match u with | (cc_, rz_, ro_, sd_, wk_, br_) => [((a 0), .inr (7, (fX7 (a 1) (a 3) (a 19) (a 35) (a 40) (nI rk) lfa (a 53) (a 56) (a 63) (a 64) (a 68)))), ((a 53), .inr (4, (fX4 (a 54) (a 55) (nI cc_) (nI rz_) ro_ sd_))), (aI k (a 54) 4 wk_), (aI k (a 55) 4 (nF br_)), ((a 56), .inl (k 6, 2, .inr (.inr (.inr (.inr (a2 (a 57) (a 60))))))), ((a 57), .inr (4, (fX4 (a 58) (a 59) (nI cci0) (nI rzi0) roi0 sdi0))), (aI k (a 58) 4 wki0), (aI k (a 59) 4 (nF bri0)), ((a 60), .inr (4, (fX4 (a 61) (a 62) (nI cci1) (nI rzi1) roi1 sdi1))), (aI k (a 61) 4 wki1), (aI k (a 62) 4 (nF bri1)), (aZ k (a 63) 2 fk)]) := by
  intro sz
  refine Met.ofW (cc := cX7_goBack) (maxL := 2) (ret := (some .int)) (by decide) rfl ?_
  intro p e s m args below meth c s₁ B hml hv
  obtain ⟨rfl, hsz, hlo, hP, hK, hDL, hZ⟩ := hv
  have hx := B.exec
  have hb := B.bytes
  have hr := B.returns
  have hts := WS_ts B.pre
  have hown : s.vm.findClass RX7 = some m.cls := findClass_of_methodNamed B.named
  have hlocks := B.notSynchronized
  subst hsz
  have hD := hDL.self (sz := s.heap.size)
  have hAlo := A_lo hDL hlo
  generalize hAe : va_A [((a 0), .inr (7, (fX7 (a 1) (a 3) (a 19) (a 35) (a 40) (nI rk) lfa (a 53) (a 56) (a 63) (a 64) (a 68)))), ((a 53), .inr (4, (fX4 (a 54) (a 55) (nI cc) (nI rz) ro sd))), (aI k (a 54) 4 wk), (aI k (a 55) 4 (nF br)), ((a 56), .inl (k 6, 2, .inr (.inr (.inr (.inr (a2 (a 57) (a 60))))))), ((a 57), .inr (4, (fX4 (a 58) (a 59) (nI cci0) (nI rzi0) roi0 sdi0))), (aI k (a 58) 4 wki0), (aI k (a 59) 4 (nF bri0)), ((a 60), .inr (4, (fX4 (a 61) (a 62) (nI cci1) (nI rzi1) roi1 sdi1))), (aI k (a 61) 4 wki1), (aI k (a 62) 4 (nF bri1)), (aZ k (a 63) 2 fk)] s.heap.size = A at hD hAlo ⊢
  have hA : ∀ q : Nat, s.heap.size ≤ q → A q := fun q h => by rw [← hAe]; exact Or.inr h
  have hS : va_S A s.heap s.heap [] := va_S.rf
  have hl := lv_entry ([.ref (a 0), .int pz]) (n := 2) (Nat.le_of_ble_eq_true rfl)
  rw [lg_entry_eq]
  generalize (lg_sl ([.ref (a 0), .int pz]) ++ List.replicate (2 - (lg_sl ([.ref (a 0), .int pz])).length) Slot.unset).toArray = ls at hl ⊢
  have hl : lv_has ls 2 [(0, .ref (a 0)), (1, .int pz)] := hl
  refine lv_iload_n hx hb dX7_goBack_0 rfl (lv_at hl 1 rfl) ?_
  refine lv_iconst (v := 0) hx hb dX7_goBack_1 (by decide) ?_
  refine lv_iconst (v := 1) hx hb dX7_goBack_2 (by decide) ?_
  refine ro_i (D := D) (va_runS (As := [.int pz, .int 0, .int 1]) (rest := []) ⟨hx, hb, hml, hown, hts⟩ ((k_isIn l D k st lo pz 0 1) s.heap.size) (va_cwS 3 hts (gS tw_593 tw_594 tw_79 tw_595) rfl rfl rfl (by decide +kernel) ⟨Nat.le_of_ble_eq_true rfl, Nat.le_of_ble_eq_true rfl⟩) (pS hS hAlo hlo hP hK (va_Dlo hD hAlo) hZ [] (by decide) rfl) rfl rfl hl.1 rfl (lv_room (Nat.le_of_ble_eq_true rfl)) dX7_goBack_3 ⟨Nat.le_of_ble_eq_true rfl, Nat.le_of_ble_eq_true rfl⟩) hS hA hP (fun r_1 H locs hw_1 hP hS => ?_)
  try dsimp only at hw_1
  rcases hw_1 with ⟨rfl, hw_1⟩ | ⟨rfl, hw_1⟩
  · refine lv_if_ne (tgt := 13) hx hb dX7_goBack_6 (by decide) (fun _ => ?_) (fun h => absurd h (by decide))
    rcases spl2 hw_1 with rfl | rfl
    · refine lv_aload_n hx hb dX7_goBack_13 rfl (lv_at hl 0 rfl) ?_
      refine va_get (D := D) (ci := 7) (v := .ref (a 63)) (C := RX7) (T := TX7) (N := 12) hx hb hts inX7 hown hK hP 0 rfl rfl 9 (by decide) (hts _ tw_314) (fun _ h9 => h9) rfl dX7_goBack_14 ?_
      refine lv_iload_n hx hb dX7_goBack_17 rfl (lv_at hl 1 rfl) ?_
      refine va_zald hx hb hK hP 11 2 rfl rfl (by unfold vp_in; decide) dX7_goBack_18 ?_
      refine lv_ti (y := (fk 0)) (by rfl) ?_
      refine lv_if_ne (tgt := 26) hx hb dX7_goBack_19 (by decide) (fun c_2 => ?_) (fun c_2 => ?_)
      · refine lv_aload_n hx hb dX7_goBack_26 rfl (lv_at hl 0 rfl) ?_
        refine va_get (D := D) (ci := 7) (v := .ref (a 53)) (C := RX7) (T := TX7) (N := 12) hx hb hts inX7 hown hK hP 0 rfl rfl 7 (by decide) (hts _ tw_312) (fun _ h9 => h9) rfl dX7_goBack_27 ?_
        refine lv_aload_n hx hb dX7_goBack_30 rfl (lv_at hl 0 rfl) ?_
        refine va_get (D := D) (ci := 7) (v := .ref (a 56)) (C := RX7) (T := TX7) (N := 12) hx hb hts inX7 hown hK hP 0 rfl rfl 8 (by decide) (hts _ tw_313) (fun _ h9 => h9) rfl dX7_goBack_31 ?_
        refine lv_iload_n hx hb dX7_goBack_34 rfl (lv_at hl 1 rfl) ?_
        refine va_aldq hx hb hK hP 4 6 rfl rfl (by unfold vp_in; decide) dX7_goBack_35 ?_
        refine lv_tr (y := .ref (a 57)) rfl ?_
        refine rw_v (D := D) (wr := [((a 0), .inr (7, (fX7 (a 1) (a 3) (a 19) (a 35) (a 40) (nI rk) lfa (a 53) (a 56) (a 63) (a 64) (a 68)))), ((a 56), .inl (k 6, 2, .inr (.inr (.inr (.inr (a2 (a 57) (a 60))))))), ((a 60), .inr (4, (fX4 (a 61) (a 62) (nI cci1) (nI rzi1) roi1 sdi1))), (aI k (a 61) 4 wki1), (aI k (a 62) 4 (nF bri1)), (aZ k (a 63) 2 fk)]) (va_runV (As := [.ref (a 57)]) (rest := []) ⟨hx, hb, hml, hown, hts⟩ ((x_copyFrom3 l D k st lo (a 53) (a 54) (a 55) cc rz ro sd wk br (a 57) (a 58) (a 59) cci0 rzi0 roi0 sdi0 wki0 bri0 (by first | assumption | omega) (by first | assumption | omega) hbr hbi0) H.size) (cwV 1 hts (gV tw_955 tw_956 tw_957 tw_82 tw_958) rfl rfl rfl (by decide +kernel) ⟨Nat.le_of_ble_eq_true rfl, Nat.le_of_ble_eq_true rfl⟩) (pV hS hAlo hlo hP hK (va_Dlo hD hAlo) hZ [1, 2, 3, 5, 6, 7] (by decide) rfl (ci := 4) (q := (RX4, TX4, 6)) (q0 := 0) rfl rfl) rfl rfl hl.1 rfl (lv_room (Nat.le_of_ble_eq_true rfl)) dX7_goBack_36 ⟨Nat.le_of_ble_eq_true rfl, Nat.le_of_ble_eq_true rfl⟩) hS hA hP hD [1, 2, 3, 5, 6, 7] [0, 4, 8, 9, 10, 11] rfl rfl (by decide +kernel) (by decide +kernel) (fun u H locs hw_3 hP hD hS => ?_)
        obtain ⟨cc__3, rz__3, ro__3, sd__3, wk__3, br__3⟩ := u
        replace hP : va_P D classes [((a 0), .inr (7, (fX7 (a 1) (a 3) (a 19) (a 35) (a 40) (nI rk) lfa (a 53) (a 56) (a 63) (a 64) (a 68)))), ((a 56), .inl (k 6, 2, .inr (.inr (.inr (.inr (a2 (a 57) (a 60))))))), ((a 60), .inr (4, (fX4 (a 61) (a 62) (nI cci1) (nI rzi1) roi1 sdi1))), (aI k (a 61) 4 wki1), (aI k (a 62) 4 (nF bri1)), (aZ k (a 63) 2 fk), ((a 53), .inr (4, (fX4 (a 54) (a 55) (nI cc__3) (nI rz__3) ro__3 sd__3))), (aI k (a 54) 4 wk__3), (aI k (a 55) 4 (nF br__3)), ((a 57), .inr (4, (fX4 (a 58) (a 59) (nI cci0) (nI rzi0) roi0 sdi0))), (aI k (a 58) 4 wki0), (aI k (a 59) 4 (nF bri0))] H := hP
        replace hD : va_D A [((a 0), .inr (7, (fX7 (a 1) (a 3) (a 19) (a 35) (a 40) (nI rk) lfa (a 53) (a 56) (a 63) (a 64) (a 68)))), ((a 56), .inl (k 6, 2, .inr (.inr (.inr (.inr (a2 (a 57) (a 60))))))), ((a 60), .inr (4, (fX4 (a 61) (a 62) (nI cci1) (nI rzi1) roi1 sdi1))), (aI k (a 61) 4 wki1), (aI k (a 62) 4 (nF bri1)), (aZ k (a 63) 2 fk), ((a 53), .inr (4, (fX4 (a 54) (a 55) (nI cc__3) (nI rz__3) ro__3 sd__3))), (aI k (a 54) 4 wk__3), (aI k (a 55) 4 (nF br__3)), ((a 57), .inr (4, (fX4 (a 58) (a 59) (nI cci0) (nI rzi0) roi0 sdi0))), (aI k (a 58) 4 wki0), (aI k (a 59) 4 (nF bri0))] := hD
        try dsimp only at hw_3
        obtain ⟨rfl, rfl, hbq_4, rfl, rfl, hw_3⟩ := hw_3
        refine lv_iconst (v := 1) hx hb dX7_goBack_39 (by decide) ?_
        have hP9 := hP.sub (ws' := [((a 0), .inr (7, (fX7 (a 1) (a 3) (a 19) (a 35) (a 40) (nI rk) lfa (a 53) (a 56) (a 63) (a 64) (a 68)))), ((a 53), .inr (4, (fX4 (a 54) (a 55) (nI cci0) (nI rzi0) roi0 sdi0))), (aI k (a 54) 4 wk__3), (aI k (a 55) 4 (nF br__3)), ((a 56), .inl (k 6, 2, .inr (.inr (.inr (.inr (a2 (a 57) (a 60))))))), ((a 57), .inr (4, (fX4 (a 58) (a 59) (nI cci0) (nI rzi0) roi0 sdi0))), (aI k (a 58) 4 wki0), (aI k (a 59) 4 (nF bri0)), ((a 60), .inr (4, (fX4 (a 61) (a 62) (nI cci1) (nI rzi1) roi1 sdi1))), (aI k (a 61) 4 wki1), (aI k (a 62) 4 (nF bri1)), (aZ k (a 63) 2 fk)]) [0, 6, 7, 8, 1, 9, 10, 11, 2, 3, 4, 5] rfl
        have hD9 := hD.sub (ws' := [((a 0), .inr (7, (fX7 (a 1) (a 3) (a 19) (a 35) (a 40) (nI rk) lfa (a 53) (a 56) (a 63) (a 64) (a 68)))), ((a 53), .inr (4, (fX4 (a 54) (a 55) (nI cci0) (nI rzi0) roi0 sdi0))), (aI k (a 54) 4 wk__3), (aI k (a 55) 4 (nF br__3)), ((a 56), .inl (k 6, 2, .inr (.inr (.inr (.inr (a2 (a 57) (a 60))))))), ((a 57), .inr (4, (fX4 (a 58) (a 59) (nI cci0) (nI rzi0) roi0 sdi0))), (aI k (a 58) 4 wki0), (aI k (a 59) 4 (nF bri0)), ((a 60), .inr (4, (fX4 (a 61) (a 62) (nI cci1) (nI rzi1) roi1 sdi1))), (aI k (a 61) 4 wki1), (aI k (a 62) 4 (nF bri1)), (aZ k (a 63) 2 fk)]) [0, 6, 7, 8, 1, 9, 10, 11, 2, 3, 4, 5] (by decide +kernel) rfl
        exact W.iret (v := 1) hx hb hr (fun t ht hW => ⟨⟨1, (cci0, rzi0, roi0, sdi0, wk__3, br__3), rfl, ⟨gb_k0 c_2 rfl, gb_k0 c_2 rfl, by omega, by omega, hbq_4, gx_k0 c_2 ⟨rfl, rfl, hw_3⟩⟩, by rw [ht]; exact hP9, hD9⟩, hS.F ht⟩) hS.2.2 dX7_goBack_40
      · refine lv_sipush (v := (-1003)) hx hb dX7_goBack_22 (by decide) ?_
        have hP9 := hP.sub (ws' := [((a 0), .inr (7, (fX7 (a 1) (a 3) (a 19) (a 35) (a 40) (nI rk) lfa (a 53) (a 56) (a 63) (a 64) (a 68)))), ((a 53), .inr (4, (fX4 (a 54) (a 55) (nI cc) (nI rz) ro sd))), (aI k (a 54) 4 wk), (aI k (a 55) 4 (nF br)), ((a 56), .inl (k 6, 2, .inr (.inr (.inr (.inr (a2 (a 57) (a 60))))))), ((a 57), .inr (4, (fX4 (a 58) (a 59) (nI cci0) (nI rzi0) roi0 sdi0))), (aI k (a 58) 4 wki0), (aI k (a 59) 4 (nF bri0)), ((a 60), .inr (4, (fX4 (a 61) (a 62) (nI cci1) (nI rzi1) roi1 sdi1))), (aI k (a 61) 4 wki1), (aI k (a 62) 4 (nF bri1)), (aZ k (a 63) 2 fk)]) [0, 1, 2, 3, 4, 5, 6, 7, 8, 9, 10, 11] rfl
        have hD9 := hD.sub (ws' := [((a 0), .inr (7, (fX7 (a 1) (a 3) (a 19) (a 35) (a 40) (nI rk) lfa (a 53) (a 56) (a 63) (a 64) (a 68)))), ((a 53), .inr (4, (fX4 (a 54) (a 55) (nI cc) (nI rz) ro sd))), (aI k (a 54) 4 wk), (aI k (a 55) 4 (nF br)), ((a 56), .inl (k 6, 2, .inr (.inr (.inr (.inr (a2 (a 57) (a 60))))))), ((a 57), .inr (4, (fX4 (a 58) (a 59) (nI cci0) (nI rzi0) roi0 sdi0))), (aI k (a 58) 4 wki0), (aI k (a 59) 4 (nF bri0)), ((a 60), .inr (4, (fX4 (a 61) (a 62) (nI cci1) (nI rzi1) roi1 sdi1))), (aI k (a 61) 4 wki1), (aI k (a 62) 4 (nF bri1)), (aZ k (a 63) 2 fk)]) [0, 1, 2, 3, 4, 5, 6, 7, 8, 9, 10, 11] (by decide +kernel) rfl
        exact W.iret (v := (-1003)) hx hb hr (fun t ht hW => ⟨⟨(-1003), (cc, rz, ro, sd, wk, br), rfl, ⟨gb_n0 c_2, gb_n0 c_2, by omega, by omega, hbr, gx_n0 c_2⟩, by rw [ht]; exact hP9, hD9⟩, hS.F ht⟩) hS.2.2 dX7_goBack_25
    · refine lv_aload_n hx hb dX7_goBack_13 rfl (lv_at hl 0 rfl) ?_
      refine va_get (D := D) (ci := 7) (v := .ref (a 63)) (C := RX7) (T := TX7) (N := 12) hx hb hts inX7 hown hK hP 0 rfl rfl 9 (by decide) (hts _ tw_314) (fun _ h9 => h9) rfl dX7_goBack_14 ?_
      refine lv_iload_n hx hb dX7_goBack_17 rfl (lv_at hl 1 rfl) ?_
      refine va_zald hx hb hK hP 11 2 rfl rfl (by unfold vp_in; decide) dX7_goBack_18 ?_
      refine lv_ti (y := (fk 1)) (by rfl) ?_
      refine lv_if_ne (tgt := 26) hx hb dX7_goBack_19 (by decide) (fun c_5 => ?_) (fun c_5 => ?_)
      · refine lv_aload_n hx hb dX7_goBack_26 rfl (lv_at hl 0 rfl) ?_
        refine va_get (D := D) (ci := 7) (v := .ref (a 53)) (C := RX7) (T := TX7) (N := 12) hx hb hts inX7 hown hK hP 0 rfl rfl 7 (by decide) (hts _ tw_312) (fun _ h9 => h9) rfl dX7_goBack_27 ?_
        refine lv_aload_n hx hb dX7_goBack_30 rfl (lv_at hl 0 rfl) ?_
        refine va_get (D := D) (ci := 7) (v := .ref (a 56)) (C := RX7) (T := TX7) (N := 12) hx hb hts inX7 hown hK hP 0 rfl rfl 8 (by decide) (hts _ tw_313) (fun _ h9 => h9) rfl dX7_goBack_31 ?_
        refine lv_iload_n hx hb dX7_goBack_34 rfl (lv_at hl 1 rfl) ?_
        refine va_aldq hx hb hK hP 4 6 rfl rfl (by unfold vp_in; decide) dX7_goBack_35 ?_
        refine lv_tr (y := .ref (a 60)) rfl ?_
        refine rw_v (D := D) (wr := [((a 0), .inr (7, (fX7 (a 1) (a 3) (a 19) (a 35) (a 40) (nI rk) lfa (a 53) (a 56) (a 63) (a 64) (a 68)))), ((a 56), .inl (k 6, 2, .inr (.inr (.inr (.inr (a2 (a 57) (a 60))))))), ((a 57), .inr (4, (fX4 (a 58) (a 59) (nI cci0) (nI rzi0) roi0 sdi0))), (aI k (a 58) 4 wki0), (aI k (a 59) 4 (nF bri0)), (aZ k (a 63) 2 fk)]) (va_runV (As := [.ref (a 60)]) (rest := []) ⟨hx, hb, hml, hown, hts⟩ ((x_copyFrom3 l D k st lo (a 53) (a 54) (a 55) cc rz ro sd wk br (a 60) (a 61) (a 62) cci1 rzi1 roi1 sdi1 wki1 bri1 (by first | assumption | omega) (by first | assumption | omega) hbr hbi1) H.size) (cwV 1 hts (gV tw_955 tw_956 tw_957 tw_82 tw_958) rfl rfl rfl (by decide +kernel) ⟨Nat.le_of_ble_eq_true rfl, Nat.le_of_ble_eq_true rfl⟩) (pV hS hAlo hlo hP hK (va_Dlo hD hAlo) hZ [1, 2, 3, 8, 9, 10] (by decide) rfl (ci := 4) (q := (RX4, TX4, 6)) (q0 := 0) rfl rfl) rfl rfl hl.1 rfl (lv_room (Nat.le_of_ble_eq_true rfl)) dX7_goBack_36 ⟨Nat.le_of_ble_eq_true rfl, Nat.le_of_ble_eq_true rfl⟩) hS hA hP hD [1, 2, 3, 8, 9, 10] [0, 4, 5, 6, 7, 11] rfl rfl (by decide +kernel) (by decide +kernel) (fun u H locs hw_6 hP hD hS => ?_)
        obtain ⟨cc__6, rz__6, ro__6, sd__6, wk__6, br__6⟩ := u
        replace hP : va_P D classes [((a 0), .inr (7, (fX7 (a 1) (a 3) (a 19) (a 35) (a 40) (nI rk) lfa (a 53) (a 56) (a 63) (a 64) (a 68)))), ((a 56), .inl (k 6, 2, .inr (.inr (.inr (.inr (a2 (a 57) (a 60))))))), ((a 57), .inr (4, (fX4 (a 58) (a 59) (nI cci0) (nI rzi0) roi0 sdi0))), (aI k (a 58) 4 wki0), (aI k (a 59) 4 (nF bri0)), (aZ k (a 63) 2 fk), ((a 53), .inr (4, (fX4 (a 54) (a 55) (nI cc__6) (nI rz__6) ro__6 sd__6))), (aI k (a 54) 4 wk__6), (aI k (a 55) 4 (nF br__6)), ((a 60), .inr (4, (fX4 (a 61) (a 62) (nI cci1) (nI rzi1) roi1 sdi1))), (aI k (a 61) 4 wki1), (aI k (a 62) 4 (nF bri1))] H := hP
        replace hD : va_D A [((a 0), .inr (7, (fX7 (a 1) (a 3) (a 19) (a 35) (a 40) (nI rk) lfa (a 53) (a 56) (a 63) (a 64) (a 68)))), ((a 56), .inl (k 6, 2, .inr (.inr (.inr (.inr (a2 (a 57) (a 60))))))), ((a 57), .inr (4, (fX4 (a 58) (a 59) (nI cci0) (nI rzi0) roi0 sdi0))), (aI k (a 58) 4 wki0), (aI k (a 59) 4 (nF bri0)), (aZ k (a 63) 2 fk), ((a 53), .inr (4, (fX4 (a 54) (a 55) (nI cc__6) (nI rz__6) ro__6 sd__6))), (aI k (a 54) 4 wk__6), (aI k (a 55) 4 (nF br__6)), ((a 60), .inr (4, (fX4 (a 61) (a 62) (nI cci1) (nI rzi1) roi1 sdi1))), (aI k (a 61) 4 wki1), (aI k (a 62) 4 (nF bri1))] := hD
        try dsimp only at hw_6
        obtain ⟨rfl, rfl, hbq_7, rfl, rfl, hw_6⟩ := hw_6
        refine lv_iconst (v := 1) hx hb dX7_goBack_39 (by decide) ?_
        have hP9 := hP.sub (ws' := [((a 0), .inr (7, (fX7 (a 1) (a 3) (a 19) (a 35) (a 40) (nI rk) lfa (a 53) (a 56) (a 63) (a 64) (a 68)))), ((a 53), .inr (4, (fX4 (a 54) (a 55) (nI cci1) (nI rzi1) roi1 sdi1))), (aI k (a 54) 4 wk__6), (aI k (a 55) 4 (nF br__6)), ((a 56), .inl (k 6, 2, .inr (.inr (.inr (.inr (a2 (a 57) (a 60))))))), ((a 57), .inr (4, (fX4 (a 58) (a 59) (nI cci0) (nI rzi0) roi0 sdi0))), (aI k (a 58) 4 wki0), (aI k (a 59) 4 (nF bri0)), ((a 60), .inr (4, (fX4 (a 61) (a 62) (nI cci1) (nI rzi1) roi1 sdi1))), (aI k (a 61) 4 wki1), (aI k (a 62) 4 (nF bri1)), (aZ k (a 63) 2 fk)]) [0, 6, 7, 8, 1, 2, 3, 4, 9, 10, 11, 5] rfl
        have hD9 := hD.sub (ws' := [((a 0), .inr (7, (fX7 (a 1) (a 3) (a 19) (a 35) (a 40) (nI rk) lfa (a 53) (a 56) (a 63) (a 64) (a 68)))), ((a 53), .inr (4, (fX4 (a 54) (a 55) (nI cci1) (nI rzi1) roi1 sdi1))), (aI k (a 54) 4 wk__6), (aI k (a 55) 4 (nF br__6)), ((a 56), .inl (k 6, 2, .inr (.inr (.inr (.inr (a2 (a 57) (a 60))))))), ((a 57), .inr (4, (fX4 (a 58) (a 59) (nI cci0) (nI rzi0) roi0 sdi0))), (aI k (a 58) 4 wki0), (aI k (a 59) 4 (nF bri0)), ((a 60), .inr (4, (fX4 (a 61) (a 62) (nI cci1) (nI rzi1) roi1 sdi1))), (aI k (a 61) 4 wki1), (aI k (a 62) 4 (nF bri1)), (aZ k (a 63) 2 fk)]) [0, 6, 7, 8, 1, 2, 3, 4, 9, 10, 11, 5] (by decide +kernel) rfl
        exact W.iret (v := 1) hx hb hr (fun t ht hW => ⟨⟨1, (cci1, rzi1, roi1, sdi1, wk__6, br__6), rfl, ⟨gb_k1 c_5 rfl, gb_k1 c_5 rfl, by omega, by omega, hbq_7, gx_k1 c_5 ⟨rfl, rfl, hw_6⟩⟩, by rw [ht]; exact hP9, hD9⟩, hS.F ht⟩) hS.2.2 dX7_goBack_40
      · refine lv_sipush (v := (-1003)) hx hb dX7_goBack_22 (by decide) ?_
        have hP9 := hP.sub (ws' := [((a 0), .inr (7, (fX7 (a 1) (a 3) (a 19) (a 35) (a 40) (nI rk) lfa (a 53) (a 56) (a 63) (a 64) (a 68)))), ((a 53), .inr (4, (fX4 (a 54) (a 55) (nI cc) (nI rz) ro sd))), (aI k (a 54) 4 wk), (aI k (a 55) 4 (nF br)), ((a 56), .inl (k 6, 2, .inr (.inr (.inr (.inr (a2 (a 57) (a 60))))))), ((a 57), .inr (4, (fX4 (a 58) (a 59) (nI cci0) (nI rzi0) roi0 sdi0))), (aI k (a 58) 4 wki0), (aI k (a 59) 4 (nF bri0)), ((a 60), .inr (4, (fX4 (a 61) (a 62) (nI cci1) (nI rzi1) roi1 sdi1))), (aI k (a 61) 4 wki1), (aI k (a 62) 4 (nF bri1)), (aZ k (a 63) 2 fk)]) [0, 1, 2, 3, 4, 5, 6, 7, 8, 9, 10, 11] rfl
        have hD9 := hD.sub (ws' := [((a 0), .inr (7, (fX7 (a 1) (a 3) (a 19) (a 35) (a 40) (nI rk) lfa (a 53) (a 56) (a 63) (a 64) (a 68)))), ((a 53), .inr (4, (fX4 (a 54) (a 55) (nI cc) (nI rz) ro sd))), (aI k (a 54) 4 wk), (aI k (a 55) 4 (nF br)), ((a 56), .inl (k 6, 2, .inr (.inr (.inr (.inr (a2 (a 57) (a 60))))))), ((a 57), .inr (4, (fX4 (a 58) (a 59) (nI cci0) (nI rzi0) roi0 sdi0))), (aI k (a 58) 4 wki0), (aI k (a 59) 4 (nF bri0)), ((a 60), .inr (4, (fX4 (a 61) (a 62) (nI cci1) (nI rzi1) roi1 sdi1))), (aI k (a 61) 4 wki1), (aI k (a 62) 4 (nF bri1)), (aZ k (a 63) 2 fk)]) [0, 1, 2, 3, 4, 5, 6, 7, 8, 9, 10, 11] (by decide +kernel) rfl
        exact W.iret (v := (-1003)) hx hb hr (fun t ht hW => ⟨⟨(-1003), (cc, rz, ro, sd, wk, br), rfl, ⟨gb_n1 c_5, gb_n1 c_5, by omega, by omega, hbr, gx_n1 c_5⟩, by rw [ht]; exact hP9, hD9⟩, hS.F ht⟩) hS.2.2 dX7_goBack_25
  · refine lv_if_ne (tgt := 13) hx hb dX7_goBack_6 (by decide) (fun h => absurd (by decide) h) (fun _ => ?_)
    refine lv_sipush (v := (-1001)) hx hb dX7_goBack_9 (by decide) ?_
    have hP9 := hP.sub (ws' := [((a 0), .inr (7, (fX7 (a 1) (a 3) (a 19) (a 35) (a 40) (nI rk) lfa (a 53) (a 56) (a 63) (a 64) (a 68)))), ((a 53), .inr (4, (fX4 (a 54) (a 55) (nI cc) (nI rz) ro sd))), (aI k (a 54) 4 wk), (aI k (a 55) 4 (nF br)), ((a 56), .inl (k 6, 2, .inr (.inr (.inr (.inr (a2 (a 57) (a 60))))))), ((a 57), .inr (4, (fX4 (a 58) (a 59) (nI cci0) (nI rzi0) roi0 sdi0))), (aI k (a 58) 4 wki0), (aI k (a 59) 4 (nF bri0)), ((a 60), .inr (4, (fX4 (a 61) (a 62) (nI cci1) (nI rzi1) roi1 sdi1))), (aI k (a 61) 4 wki1), (aI k (a 62) 4 (nF bri1)), (aZ k (a 63) 2 fk)]) [0, 1, 2, 3, 4, 5, 6, 7, 8, 9, 10, 11] rfl
    have hD9 := hD.sub (ws' := [((a 0), .inr (7, (fX7 (a 1) (a 3) (a 19) (a 35) (a 40) (nI rk) lfa (a 53) (a 56) (a 63) (a 64) (a 68)))), ((a 53), .inr (4, (fX4 (a 54) (a 55) (nI cc) (nI rz) ro sd))), (aI k (a 54) 4 wk), (aI k (a 55) 4 (nF br)), ((a 56), .inl (k 6, 2, .inr (.inr (.inr (.inr (a2 (a 57) (a 60))))))), ((a 57), .inr (4, (fX4 (a 58) (a 59) (nI cci0) (nI rzi0) roi0 sdi0))), (aI k (a 58) 4 wki0), (aI k (a 59) 4 (nF bri0)), ((a 60), .inr (4, (fX4 (a 61) (a 62) (nI cci1) (nI rzi1) roi1 sdi1))), (aI k (a 61) 4 wki1), (aI k (a 62) 4 (nF bri1)), (aZ k (a 63) 2 fk)]) [0, 1, 2, 3, 4, 5, 6, 7, 8, 9, 10, 11] (by decide +kernel) rfl
    exact W.iret (v := (-1001)) hx hb hr (fun t ht hW => ⟨⟨(-1001), (cc, rz, ro, sd, wk, br), rfl, ⟨gb_out hw_1, gb_out hw_1, by omega, by omega, hbr, gx_out hw_1⟩, by rw [ht]; exact hP9, hD9⟩, hS.F ht⟩) hS.2.2 dX7_goBack_12


set_option maxHeartbeats 4000000 in
set_option maxRecDepth 100000 in
theorem y_seed (l : Launch) (D : va_G) (k : Nat → ClassId) (st : Nat → Nat) (lo : Nat) (a : Nat → Nat) (rk : Nat) (lfa : Int32) (cc : Nat) (rz : Nat) (ro : Int32) (sd : Int32) (p0 : Int32)  : CWi l D k st lo yX7_seed cX7_seed 3 (some .int) ({ frames := 0, cells := 0, slots := 0, locals := 0 }) 0 0 [.ref (a 0), .int p0] [((a 0), .inr (7, (fX7 (a 1) (a 3) (a 19) (a 35) (a 40) (nI rk) lfa (a 53) (a 56) (a 63) (a 64) (a 68)))), ((a 53), .inr (4, (fX4 (a 54) (a 55) (nI cc) (nI rz) ro sd)))] (fun (r : Int32) (sd_ : Int32) => sedP p0 sd r sd_) (fun (sd_ : Int32) => [((a 0), .inr (7, (fX7 (a 1) (a 3) (a 19) (a 35) (a 40) (nI rk) lfa (a 53) (a 56) (a 63) (a 64) (a 68)))), ((a 53), .inr (4, (fX4 (a 54) (a 55) (nI cc) (nI rz) ro sd_)))]) := by
  intro sz
  refine Met.ofW (cc := cX7_seed) (maxL := 3) (ret := (some .int)) (by decide) rfl ?_
  intro p e s m args below meth c s₁ B hml hv
  obtain ⟨rfl, hsz, hlo, hP, hK, hDL, hZ⟩ := hv
  have hx := B.exec
  have hb := B.bytes
  have hr := B.returns
  have hts := WS_ts B.pre
  have hown : s.vm.findClass RX7 = some m.cls := findClass_of_methodNamed B.named
  have hlocks := B.notSynchronized
  subst hsz
  have hD := hDL.self (sz := s.heap.size)
  have hAlo := A_lo hDL hlo
  generalize hAe : va_A [((a 0), .inr (7, (fX7 (a 1) (a 3) (a 19) (a 35) (a 40) (nI rk) lfa (a 53) (a 56) (a 63) (a 64) (a 68)))), ((a 53), .inr (4, (fX4 (a 54) (a 55) (nI cc) (nI rz) ro sd)))] s.heap.size = A at hD hAlo ⊢
  have hA : ∀ q : Nat, s.heap.size ≤ q → A q := fun q h => by rw [← hAe]; exact Or.inr h
  have hS : va_S A s.heap s.heap [] := va_S.rf
  have hl := lv_entry ([.ref (a 0), .int p0]) (n := 3) (Nat.le_of_ble_eq_true rfl)
  rw [lg_entry_eq]
  generalize (lg_sl ([.ref (a 0), .int p0]) ++ List.replicate (3 - (lg_sl ([.ref (a 0), .int p0])).length) Slot.unset).toArray = ls at hl ⊢
  have hl : lv_has ls 3 [(0, .ref (a 0)), (1, .int p0)] := hl
  refine lv_iload_n hx hb dX7_seed_0 rfl (lv_at hl 1 rfl) ?_
  refine lv_if_ge (tgt := 8) hx hb dX7_seed_1 (by decide) (fun c_1 => ?_) (fun c_1 => ?_)
  · refine lv_aload_n hx hb dX7_seed_8 rfl (lv_at hl 0 rfl) ?_
    refine va_get (D := D) (ci := 7) (v := .ref (a 53)) (C := RX7) (T := TX7) (N := 12) hx hb hts inX7 hown hK hP 0 rfl rfl 7 (by decide) (hts _ tw_312) (fun _ h9 => h9) rfl dX7_seed_9 ?_
    refine va_get (D := D) (ci := 4) (v := .int sd) (C := RX4) (T := TX4) (N := 6) hx hb hts inX4 hown hK hP 1 rfl rfl 5 (by decide) (hts _ tw_189) (fun _ h9 => h9) rfl dX7_seed_12 ?_
    refine lv_istore_n (lv' := [(2, .int sd), (0, .ref (a 0)), (1, .int p0)]) hx hb dX7_seed_15 rfl hl (by decide) rfl (fun ls hl => ?_)
    refine lv_aload_n hx hb dX7_seed_16 rfl (lv_at hl 1 rfl) ?_
    refine va_get (D := D) (ci := 7) (v := .ref (a 53)) (C := RX7) (T := TX7) (N := 12) hx hb hts inX7 hown hK hP 0 rfl rfl 7 (by decide) (hts _ tw_312) (fun _ h9 => h9) rfl dX7_seed_17 ?_
    refine lv_iload_n hx hb dX7_seed_20 rfl (lv_at hl 2 rfl) ?_
    refine va_put (D := D) (ci := 4) (v := .int p0) (ty := .int) (C := RX4) (T := TX4) (N := 6) hx hb hts inX4 tyX4 tyX4_ok nmX4 hown hK hP hD hS 1 rfl rfl 5 (by decide) (hts _ tw_189) (fun _ h9 => h9) rfl (by decide +kernel) rfl rfl (Nat.le_of_ble_eq_true rfl) dX7_seed_21 (fun H locs hP hD hS => ?_)
    replace hP : va_P D classes [((a 0), .inr (7, (fX7 (a 1) (a 3) (a 19) (a 35) (a 40) (nI rk) lfa (a 53) (a 56) (a 63) (a 64) (a 68)))), ((a 53), .inr (4, (fX4 (a 54) (a 55) (nI cc) (nI rz) ro p0)))] H := hP
    replace hD : va_D A [((a 0), .inr (7, (fX7 (a 1) (a 3) (a 19) (a 35) (a 40) (nI rk) lfa (a 53) (a 56) (a 63) (a 64) (a 68)))), ((a 53), .inr (4, (fX4 (a 54) (a 55) (nI cc) (nI rz) ro p0)))] := hD
    refine lv_iload_n hx hb dX7_seed_24 rfl (lv_at hl 0 rfl) ?_
    have hP9 := hP.sub (ws' := [((a 0), .inr (7, (fX7 (a 1) (a 3) (a 19) (a 35) (a 40) (nI rk) lfa (a 53) (a 56) (a 63) (a 64) (a 68)))), ((a 53), .inr (4, (fX4 (a 54) (a 55) (nI cc) (nI rz) ro p0)))]) [0, 1] rfl
    have hD9 := hD.sub (ws' := [((a 0), .inr (7, (fX7 (a 1) (a 3) (a 19) (a 35) (a 40) (nI rk) lfa (a 53) (a 56) (a 63) (a 64) (a 68)))), ((a 53), .inr (4, (fX4 (a 54) (a 55) (nI cc) (nI rz) ro p0)))]) [0, 1] (by decide) rfl
    exact W.iret (v := sd) hx hb hr (fun t ht hW => ⟨⟨sd, p0, rfl, ⟨fun h => absurd h (Int32.not_lt.mpr c_1), fun _ => ⟨rfl, rfl⟩⟩, by rw [ht]; exact hP9, hD9⟩, hS.F ht⟩) hS.2.2 dX7_seed_25
  · refine lv_sipush (v := (-1002)) hx hb dX7_seed_4 (by decide) ?_
    have hP9 := hP.sub (ws' := [((a 0), .inr (7, (fX7 (a 1) (a 3) (a 19) (a 35) (a 40) (nI rk) lfa (a 53) (a 56) (a 63) (a 64) (a 68)))), ((a 53), .inr (4, (fX4 (a 54) (a 55) (nI cc) (nI rz) ro sd)))]) [0, 1] rfl
    have hD9 := hD.sub (ws' := [((a 0), .inr (7, (fX7 (a 1) (a 3) (a 19) (a 35) (a 40) (nI rk) lfa (a 53) (a 56) (a 63) (a 64) (a 68)))), ((a 53), .inr (4, (fX4 (a 54) (a 55) (nI cc) (nI rz) ro sd)))]) [0, 1] (by decide) rfl
    exact W.iret (v := (-1002)) hx hb hr (fun t ht hW => ⟨⟨(-1002), sd, rfl, ⟨fun _ => ⟨rfl, rfl⟩, fun h => absurd (Int32.not_le.mp c_1) h⟩, by rw [ht]; exact hP9, hD9⟩, hS.F ht⟩) hS.2.2 dX7_seed_7


set_option maxHeartbeats 4000000 in
set_option maxRecDepth 100000 in
theorem m_saw3 (l : Launch) (D : va_G) (k : Nat → ClassId) (st : Nat → Nat) (lo : Nat) (a : Nat → Nat) (tx : Nat) (t0 : Nat) (we : Nat) (rd : Nat) (ru : Nat) (rw : Nat) (ca : Nat) (fp : Int32) (wd : Int64) (nu : Int32) (na : Int32) (ts : Int32) (df : Int32) (db : Int32) (sd : Int32) (frow : Nat → Int32) (p0 : Int32) (hrw : rw ≤ 24) : CWi l D k st lo yX8_saw cX8_saw 2 (some .int) ({ frames := 0, cells := 0, slots := 0, locals := 0 }) 0 0 [.ref (a 0), .int p0] [((a 0), .inr (8, (fX8 a (nI tx) fp (nI t0) wd (nI we) nu na (nI rd) ts (nI ru) (nI rw) (nI ca) df db sd))), (aZ k (a 32) 24 frow)] (fun (r : Int32) (u : Nat × (Nat → Int32)) => match u with | (rw_, frow_) => sawP rw r rw_ ∧ rw_ ≤ 24 ∧ (rw < 24 → frow_ = upd frow rw (vp_nar .boolean p0)) ∧ (¬ rw < 24 → frow_ = frow)) (fun (u : Nat × (Nat → Int32)) => match u with | (rw_, frow_) => [((a 0), .inr (8, (fX8 a (nI tx) fp (nI t0) wd (nI we) nu na (nI rd) ts (nI ru) (nI rw_) (nI ca) df db sd))), (aZ k (a 32) 24 frow_)]) := by
  intro sz
  refine Met.ofW (cc := cX8_saw) (maxL := 2) (ret := (some .int)) (by decide) rfl ?_
  intro p e s m args below meth c s₁ B hml hv
  obtain ⟨rfl, hsz, hlo, hP, hK, hDL, hZ⟩ := hv
  have hx := B.exec
  have hb := B.bytes
  have hr := B.returns
  have hts := WS_ts B.pre
  have hown : s.vm.findClass RX8 = some m.cls := findClass_of_methodNamed B.named
  have hlocks := B.notSynchronized
  subst hsz
  have hD := hDL.self (sz := s.heap.size)
  have hAlo := A_lo hDL hlo
  generalize hAe : va_A [((a 0), .inr (8, (fX8 a (nI tx) fp (nI t0) wd (nI we) nu na (nI rd) ts (nI ru) (nI rw) (nI ca) df db sd))), (aZ k (a 32) 24 frow)] s.heap.size = A at hD hAlo ⊢
  have hA : ∀ q : Nat, s.heap.size ≤ q → A q := fun q h => by rw [← hAe]; exact Or.inr h
  have hS : va_S A s.heap s.heap [] := va_S.rf
  have hl := lv_entry ([.ref (a 0), .int p0]) (n := 2) (Nat.le_of_ble_eq_true rfl)
  rw [lg_entry_eq]
  generalize (lg_sl ([.ref (a 0), .int p0]) ++ List.replicate (2 - (lg_sl ([.ref (a 0), .int p0])).length) Slot.unset).toArray = ls at hl ⊢
  have hl : lv_has ls 2 [(0, .ref (a 0)), (1, .int p0)] := hl
  refine lv_aload_n hx hb dX8_saw_0 rfl (lv_at hl 0 rfl) ?_
  refine va_get (D := D) (ci := 8) (v := .int (nI rw)) (C := RX8) (T := TX8) (N := 44) hx hb hts inX8 hown hK hP 0 rfl rfl 30 (by decide) (hts _ tw_1003) (fun _ h9 => h9) rfl dX8_saw_1 ?_
  refine lv_bipush (v := 24) hx hb dX8_saw_4 (by decide) ?_
  refine lv_icmp_ne (tgt := 13) hx hb dX8_saw_6 (by decide) (fun c_1 => ?_) (fun c_1 => ?_)
  · have c_1 : ¬ (rw = 24) := fun h => c_1 ((nI_eq (a := rw) (b := 24) (by omega) (by omega)).mpr h)
    refine lv_aload_n hx hb dX8_saw_13 rfl (lv_at hl 0 rfl) ?_
    refine va_get (D := D) (ci := 8) (v := .ref (a 32)) (C := RX8) (T := TX8) (N := 44) hx hb hts inX8 hown hK hP 0 rfl rfl 31 (by decide) (hts _ tw_1004) (fun _ h9 => h9) rfl dX8_saw_14 ?_
    refine lv_aload_n hx hb dX8_saw_17 rfl (lv_at hl 0 rfl) ?_
    refine va_get (D := D) (ci := 8) (v := .int (nI rw)) (C := RX8) (T := TX8) (N := 44) hx hb hts inX8 hown hK hP 0 rfl rfl 30 (by decide) (hts _ tw_1003) (fun _ h9 => h9) rfl dX8_saw_18 ?_
    refine lv_iload_n hx hb dX8_saw_21 rfl (lv_at hl 1 rfl) ?_
    refine va_zast hx hb hK hP hD hS 1 2 rfl rfl (vp_in_nI (by omega) (by decide)) dX8_saw_22 (fun H locs hP hD hS => ?_)
    replace hP : va_P D classes [((a 0), .inr (8, (fX8 a (nI tx) fp (nI t0) wd (nI we) nu na (nI rd) ts (nI ru) (nI rw) (nI ca) df db sd))), (aZ k (a 32) 24 (upd frow (Int32.toNatClampNeg (nI rw)) (vp_nar .boolean p0)))] H := hP
    replace hD : va_D A [((a 0), .inr (8, (fX8 a (nI tx) fp (nI t0) wd (nI we) nu na (nI rd) ts (nI ru) (nI rw) (nI ca) df db sd))), (aZ k (a 32) 24 (upd frow (Int32.toNatClampNeg (nI rw)) (vp_nar .boolean p0)))] := hD
    rw [nI_clamp (n := rw) (by omega)] at hP hD
    replace hP : va_P D classes [((a 0), .inr (8, (fX8 a (nI tx) fp (nI t0) wd (nI we) nu na (nI rd) ts (nI ru) (nI rw) (nI ca) df db sd))), (aZ k (a 32) 24 (upd frow rw (vp_nar .boolean p0)))] H := hP
    replace hD : va_D A [((a 0), .inr (8, (fX8 a (nI tx) fp (nI t0) wd (nI we) nu na (nI rd) ts (nI ru) (nI rw) (nI ca) df db sd))), (aZ k (a 32) 24 (upd frow rw (vp_nar .boolean p0)))] := hD
    refine lv_aload_n hx hb dX8_saw_23 rfl (lv_at hl 0 rfl) ?_
    refine lv_dup hx hb dX8_saw_24 rfl ?_
    refine va_get (D := D) (ci := 8) (v := .int (nI rw)) (C := RX8) (T := TX8) (N := 44) hx hb hts inX8 hown hK hP 0 rfl rfl 30 (by decide) (hts _ tw_1003) (fun _ h9 => h9) rfl dX8_saw_25 ?_
    refine lv_iconst (v := 1) hx hb dX8_saw_28 (by decide) ?_
    refine lv_iadd hx hb dX8_saw_29 ?_
    refine lv_ti (y := (nI (rw + 1))) (nI_add rw 1) ?_
    refine va_put (D := D) (ci := 8) (v := .int (nI (rw + 1))) (ty := .int) (C := RX8) (T := TX8) (N := 44) hx hb hts inX8 tyX8 tyX8_ok nmX8 hown hK hP hD hS 0 rfl rfl 30 (by decide) (hts _ tw_1003) (fun _ h9 => h9) rfl (by decide +kernel) rfl rfl (Nat.le_of_ble_eq_true rfl) dX8_saw_30 (fun H locs hP hD hS => ?_)
    replace hP : va_P D classes [((a 0), .inr (8, (fX8 a (nI tx) fp (nI t0) wd (nI we) nu na (nI rd) ts (nI ru) (nI (rw + 1)) (nI ca) df db sd))), (aZ k (a 32) 24 (upd frow rw (vp_nar .boolean p0)))] H := hP
    replace hD : va_D A [((a 0), .inr (8, (fX8 a (nI tx) fp (nI t0) wd (nI we) nu na (nI rd) ts (nI ru) (nI (rw + 1)) (nI ca) df db sd))), (aZ k (a 32) 24 (upd frow rw (vp_nar .boolean p0)))] := hD
    refine lv_aload_n hx hb dX8_saw_33 rfl (lv_at hl 0 rfl) ?_
    refine va_get (D := D) (ci := 8) (v := .int (nI (rw + 1))) (C := RX8) (T := TX8) (N := 44) hx hb hts inX8 hown hK hP 0 rfl rfl 30 (by decide) (hts _ tw_1003) (fun _ h9 => h9) rfl dX8_saw_34 ?_
    have hP9 := hP.sub (ws' := [((a 0), .inr (8, (fX8 a (nI tx) fp (nI t0) wd (nI we) nu na (nI rd) ts (nI ru) (nI (rw + 1)) (nI ca) df db sd))), (aZ k (a 32) 24 (upd frow rw (vp_nar .boolean p0)))]) [0, 1] rfl
    have hD9 := hD.sub (ws' := [((a 0), .inr (8, (fX8 a (nI tx) fp (nI t0) wd (nI we) nu na (nI rd) ts (nI ru) (nI (rw + 1)) (nI ca) df db sd))), (aZ k (a 32) 24 (upd frow rw (vp_nar .boolean p0)))]) [0, 1] (by decide) rfl
    exact W.iret (v := (nI (rw + 1))) hx hb hr (fun t ht hW => ⟨⟨(nI (rw + 1)), ((rw + 1), (upd frow rw (vp_nar .boolean p0))), rfl, ⟨⟨fun _ => ⟨rfl, rfl⟩, fun h => absurd (by omega) h⟩, by omega, fun _ => rfl, fun h => absurd (by omega) h⟩, by rw [ht]; exact hP9, hD9⟩, hS.F ht⟩) hS.2.2 dX8_saw_37
  · have c_1 := (nI_eq (a := rw) (b := 24) (by omega) (by omega)).mp c_1
    refine lv_sipush (v := (-1004)) hx hb dX8_saw_9 (by decide) ?_
    have hP9 := hP.sub (ws' := [((a 0), .inr (8, (fX8 a (nI tx) fp (nI t0) wd (nI we) nu na (nI rd) ts (nI ru) (nI rw) (nI ca) df db sd))), (aZ k (a 32) 24 frow)]) [0, 1] rfl
    have hD9 := hD.sub (ws' := [((a 0), .inr (8, (fX8 a (nI tx) fp (nI t0) wd (nI we) nu na (nI rd) ts (nI ru) (nI rw) (nI ca) df db sd))), (aZ k (a 32) 24 frow)]) [0, 1] (by decide) rfl
    exact W.iret (v := (-1004)) hx hb hr (fun t ht hW => ⟨⟨(-1004), (rw, frow), rfl, ⟨⟨fun h => absurd h (by omega), fun _ => ⟨rfl, rfl⟩⟩, by omega, fun h => absurd h (by omega), fun _ => rfl⟩, by rw [ht]; exact hP9, hD9⟩, hS.F ht⟩) hS.2.2 dX8_saw_12


set_option maxHeartbeats 4000000 in
set_option maxRecDepth 100000 in
theorem m_car3 (l : Launch) (D : va_G) (k : Nat → ClassId) (st : Nat → Nat) (lo : Nat) (a : Nat → Nat) (tx : Nat) (t0 : Nat) (we : Nat) (rd : Nat) (ru : Nat) (rw : Nat) (ca : Nat) (fp : Int32) (wd : Int64) (nu : Int32) (na : Int32) (ts : Int32) (df : Int32) (db : Int32) (sd : Int32) (fwalks : Nat → Int32) (br : Nat → Nat) (p0 : Int32) (p1 : Int32) (hca : ca ≤ 4) (hbr : ∀ j, br j ≤ 24) : CWi l D k st lo yX8_car cX8_car 3 (some .int) ({ frames := 1, cells := 0, slots := 0, locals := 25 }) 0 0 [.ref (a 0), .int p0, .int p1] [((a 0), .inr (8, (fX8 a (nI tx) fp (nI t0) wd (nI we) nu na (nI rd) ts (nI ru) (nI rw) (nI ca) df db sd))), (aI k (a 36) 4 fwalks), (aI k (a 37) 4 (nF br))] (fun (r : Int32) (u : Nat × (Nat → Int32) × (Nat → Nat)) => match u with | (ca_, fwalks_, br_) => carP p0 p1 ca r ca_ ∧ ca_ ≤ 4 ∧ (∀ j, br_ j ≤ 24) ∧ carW p0 p1 ca fwalks fwalks_) (fun (u : Nat × (Nat → Int32) × (Nat → Nat)) => match u with | (ca_, fwalks_, br_) => [((a 0), .inr (8, (fX8 a (nI tx) fp (nI t0) wd (nI we) nu na (nI rd) ts (nI ru) (nI rw) (nI ca_) df db sd))), (aI k (a 36) 4 fwalks_), (aI k (a 37) 4 (nF br_))]) := by
  intro sz
  refine Met.ofW (cc := cX8_car) (maxL := 3) (ret := (some .int)) (by decide) rfl ?_
  intro p e s m args below meth c s₁ B hml hv
  obtain ⟨rfl, hsz, hlo, hP, hK, hDL, hZ⟩ := hv
  have hx := B.exec
  have hb := B.bytes
  have hr := B.returns
  have hts := WS_ts B.pre
  have hown : s.vm.findClass RX8 = some m.cls := findClass_of_methodNamed B.named
  have hlocks := B.notSynchronized
  subst hsz
  have hD := hDL.self (sz := s.heap.size)
  have hAlo := A_lo hDL hlo
  generalize hAe : va_A [((a 0), .inr (8, (fX8 a (nI tx) fp (nI t0) wd (nI we) nu na (nI rd) ts (nI ru) (nI rw) (nI ca) df db sd))), (aI k (a 36) 4 fwalks), (aI k (a 37) 4 (nF br))] s.heap.size = A at hD hAlo ⊢
  have hA : ∀ q : Nat, s.heap.size ≤ q → A q := fun q h => by rw [← hAe]; exact Or.inr h
  have hS : va_S A s.heap s.heap [] := va_S.rf
  have hl := lv_entry ([.ref (a 0), .int p0, .int p1]) (n := 3) (Nat.le_of_ble_eq_true rfl)
  rw [lg_entry_eq]
  generalize (lg_sl ([.ref (a 0), .int p0, .int p1]) ++ List.replicate (3 - (lg_sl ([.ref (a 0), .int p0, .int p1])).length) Slot.unset).toArray = ls at hl ⊢
  have hl : lv_has ls 3 [(0, .ref (a 0)), (1, .int p0), (2, .int p1)] := hl
  refine lv_iload_n hx hb dX8_car_0 rfl (lv_at hl 1 rfl) ?_
  refine lv_i2l (v := p0.toInt64) hx hb dX8_car_1 rfl ?_
  refine lv_lconst (v := (0 : Int32).toInt64) hx hb dX8_car_2 (by decide) ?_
  refine lv_ldc2 hx hb hown (hts _ tw_1368) dX8_car_3 ?_
  refine lv_tl (y := ((99 : Int32).toInt64)) (by decide) ?_
  refine ro_i (D := D) (va_runS (As := [.long (p0.toInt64), .long ((0 : Int32).toInt64), .long ((99 : Int32).toInt64)]) (rest := []) ⟨hx, hb, hml, hown, hts⟩ ((k_in l D k st lo p0 (0 : Int32) (99 : Int32)) s.heap.size) (va_cwS 3 hts (gS tw_1111 tw_1112 tw_87 tw_1113) rfl rfl rfl (by decide +kernel) ⟨Nat.le_of_ble_eq_true rfl, Nat.le_of_ble_eq_true rfl⟩) (pS hS hAlo hlo hP hK (va_Dlo hD hAlo) hZ [] (by decide) rfl) rfl rfl hl.1 rfl (lv_room (Nat.le_of_ble_eq_true rfl)) dX8_car_6 ⟨Nat.le_of_ble_eq_true rfl, Nat.le_of_ble_eq_true rfl⟩) hS hA hP (fun r_1 H locs hw_1 hP hS => ?_)
  try dsimp only at hw_1
  rcases hw_1 with ⟨rfl, hw_1⟩ | ⟨rfl, hw_1⟩
  · refine lv_if_eq (tgt := 24) hx hb dX8_car_9 (by decide) (fun h => absurd h (by decide)) (fun _ => ?_)
    refine lv_iload_n hx hb dX8_car_12 rfl (lv_at hl 2 rfl) ?_
    refine lv_i2l (v := p1.toInt64) hx hb dX8_car_13 rfl ?_
    refine lv_lconst (v := (0 : Int32).toInt64) hx hb dX8_car_14 (by decide) ?_
    refine lv_ldc2 hx hb hown (hts _ tw_1377) dX8_car_15 ?_
    refine lv_tl (y := ((24 : Int32).toInt64)) (by decide) ?_
    refine ro_i (D := D) (va_runS (As := [.long (p1.toInt64), .long ((0 : Int32).toInt64), .long ((24 : Int32).toInt64)]) (rest := []) ⟨hx, hb, hml, hown, hts⟩ ((k_in l D k st lo p1 (0 : Int32) (24 : Int32)) H.size) (va_cwS 3 hts (gS tw_1111 tw_1112 tw_87 tw_1113) rfl rfl rfl (by decide +kernel) ⟨Nat.le_of_ble_eq_true rfl, Nat.le_of_ble_eq_true rfl⟩) (pS hS hAlo hlo hP hK (va_Dlo hD hAlo) hZ [] (by decide) rfl) rfl rfl hl.1 rfl (lv_room (Nat.le_of_ble_eq_true rfl)) dX8_car_18 ⟨Nat.le_of_ble_eq_true rfl, Nat.le_of_ble_eq_true rfl⟩) hS hA hP (fun r_2 H locs hw_2 hP hS => ?_)
    try dsimp only at hw_2
    rcases hw_2 with ⟨rfl, hw_2⟩ | ⟨rfl, hw_2⟩
    · refine lv_if_ne (tgt := 28) hx hb dX8_car_21 (by decide) (fun _ => ?_) (fun h => absurd h (by decide))
      obtain ⟨nb_3, hnl_3, hnh_3, rfl⟩ := inB_ofc (a := 0) (b := 24) (by omega) (by omega) hw_2
      refine lv_aload_n hx hb dX8_car_28 rfl (lv_at hl 0 rfl) ?_
      refine va_get (D := D) (ci := 8) (v := .int (nI ca)) (C := RX8) (T := TX8) (N := 44) hx hb hts inX8 hown hK hP 0 rfl rfl 34 (by decide) (hts _ tw_1007) (fun _ h9 => h9) rfl dX8_car_29 ?_
      refine lv_iconst (v := 4) hx hb dX8_car_32 (by decide) ?_
      refine lv_icmp_ne (tgt := 40) hx hb dX8_car_33 (by decide) (fun c_4 => ?_) (fun c_4 => ?_)
      · have c_4 : ¬ (ca = 4) := fun h => c_4 ((nI_eq (a := ca) (b := 4) (by omega) (by omega)).mpr h)
        refine lv_aload_n hx hb dX8_car_40 rfl (lv_at hl 0 rfl) ?_
        refine va_get (D := D) (ci := 8) (v := .ref (a 36)) (C := RX8) (T := TX8) (N := 44) hx hb hts inX8 hown hK hP 0 rfl rfl 35 (by decide) (hts _ tw_1008) (fun _ h9 => h9) rfl dX8_car_41 ?_
        refine lv_aload_n hx hb dX8_car_44 rfl (lv_at hl 0 rfl) ?_
        refine va_get (D := D) (ci := 8) (v := .int (nI ca)) (C := RX8) (T := TX8) (N := 44) hx hb hts inX8 hown hK hP 0 rfl rfl 34 (by decide) (hts _ tw_1007) (fun _ h9 => h9) rfl dX8_car_45 ?_
        refine lv_iload_n hx hb dX8_car_48 rfl (lv_at hl 1 rfl) ?_
        refine va_iast hx hb hK hP hD hS 1 1 rfl rfl (vp_in_nI (by omega) (by decide)) dX8_car_49 (fun H locs hP hD hS => ?_)
        replace hP : va_P D classes [((a 0), .inr (8, (fX8 a (nI tx) fp (nI t0) wd (nI we) nu na (nI rd) ts (nI ru) (nI rw) (nI ca) df db sd))), (aI k (a 36) 4 (upd fwalks (Int32.toNatClampNeg (nI ca)) p0)), (aI k (a 37) 4 (nF br))] H := hP
        replace hD : va_D A [((a 0), .inr (8, (fX8 a (nI tx) fp (nI t0) wd (nI we) nu na (nI rd) ts (nI ru) (nI rw) (nI ca) df db sd))), (aI k (a 36) 4 (upd fwalks (Int32.toNatClampNeg (nI ca)) p0)), (aI k (a 37) 4 (nF br))] := hD
        rw [nI_clamp (n := ca) (by omega)] at hP hD
        replace hP : va_P D classes [((a 0), .inr (8, (fX8 a (nI tx) fp (nI t0) wd (nI we) nu na (nI rd) ts (nI ru) (nI rw) (nI ca) df db sd))), (aI k (a 36) 4 (upd fwalks ca p0)), (aI k (a 37) 4 (nF br))] H := hP
        replace hD : va_D A [((a 0), .inr (8, (fX8 a (nI tx) fp (nI t0) wd (nI we) nu na (nI rd) ts (nI ru) (nI rw) (nI ca) df db sd))), (aI k (a 36) 4 (upd fwalks ca p0)), (aI k (a 37) 4 (nF br))] := hD
        refine lv_aload_n hx hb dX8_car_50 rfl (lv_at hl 0 rfl) ?_
        refine va_get (D := D) (ci := 8) (v := .ref (a 37)) (C := RX8) (T := TX8) (N := 44) hx hb hts inX8 hown hK hP 0 rfl rfl 36 (by decide) (hts _ tw_1009) (fun _ h9 => h9) rfl dX8_car_51 ?_
        refine lv_aload_n hx hb dX8_car_54 rfl (lv_at hl 0 rfl) ?_
        refine va_get (D := D) (ci := 8) (v := .int (nI ca)) (C := RX8) (T := TX8) (N := 44) hx hb hts inX8 hown hK hP 0 rfl rfl 34 (by decide) (hts _ tw_1007) (fun _ h9 => h9) rfl dX8_car_55 ?_
        refine lv_iload_n hx hb dX8_car_58 rfl (lv_at hl 2 rfl) ?_
        refine va_iast hx hb hK hP hD hS 2 1 rfl rfl (vp_in_nI (by omega) (by decide)) dX8_car_59 (fun H locs hP hD hS => ?_)
        replace hP : va_P D classes [((a 0), .inr (8, (fX8 a (nI tx) fp (nI t0) wd (nI we) nu na (nI rd) ts (nI ru) (nI rw) (nI ca) df db sd))), (aI k (a 36) 4 (upd fwalks ca p0)), (aI k (a 37) 4 (upd (nF br) (Int32.toNatClampNeg (nI ca)) (nI nb_3)))] H := hP
        replace hD : va_D A [((a 0), .inr (8, (fX8 a (nI tx) fp (nI t0) wd (nI we) nu na (nI rd) ts (nI ru) (nI rw) (nI ca) df db sd))), (aI k (a 36) 4 (upd fwalks ca p0)), (aI k (a 37) 4 (upd (nF br) (Int32.toNatClampNeg (nI ca)) (nI nb_3)))] := hD
        rw [nI_clamp (n := ca) (by omega)] at hP hD
        rw [show upd (nF br) ca (nI nb_3) = nF (fun j => if j = ca then nb_3 else br j) from nF_upd _ _ _] at hP hD
        obtain ⟨d_6, hd_6⟩ : ∃ z : Nat → Nat, z = (fun j => if j = ca then nb_3 else br j) := ⟨_, rfl⟩
        rw [← hd_6] at hP hD
        refine lv_aload_n hx hb dX8_car_60 rfl (lv_at hl 0 rfl) ?_
        refine lv_dup hx hb dX8_car_61 rfl ?_
        refine va_get (D := D) (ci := 8) (v := .int (nI ca)) (C := RX8) (T := TX8) (N := 44) hx hb hts inX8 hown hK hP 0 rfl rfl 34 (by decide) (hts _ tw_1007) (fun _ h9 => h9) rfl dX8_car_62 ?_
        refine lv_iconst (v := 1) hx hb dX8_car_65 (by decide) ?_
        refine lv_iadd hx hb dX8_car_66 ?_
        refine lv_ti (y := (nI (ca + 1))) (nI_add ca 1) ?_
        refine va_put (D := D) (ci := 8) (v := .int (nI (ca + 1))) (ty := .int) (C := RX8) (T := TX8) (N := 44) hx hb hts inX8 tyX8 tyX8_ok nmX8 hown hK hP hD hS 0 rfl rfl 34 (by decide) (hts _ tw_1007) (fun _ h9 => h9) rfl (by decide +kernel) rfl rfl (Nat.le_of_ble_eq_true rfl) dX8_car_67 (fun H locs hP hD hS => ?_)
        replace hP : va_P D classes [((a 0), .inr (8, (fX8 a (nI tx) fp (nI t0) wd (nI we) nu na (nI rd) ts (nI ru) (nI rw) (nI (ca + 1)) df db sd))), (aI k (a 36) 4 (upd fwalks ca p0)), (aI k (a 37) 4 (nF d_6))] H := hP
        replace hD : va_D A [((a 0), .inr (8, (fX8 a (nI tx) fp (nI t0) wd (nI we) nu na (nI rd) ts (nI ru) (nI rw) (nI (ca + 1)) df db sd))), (aI k (a 36) 4 (upd fwalks ca p0)), (aI k (a 37) 4 (nF d_6))] := hD
        refine lv_aload_n hx hb dX8_car_70 rfl (lv_at hl 0 rfl) ?_
        refine va_get (D := D) (ci := 8) (v := .int (nI (ca + 1))) (C := RX8) (T := TX8) (N := 44) hx hb hts inX8 hown hK hP 0 rfl rfl 34 (by decide) (hts _ tw_1007) (fun _ h9 => h9) rfl dX8_car_71 ?_
        refine lv_iconst (v := 1) hx hb dX8_car_74 (by decide) ?_
        refine lv_isub hx hb dX8_car_75 ?_
        refine lv_ti (y := (nI ((ca + 1) - 1))) (pk_sub (a := (ca + 1)) (b := 1) (by omega)) ?_
        have hP9 := hP.sub (ws' := [((a 0), .inr (8, (fX8 a (nI tx) fp (nI t0) wd (nI we) nu na (nI rd) ts (nI ru) (nI rw) (nI (ca + 1)) df db sd))), (aI k (a 36) 4 (upd fwalks ca p0)), (aI k (a 37) 4 (nF d_6))]) [0, 1, 2] rfl
        have hD9 := hD.sub (ws' := [((a 0), .inr (8, (fX8 a (nI tx) fp (nI t0) wd (nI we) nu na (nI rd) ts (nI ru) (nI rw) (nI (ca + 1)) df db sd))), (aI k (a 36) 4 (upd fwalks ca p0)), (aI k (a 37) 4 (nF d_6))]) [0, 1, 2] (by decide) rfl
        exact W.iret (v := (nI ((ca + 1) - 1))) hx hb hr (fun t ht hW => ⟨⟨(nI ((ca + 1) - 1)), ((ca + 1), (upd fwalks ca p0), d_6), rfl, ⟨⟨fun _ => ⟨fun _ => ⟨rfl, rfl⟩, fun h => absurd (by omega) h⟩, fun h => absurd ⟨hw_1, hw_2⟩ h⟩, by omega, (by rw [hd_6]; exact up_le hbr (by omega)), ⟨fun _ c _ => rfl, fun h => absurd ⟨⟨hw_1, hw_2⟩, by omega⟩ h⟩⟩, by rw [ht]; exact hP9, hD9⟩, hS.F ht⟩) hS.2.2 dX8_car_76
      · have c_4 := (nI_eq (a := ca) (b := 4) (by omega) (by omega)).mp c_4
        refine lv_sipush (v := (-1004)) hx hb dX8_car_36 (by decide) ?_
        have hP9 := hP.sub (ws' := [((a 0), .inr (8, (fX8 a (nI tx) fp (nI t0) wd (nI we) nu na (nI rd) ts (nI ru) (nI rw) (nI ca) df db sd))), (aI k (a 36) 4 fwalks), (aI k (a 37) 4 (nF br))]) [0, 1, 2] rfl
        have hD9 := hD.sub (ws' := [((a 0), .inr (8, (fX8 a (nI tx) fp (nI t0) wd (nI we) nu na (nI rd) ts (nI ru) (nI rw) (nI ca) df db sd))), (aI k (a 36) 4 fwalks), (aI k (a 37) 4 (nF br))]) [0, 1, 2] (by decide) rfl
        exact W.iret (v := (-1004)) hx hb hr (fun t ht hW => ⟨⟨(-1004), (ca, fwalks, br), rfl, ⟨⟨fun _ => ⟨fun h => absurd h (by omega), fun _ => ⟨rfl, rfl⟩⟩, fun h => absurd ⟨hw_1, hw_2⟩ h⟩, by omega, hbr, ⟨fun h => absurd h.2 (by omega), fun _ _ _ => rfl⟩⟩, by rw [ht]; exact hP9, hD9⟩, hS.F ht⟩) hS.2.2 dX8_car_39
    · refine lv_if_ne (tgt := 28) hx hb dX8_car_21 (by decide) (fun h => absurd (by decide) h) (fun _ => ?_)
      refine lv_sipush (v := (-1002)) hx hb dX8_car_24 (by decide) ?_
      have hP9 := hP.sub (ws' := [((a 0), .inr (8, (fX8 a (nI tx) fp (nI t0) wd (nI we) nu na (nI rd) ts (nI ru) (nI rw) (nI ca) df db sd))), (aI k (a 36) 4 fwalks), (aI k (a 37) 4 (nF br))]) [0, 1, 2] rfl
      have hD9 := hD.sub (ws' := [((a 0), .inr (8, (fX8 a (nI tx) fp (nI t0) wd (nI we) nu na (nI rd) ts (nI ru) (nI rw) (nI ca) df db sd))), (aI k (a 36) 4 fwalks), (aI k (a 37) 4 (nF br))]) [0, 1, 2] (by decide) rfl
      exact W.iret (v := (-1002)) hx hb hr (fun t ht hW => ⟨⟨(-1002), (ca, fwalks, br), rfl, ⟨⟨fun h => absurd h.2 hw_2, fun _ => ⟨rfl, rfl⟩⟩, by omega, hbr, ⟨fun h => absurd h.1.2 hw_2, fun _ _ _ => rfl⟩⟩, by rw [ht]; exact hP9, hD9⟩, hS.F ht⟩) hS.2.2 dX8_car_27
  · refine lv_if_eq (tgt := 24) hx hb dX8_car_9 (by decide) (fun _ => ?_) (fun h => absurd (by decide) h)
    refine lv_sipush (v := (-1002)) hx hb dX8_car_24 (by decide) ?_
    have hP9 := hP.sub (ws' := [((a 0), .inr (8, (fX8 a (nI tx) fp (nI t0) wd (nI we) nu na (nI rd) ts (nI ru) (nI rw) (nI ca) df db sd))), (aI k (a 36) 4 fwalks), (aI k (a 37) 4 (nF br))]) [0, 1, 2] rfl
    have hD9 := hD.sub (ws' := [((a 0), .inr (8, (fX8 a (nI tx) fp (nI t0) wd (nI we) nu na (nI rd) ts (nI ru) (nI rw) (nI ca) df db sd))), (aI k (a 36) 4 fwalks), (aI k (a 37) 4 (nF br))]) [0, 1, 2] (by decide) rfl
    exact W.iret (v := (-1002)) hx hb hr (fun t ht hW => ⟨⟨(-1002), (ca, fwalks, br), rfl, ⟨⟨fun h => absurd h.1 hw_1, fun _ => ⟨rfl, rfl⟩⟩, by omega, hbr, ⟨fun h => absurd h.1.1 hw_1, fun _ _ _ => rfl⟩⟩, by rw [ht]; exact hP9, hD9⟩, hS.F ht⟩) hS.2.2 dX8_car_27


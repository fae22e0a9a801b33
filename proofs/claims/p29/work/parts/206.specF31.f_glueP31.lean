theorem f_glueP31 : True := trivial
/-! places: the first free door from a bar on, or the garage -/
def plF (n L : Nat) : Nat → Nat → Nat
  | 0, _ => n
  | k + 1, b => if L / 2 ^ b % 2 = 1 then b else plF n L k (b + 1)
def plc (n L b : Nat) : Nat := plF n L (n - b) b
theorem pl_out {n L b : Nat} (h : ¬ b < n) : plc n L b = n := by
  unfold plc
  rw [show n - b = 0 by omega]
  rfl
theorem pl_y {n L b : Nat} (h : b < n) (hb : L / 2 ^ b % 2 = 1) : plc n L b = b := by
  unfold plc
  rw [show n - b = (n - (b + 1)) + 1 by omega]
  exact if_pos hb
theorem pl_n {n L b : Nat} (h : b < n) (hb : ¬ L / 2 ^ b % 2 = 1) : plc n L b = plc n L (b + 1) := by
  unfold plc
  rw [show n - b = (n - (b + 1)) + 1 by omega]
  exact if_neg hb
theorem pl_all {n L : Nat} : ∀ k b, n - b = k → plc n L b ≤ n ∧ (plc n L b < n → b ≤ plc n L b ∧ L / 2 ^ plc n L b % 2 = 1) := by
  intro k
  induction k with
  | zero =>
    intro b h
    rw [pl_out (by omega)]
    exact ⟨Nat.le_refl n, fun h => absurd h (Nat.lt_irrefl n)⟩
  | succ k ih =>
    intro b h
    by_cases c : L / 2 ^ b % 2 = 1
    · rw [pl_y (by omega) c]
      exact ⟨by omega, fun _ => ⟨Nat.le_refl b, c⟩⟩
    · rw [pl_n (by omega) c]
      obtain ⟨h1, h2⟩ := ih (b + 1) (by omega)
      exact ⟨h1, fun q => ⟨by have := (h2 q).1; omega, (h2 q).2⟩⟩
theorem pl_le {n L b : Nat} : plc n L b ≤ n := (pl_all (n - b) b rfl).1
/-- a set without one of its doors -/
def rmv (L z : Nat) : Nat := L &&& (2 ^ 32 - (2 ^ z + 1))
theorem rmv_le {L z : Nat} : rmv L z ≤ L := Nat.and_le_left
theorem not24 : ∀ z, z < 25 → ((1 : Int32) <<< (nI z &&& 31)) ^^^ (-1) = nI (2 ^ 32 - (2 ^ z + 1)) := by decide +kernel
theorem rm_and {L z : Nat} (hz : z ≤ 24) : nI L &&& (((1 : Int32) <<< (nI z &&& 31)) ^^^ (-1)) = nI (rmv L z) := by
  rw [not24 z (by omega), nI_and]
  rfl
theorem rmv_n {L n : Nat} (hn : n ≤ 24) (h : L < 2 ^ n) : rmv L n = L := by
  apply Nat.eq_of_testBit_eq
  intro i
  unfold rmv
  have h2 : 2 ^ n < 2 ^ 32 := Nat.pow_lt_pow_right (by omega) (by omega)
  rw [Nat.testBit_and, Nat.testBit_two_pow_sub_succ h2, Nat.testBit_two_pow]
  rcases Nat.lt_or_ge i n with c | c
  · rw [decide_eq_true (show i < 32 by omega), decide_eq_false (show ¬ n = i by omega)]
    simp
  · rw [Nat.testBit_lt_two_pow (Nat.lt_of_lt_of_le h (Nat.pow_le_pow_right (n := 2) (by omega) c))]
    simp
def LF (n : Nat) (br : Nat → Nat) (S : Nat) : Nat → Nat
  | 0 => S
  | c + 1 => rmv (LF n br S c) (plc n (LF n br S c) (br c))
theorem LF_le {n S : Nat} {br : Nat → Nat} : ∀ c, LF n br S c ≤ S := by
  intro c
  induction c with
  | zero => exact Nat.le_refl S
  | succ c ih => exact Nat.le_trans rmv_le ih
theorem LF_congr {n S : Nat} {a b : Nat → Nat} : ∀ c, (∀ j, j < c → a j = b j) → LF n a S c = LF n b S c := by
  intro c
  induction c with
  | zero => intro _; rfl
  | succ c ih =>
    intro h
    show rmv (LF n a S c) (plc n (LF n a S c) (a c)) = rmv (LF n b S c) (plc n (LF n b S c) (b c))
    rw [ih (fun j hj => h j (by omega)), h c (by omega)]
/-! the best bar -/
def isBst (n : Nat) (C : Nat → Int32) (own b : Nat) : Prop := b ≤ n ∧ (∀ a, a ≤ n → C b ≤ C a) ∧ (b = own ∨ (C b < C own ∧ ∀ a, a < b → C b < C a))
theorem i_lle {a b : Int32} (h : a < b) (g : b ≤ a) : False := absurd g (Int32.not_le.mpr h)
theorem isBst_u {n own a b : Nat} {C : Nat → Int32} (ho : own ≤ n) (h : isBst n C own a) (g : isBst n C own b) : a = b := by
  obtain ⟨h1, h2, h3⟩ := h
  obtain ⟨g1, g2, g3⟩ := g
  rcases h3 with h3 | ⟨h3, h4⟩
  · rcases g3 with g3 | ⟨g3, g4⟩
    · rw [h3, g3]
    · rw [h3] at h2
      exact (i_lle g3 (h2 b g1)).elim
  · rcases g3 with g3 | ⟨g3, g4⟩
    · rw [g3] at g2
      exact (i_lle h3 (g2 a h1)).elim
    · rcases Nat.lt_trichotomy a b with c | c | c
      · exact (i_lle (g4 a c) (h2 b g1)).elim
      · exact c
      · exact (i_lle (h4 b c) (g2 a h1)).elim
def amF (C : Nat → Int32) : Nat → Nat
  | 0 => 0
  | k + 1 => if C (k + 1) < C (amF C k) then k + 1 else amF C k
theorem amF_all {C : Nat → Int32} : ∀ k, amF C k ≤ k ∧ (∀ a, a ≤ k → C (amF C k) ≤ C a) ∧ ∀ a, a < amF C k → C (amF C k) < C a := by
  intro k
  induction k with
  | zero =>
    refine ⟨Nat.le_refl 0, fun a ha => ?_, fun a ha => absurd ha (Nat.not_lt_zero a)⟩
    rw [show a = 0 by omega]
    exact Int32.le_refl _
  | succ k ih =>
    obtain ⟨h1, h2, h3⟩ := ih
    by_cases c : C (k + 1) < C (amF C k)
    · rw [show amF C (k + 1) = k + 1 from if_pos c]
      refine ⟨Nat.le_refl _, fun a ha => ?_, fun a ha => Int32.lt_of_lt_of_le c (h2 a (by omega))⟩
      rcases (show a = k + 1 ∨ a ≤ k by omega) with e | e
      · rw [e]
        exact Int32.le_refl _
      · exact Int32.le_of_lt (Int32.lt_of_lt_of_le c (h2 a e))
    · rw [show amF C (k + 1) = amF C k from if_neg c]
      refine ⟨by omega, fun a ha => ?_, h3⟩
      rcases (show a = k + 1 ∨ a ≤ k by omega) with e | e
      · rw [e]
        exact Int32.not_lt.mp c
      · exact h2 a e
def bsF (n : Nat) (C : Nat → Int32) (own : Nat) : Nat := if C (amF C n) < C own then amF C n else own
theorem bsF_is {n own : Nat} {C : Nat → Int32} (ho : own ≤ n) : isBst n C own (bsF n C own) := by
  obtain ⟨h1, h2, h3⟩ := amF_all (C := C) n
  unfold bsF
  by_cases c : C (amF C n) < C own
  · rw [if_pos c]
    exact ⟨h1, h2, .inr ⟨c, h3⟩⟩
  · rw [if_neg c]
    exact ⟨ho, fun a ha => Int32.le_trans (Int32.not_lt.mp c) (h2 a ha), .inl rfl⟩
theorem bsF_of {n own b : Nat} {C : Nat → Int32} (ho : own ≤ n) (h : isBst n C own b) : b = bsF n C own := isBst_u ho h (bsF_is ho)
theorem bsF_le {n own : Nat} {C : Nat → Int32} (ho : own ≤ n) : bsF n C own ≤ n := (bsF_is ho).1
theorem bsF_own {n own : Nat} {C : Nat → Int32} (ho : own ≤ n) : bsF n C own = own ↔ ∀ a, a ≤ n → C own ≤ C a := by
  constructor
  · intro h a ha
    have k := (bsF_is (C := C) ho).2.1 a ha
    rw [h] at k
    exact k
  · intro h
    exact (bsF_of ho ⟨ho, h, .inl rfl⟩).symm
theorem bsF_congr {n own : Nat} {C E : Nat → Int32} (ho : own ≤ n) (h : ∀ a, a ≤ n → C a = E a) : bsF n C own = bsF n E own := by
  obtain ⟨h1, h2, h3⟩ := bsF_is (C := C) ho
  refine bsF_of ho ⟨h1, fun a ha => ?_, ?_⟩
  · rw [← h _ h1, ← h a ha]
    exact h2 a ha
  · rcases h3 with e | ⟨e1, e2⟩
    · exact .inl e
    · refine .inr ⟨by rw [← h _ h1, ← h _ ho]; exact e1, fun a ha => ?_⟩
      rw [← h _ h1, ← h a (by omega)]
      exact e2 a ha
/-! at rest; turns; what all pay -/
def kb (n S : Nat) (K : Nat → Nat → Int32) (br : Nat → Nat) (c b : Nat) : Int32 := K c (plc n (LF n br S c) b)
def rsP (n cc S : Nat) (K : Nat → Nat → Int32) (br : Nat → Nat) : Prop := ∀ c, c < cc → ∀ a, a ≤ n → kb n S K br c (br c) ≤ kb n S K br c a
theorem kb_congr {n S c b : Nat} {K J : Nat → Nat → Int32} {x y : Nat → Nat} (hK : ∀ i, i ≤ n → K c i = J c i) (h : ∀ j, j < c → x j = y j) : kb n S K x c b = kb n S J y c b := by
  unfold kb
  rw [LF_congr c h, hK _ pl_le]
theorem rsP_congr {n cc S : Nat} {K J : Nat → Nat → Int32} {x y : Nat → Nat} (hK : ∀ c, c < cc → ∀ i, i ≤ n → K c i = J c i) (h : ∀ j, j < cc → x j = y j) (r : rsP n cc S K x) : rsP n cc S J y := by
  intro c hc a ha
  have k := r c hc a ha
  rw [kb_congr (hK c hc) (fun j hj => h j (by omega)), kb_congr (b := a) (hK c hc) (fun j hj => h j (by omega)), h c hc] at k
  exact k
def tnB (n S : Nat) (K : Nat → Nat → Int32) (br : Nat → Nat) : Nat → Nat → Nat
  | 0, j => br j
  | c + 1, j => if j = c then bsF n (kb n S K (tnB n S K br c) c) (tnB n S K br c c) else tnB n S K br c j
theorem tnB_hi {n S : Nat} {K : Nat → Nat → Int32} {br : Nat → Nat} : ∀ c j, c ≤ j → tnB n S K br c j = br j := by
  intro c
  induction c with
  | zero => intro j _; rfl
  | succ c ih =>
    intro j h
    show (if j = c then _ else tnB n S K br c j) = br j
    rw [if_neg (by omega)]
    exact ih j (by omega)
theorem tnB_le {n S : Nat} {K : Nat → Nat → Int32} {br : Nat → Nat} (h : ∀ j, j < 4 → br j ≤ n) : ∀ c, c ≤ 4 → ∀ j, j < 4 → tnB n S K br c j ≤ n := by
  intro c
  induction c with
  | zero => intro _ j hj; exact h j hj
  | succ c ih =>
    intro hc j hj
    show (if j = c then _ else tnB n S K br c j) ≤ n
    by_cases e : j = c
    · rw [if_pos e]
      exact bsF_le (ih (by omega) c (by omega))
    · rw [if_neg e]
      exact ih (by omega) j hj
def eq4 (a b : Nat → Nat) : Prop := ∀ j, j < 4 → a j = b j
theorem eq4_r (a : Nat → Nat) : eq4 a a := fun _ _ => rfl
theorem eq4_s {a b : Nat → Nat} (h : eq4 a b) : eq4 b a := fun j hj => (h j hj).symm
theorem eq4_t {a b c : Nat → Nat} (h : eq4 a b) (g : eq4 b c) : eq4 a c := fun j hj => (h j hj).trans (g j hj)
theorem tnB_congr {n S : Nat} {K J : Nat → Nat → Int32} {x y : Nat → Nat} (hx : ∀ j, j < 4 → x j ≤ n) (h : eq4 x y) : ∀ c, c ≤ 4 → (∀ k, k < c → ∀ i, i ≤ n → K k i = J k i) → eq4 (tnB n S K x c) (tnB n S J y c) := by
  intro c
  induction c with
  | zero => intro _ _; exact h
  | succ c ih =>
    intro hc hK j hj
    have e := ih (by omega) (fun k hk => hK k (by omega))
    show (if j = c then bsF n (kb n S K (tnB n S K x c) c) (tnB n S K x c c) else tnB n S K x c j) = (if j = c then bsF n (kb n S J (tnB n S J y c) c) (tnB n S J y c c) else tnB n S J y c j)
    by_cases q : j = c
    · rw [if_pos q, if_pos q, ← e c (by omega)]
      exact bsF_congr (tnB_le hx c (by omega) c (by omega)) (fun a ha => kb_congr (hK c (by omega)) (fun j hj => e j (by omega)))
    · rw [if_neg q, if_neg q]
      exact e j hj
/-- turn by turn, until a whole one changes none -/
def gtP (T : (Nat → Nat) → Nat → Nat) : Nat → (Nat → Nat) → (Nat → Nat) → Prop
  | 0, b, z => eq4 z b
  | k + 1, b, z => (eq4 (T b) b → eq4 z b) ∧ (¬ eq4 (T b) b → gtP T k (T b) z)
theorem gtP_fun {T U : (Nat → Nat) → Nat → Nat} {P : (Nat → Nat) → Prop} (hP : ∀ b, P b → P (T b)) (hT : ∀ a b, P a → eq4 a b → eq4 (T a) (U b)) : ∀ k a b z y, P a → eq4 a b → gtP T k a z → gtP U k b y → eq4 z y := by
  intro k
  induction k with
  | zero => intro a b z y _ h h1 h2; exact eq4_t h1 (eq4_t h (eq4_s h2))
  | succ k ih =>
    intro a b z y pa h h1 h2
    have e := hT a b pa h
    rcases Classical.em (eq4 (T a) a) with c | c
    · have c2 : eq4 (U b) b := eq4_t (eq4_s e) (eq4_t c h)
      exact eq4_t (h1.1 c) (eq4_t h (eq4_s (h2.1 c2)))
    · have c2 : ¬ eq4 (U b) b := fun q => c (eq4_t e (eq4_t q (eq4_s h)))
      exact ih _ _ _ _ (hP a pa) e (h1.2 c) (h2.2 c2)
theorem gtP_le {T : (Nat → Nat) → Nat → Nat} {P : (Nat → Nat) → Prop} (hP : ∀ b, P b → P (T b)) (hE : ∀ a b, P a → eq4 a b → P b) : ∀ k a z, P a → gtP T k a z → P z := by
  intro k
  induction k with
  | zero => intro a z pa h; exact hE a z pa (eq4_s h)
  | succ k ih =>
    intro a z pa h
    rcases Classical.em (eq4 (T a) a) with c | c
    · exact hE a z pa (eq4_s (h.1 c))
    · exact ih _ _ (hP a pa) (h.2 c)
def smF (n S : Nat) (K : Nat → Nat → Int32) (br : Nat → Nat) : Nat → Int32
  | 0 => 0
  | c + 1 => smF n S K br c + kb n S K br c (br c)
theorem smF_congr {n S : Nat} {K J : Nat → Nat → Int32} {x y : Nat → Nat} : ∀ c, (∀ k, k < c → ∀ i, i ≤ n → K k i = J k i) → (∀ j, j < c → x j = y j) → smF n S K x c = smF n S J y c := by
  intro c
  induction c with
  | zero => intro _ _; rfl
  | succ c ih =>
    intro hK h
    show smF n S K x c + kb n S K x c (x c) = smF n S J y c + kb n S J y c (y c)
    rw [ih (fun k hk => hK k (by omega)) (fun j hj => h j (by omega)), kb_congr (hK c (by omega)) (fun j hj => h j (by omega)), h c (by omega)]
/-! costs of places, of both sides -/
def pC (d : SDt) (w : Int32) (i : Nat) : Int32 := if i < d.1 then pTakeBy d w 0 i + nI i * pPass d else pGar d 0 + nI d.1 * pPass d
def pD (d : SDt) (w pd pe : Int32) (i : Nat) : Int32 := pC d w i + (if pd ≤ nI i ∧ i < d.1 then pe else 0)
def kx (pco : Nat → Int32) (pd pe : Int32) (n c i : Nat) : Int32 := pco (c * 25 + i) + (if pd ≤ nI i ∧ i < n then pe else 0)
theorem kx_y {pco : Nat → Int32} {pd pe : Int32} {n c i : Nat} (h : pd ≤ nI i) (g : i < n) : pco (c * 25 + i) + pe = kx pco pd pe n c i := by
  unfold kx
  rw [if_pos ⟨h, g⟩]
theorem kx_n {pco : Nat → Int32} {pd pe : Int32} {n c i : Nat} (h : ¬ (pd ≤ nI i ∧ i < n)) : pco (c * 25 + i) + 0 = kx pco pd pe n c i := by
  unfold kx
  rw [if_neg h]
/-- the class's way to the best bar: from the last one back -/
def bbI (n : Nat) (C : Nat → Int32) (q be : Nat) (le : Int32) : Prop := q ≤ be ∧ be ≤ n ∧ le = C be ∧ (∀ a, q ≤ a → a ≤ n → C be ≤ C a) ∧ ∀ a, q ≤ a → a < be → C be < C a
theorem bb_0 {n : Nat} {C : Nat → Int32} {le : Int32} (h : le = C n) : bbI n C n n le := by
  refine ⟨Nat.le_refl n, Nat.le_refl n, h, fun a h1 h2 => ?_, fun a h1 h2 => absurd h2 (by omega)⟩
  rw [show a = n by omega]
  exact Int32.le_refl _
theorem bb_y {n q be : Nat} {C : Nat → Int32} {le x : Int32} (h : bbI n C (q + 1) be le) (hx : x = C q) (c : x ≤ le) : bbI n C q q x := by
  obtain ⟨h1, h2, h3, h4, h5⟩ := h
  rw [hx, h3] at c
  refine ⟨Nat.le_refl q, by omega, hx, fun a a1 a2 => ?_, fun a a1 a2 => absurd a2 (by omega)⟩
  rcases (show a = q ∨ q + 1 ≤ a by omega) with e | e
  · rw [e]
    exact Int32.le_refl _
  · exact Int32.le_trans c (h4 a e a2)
theorem bb_n {n q be : Nat} {C : Nat → Int32} {le x : Int32} (h : bbI n C (q + 1) be le) (hx : x = C q) (c : le < x) : bbI n C q be le := by
  obtain ⟨h1, h2, h3, h4, h5⟩ := h
  rw [hx, h3] at c
  refine ⟨by omega, h2, h3, fun a a1 a2 => ?_, fun a a1 a2 => ?_⟩
  · rcases (show a = q ∨ q + 1 ≤ a by omega) with e | e
    · rw [e]
      exact Int32.le_of_lt c
    · exact h4 a e a2
  · rcases (show a = q ∨ q + 1 ≤ a by omega) with e | e
    · rw [e]
      exact c
    · exact h5 a e a2
theorem bb_own {n be own : Nat} {C : Nat → Int32} {le x : Int32} (h : bbI n C 0 be le) (ho : own ≤ n) (hx : x = C own) (c : x = le) : isBst n C own own := by
  obtain ⟨h1, h2, h3, h4, h5⟩ := h
  refine ⟨ho, fun a ha => ?_, .inl rfl⟩
  rw [← hx, c, h3]
  exact h4 a (Nat.zero_le a) ha
theorem bb_oth {n be own : Nat} {C : Nat → Int32} {le x : Int32} (h : bbI n C 0 be le) (ho : own ≤ n) (hx : x = C own) (c : ¬ x = le) : isBst n C own be := by
  obtain ⟨h1, h2, h3, h4, h5⟩ := h
  refine ⟨h2, fun a ha => h4 a (Nat.zero_le a) ha, .inr ⟨?_, fun a ha => h5 a (Nat.zero_le a) ha⟩⟩
  rcases Int32.lt_or_le (C be) (C own) with q | q
  · exact q
  · exact absurd (by rw [hx, h3]; exact Int32.le_antisymm q (h4 own (Nat.zero_le own) ho)) c
/-- the reference's way: from the first one on -/
def bmI (C : Nat → Int32) (own bb be : Nat) (le : Int32) : Prop := le = C be ∧ C be ≤ C own ∧ (∀ a, a < bb → C be ≤ C a) ∧ (be = own ∨ (be < bb ∧ C be < C own ∧ ∀ a, a < be → C be < C a))
theorem bm_0 {C : Nat → Int32} {own : Nat} {le : Int32} (h : le = C own) : bmI C own 0 own le := ⟨h, Int32.le_refl _, fun a ha => absurd ha (Nat.not_lt_zero a), .inl rfl⟩
theorem bm_y {C : Nat → Int32} {own bb be : Nat} {le x : Int32} (h : bmI C own bb be le) (hx : x = C bb) (c : x < le) : bmI C own (bb + 1) bb x := by
  obtain ⟨h1, h2, h3, h4⟩ := h
  rw [hx, h1] at c
  refine ⟨hx, Int32.le_of_lt (Int32.lt_of_lt_of_le c h2), fun a ha => ?_, .inr ⟨by omega, Int32.lt_of_lt_of_le c h2, fun a ha => Int32.lt_of_lt_of_le c (h3 a ha)⟩⟩
  rcases (show a = bb ∨ a < bb by omega) with e | e
  · rw [e]
    exact Int32.le_refl _
  · exact Int32.le_of_lt (Int32.lt_of_lt_of_le c (h3 a e))
theorem bm_n {C : Nat → Int32} {own bb be : Nat} {le x : Int32} (h : bmI C own bb be le) (hx : x = C bb) (c : le ≤ x) : bmI C own (bb + 1) be le := by
  obtain ⟨h1, h2, h3, h4⟩ := h
  rw [hx, h1] at c
  refine ⟨h1, h2, fun a ha => ?_, h4.imp id (fun q => ⟨by omega, q.2⟩)⟩
  rcases (show a = bb ∨ a < bb by omega) with e | e
  · rw [e]
    exact c
  · exact h3 a e
theorem bm_e {C : Nat → Int32} {own n be : Nat} {le : Int32} (h : bmI C own (n + 1) be le) (ho : own ≤ n) : isBst n C own be := by
  obtain ⟨h1, h2, h3, h4⟩ := h
  rcases h4 with e | ⟨e1, e2, e3⟩
  · exact ⟨by omega, fun a ha => h3 a (by omega), .inl e⟩
  · exact ⟨by omega, fun a ha => h3 a (by omega), .inr ⟨e2, e3⟩⟩
/-- at rest, car by car -/
theorem rs_of {n S c own b : Nat} {C : Nat → Int32} (ho : own ≤ n) (hb : b = bsF n C own) : (¬ C b < C own) ↔ ∀ a, a ≤ n → C own ≤ C a := by
  have h := bsF_is (C := C) ho
  rw [← hb] at h
  constructor
  · intro q a ha
    exact Int32.le_trans (Int32.not_lt.mp q) (h.2.1 a ha)
  · intro q z
    exact i_lle z (q b h.1)
theorem rsx {n S c lf zb : Nat} {K : Nat → Nat → Int32} {br : Nat → Nat} {r1 r2 : Int32} (hl : lf = LF n br S c) (ho : br c ≤ n) (hz : zb = bsF n (fun b => K c (plc n lf b)) (br c)) (h1 : r1 = K c (plc n lf zb)) (h2 : r2 = K c (plc n lf (br c))) : (¬ r1 < r2) ↔ ∀ a, a ≤ n → kb n S K br c (br c) ≤ kb n S K br c a := by
  subst hl
  rw [h1, h2]
  exact rs_of (S := S) (c := c) (C := fun b => K c (plc n (LF n br S c) b)) ho hz
theorem tn_step {n S c lf zb : Nat} {K : Nat → Nat → Int32} {x b2 b3 : Nat → Nat} (hc : c < 4) (he : eq4 b2 (tnB n S K x c)) (hl : lf = LF n b2 S c) (hz : zb = bsF n (fun b => K c (plc n lf b)) (b2 c)) (h3 : ∀ j, b3 j = if j = c then zb else b2 j) : eq4 b3 (tnB n S K x (c + 1)) ∧ rmv lf (plc n lf (b3 c)) = LF n b3 S (c + 1) := by
  have e1 : LF n b3 S c = LF n b2 S c := LF_congr c (fun j hj => by rw [h3 j, if_neg (by omega)])
  have e2 : LF n (tnB n S K x c) S c = LF n b2 S c := LF_congr c (fun j hj => (he j (by omega)).symm)
  constructor
  · intro j hj
    show b3 j = if j = c then bsF n (kb n S K (tnB n S K x c) c) (tnB n S K x c c) else tnB n S K x c j
    rw [h3 j]
    by_cases q : j = c
    · rw [if_pos q, if_pos q, hz, hl, ← he c hc]
      unfold kb
      rw [e2]
    · rw [if_neg q, if_neg q]
      exact he j hj
  · show rmv lf (plc n lf (b3 c)) = rmv (LF n b3 S c) (plc n (LF n b3 S c) (b3 c))
    rw [e1, hl]
theorem tn_at {n S c lf zb : Nat} {K : Nat → Nat → Int32} {x b2 b3 : Nat → Nat} (hc : c < 4) (h : eq4 b3 (tnB n S K x (c + 1))) (h3 : ∀ j, b3 j = if j = c then zb else b2 j) : tnB n S K x (c + 1) c = zb := by
  rw [← h c hc, h3 c, if_pos rfl]
theorem tn_lo {n S c j : Nat} {K : Nat → Nat → Int32} {x : Nat → Nat} (h : j < c) : tnB n S K x (c + 1) j = tnB n S K x c j := if_neg (by omega)
def chP (n S : Nat) (K : Nat → Nat → Int32) (x : Nat → Nat) (c : Nat) (ch : Int32) : Prop := (ch = 1 ∧ ∃ j, j < c ∧ ¬ tnB n S K x c j = x j) ∨ (ch = 0 ∧ ∀ j, j < c → tnB n S K x c j = x j)
theorem ch_st {n S c zb : Nat} {K : Nat → Nat → Int32} {x b2 : Nat → Nat} {ch : Int32} (hc : c < 4) (he : eq4 b2 (tnB n S K x c)) (ht : tnB n S K x (c + 1) c = zb) (h : chP n S K x c ch) : (zb = b2 c → chP n S K x (c + 1) ch) ∧ (¬ zb = b2 c → chP n S K x (c + 1) 1) := by
  have e0 : b2 c = x c := (he c hc).trans (tnB_hi c c (Nat.le_refl c))
  refine ⟨fun q => ?_, fun q => .inl ⟨rfl, c, by omega, by rw [ht, ← e0]; exact q⟩⟩
  rcases h with ⟨h1, j, h2, h3⟩ | ⟨h1, h2⟩
  · exact .inl ⟨h1, j, by omega, by rw [tn_lo h2]; exact h3⟩
  · refine .inr ⟨h1, fun j hj => ?_⟩
    rcases (show j = c ∨ j < c by omega) with e | e
    · rw [e, ht, q, e0]
    · rw [tn_lo e]
      exact h2 j e
theorem ch_end {n S cc : Nat} {K : Nat → Nat → Int32} {x : Nat → Nat} {ch : Int32} (hc : cc ≤ 4) (h : chP n S K x cc ch) : (ch = 1 ∧ ¬ eq4 (tnB n S K x cc) x) ∨ (ch = 0 ∧ eq4 (tnB n S K x cc) x) := by
  rcases h with ⟨h1, j, h2, h3⟩ | ⟨h1, h2⟩
  · exact .inl ⟨h1, fun q => h3 (q j (by omega))⟩
  · refine .inr ⟨h1, fun j hj => ?_⟩
    rcases Nat.lt_or_ge j cc with e | e
    · exact h2 j e
    · exact tnB_hi cc j e
def le4 (n : Nat) (b : Nat → Nat) : Prop := ∀ j, j < 4 → b j ≤ n
theorem le4_e {n : Nat} {a b : Nat → Nat} (h : le4 n a) (e : eq4 a b) : le4 n b := fun j hj => by rw [← e j hj]; exact h j hj
def tnT (n S : Nat) (K : Nat → Nat → Int32) (cc : Nat) : (Nat → Nat) → Nat → Nat := fun b => tnB n S K b cc
theorem tnT_le {n S cc : Nat} {K : Nat → Nat → Int32} (hc : cc ≤ 4) : ∀ b, le4 n b → le4 n (tnT n S K cc b) := fun b h => tnB_le h cc hc
theorem tnT_e {n S cc : Nat} {K J : Nat → Nat → Int32} (hc : cc ≤ 4) (hK : ∀ k, k < cc → ∀ i, i ≤ n → K k i = J k i) : ∀ a b, le4 n a → eq4 a b → eq4 (tnT n S K cc a) (tnT n S J cc b) := fun _ _ h e => tnB_congr h e cc hc hK
theorem gtP_e {T : (Nat → Nat) → Nat → Nat} {P : (Nat → Nat) → Prop} (hP : ∀ b, P b → P (T b)) (hT : ∀ a b, P a → eq4 a b → eq4 (T a) (T b)) : ∀ k a b z, P a → eq4 a b → gtP T k a z → gtP T k b z := by
  intro k
  induction k with
  | zero => intro a b z _ e h; exact eq4_t h e
  | succ k ih =>
    intro a b z pa e h
    have et := hT a b pa e
    refine ⟨fun q => eq4_t (h.1 (eq4_t et (eq4_t q (eq4_s e)))) e, fun q => ih _ _ _ (hP a pa) et (h.2 (fun w => q (eq4_t (eq4_s et) (eq4_t w e))))⟩
theorem gt_stop {T : (Nat → Nat) → Nat → Nat} {k : Nat} {b z : Nat → Nat} (h : eq4 (T b) b) (e : eq4 z (T b)) : gtP T (k + 1) b z := ⟨fun _ => eq4_t e h, fun q => absurd h q⟩
theorem gt_more {T : (Nat → Nat) → Nat → Nat} {P : (Nat → Nat) → Prop} {k : Nat} {b y z : Nat → Nat} (hP : ∀ b, P b → P (T b)) (hT : ∀ a b, P a → eq4 a b → eq4 (T a) (T b)) (pb : P b) (py : P y) (h : ¬ eq4 (T b) b) (e : eq4 y (T b)) (g : gtP T k y z) : gtP T (k + 1) b z := ⟨fun q => absurd q h, fun _ => gtP_e hP hT k y (T b) z py e g⟩
/-! all bars at rest: how many -/
def vc (a b : Nat) : Nat → Nat := fun j => if j = 0 then a else if j = 1 then b else 0
noncomputable def rsB (P : Prop) : Nat := @ite Nat P (Classical.propDecidable P) 1 0
theorem rsB_1 {P : Prop} (h : P) : rsB P = 1 := by
  unfold rsB
  exact if_pos h
theorem rsB_0 {P : Prop} (h : ¬ P) : rsB P = 0 := by
  unfold rsB
  exact if_neg h
def crI (f : Nat → Nat) : Nat → Nat
  | 0 => 0
  | k + 1 => crI f k + f k
def crO (f : Nat → Nat → Nat) (B : Nat) : Nat → Nat
  | 0 => 0
  | k + 1 => crO f B k + crI (f k) B
noncomputable def rsA (n cc S : Nat) (K : Nat → Nat → Int32) (a b : Nat) : Nat := rsB (rsP n cc S K (vc a b))
theorem rsA_congr {n cc S : Nat} {K J : Nat → Nat → Int32} (hK : ∀ c, c < cc → ∀ i, i ≤ n → K c i = J c i) : rsA n cc S K = rsA n cc S J := by
  funext a b
  unfold rsA
  rcases Classical.em (rsP n cc S K (vc a b)) with h | h
  · rw [rsB_1 h, rsB_1 (rsP_congr hK (fun _ _ => rfl) h)]
  · rw [rsB_0 h, rsB_0 (fun q => h (rsP_congr (fun c hc i hi => (hK c hc i hi).symm) (fun _ _ => rfl) q))]
/-! the price that mends -/
def meF (AL : Nat → Int32) : Nat → Int32 × Nat
  | 0 => (0, 0)
  | p + 1 => if p = 0 ∨ AL p < (meF AL p).1 then (AL p, p) else meF AL p
theorem meF_congr {f g : Nat → Int32} : ∀ k, (∀ q, q < k → f q = g q) → meF f k = meF g k := by
  intro k
  induction k with
  | zero => intro _; rfl
  | succ k ih =>
    intro h
    show (if k = 0 ∨ f k < (meF f k).1 then (f k, k) else meF f k) = (if k = 0 ∨ g k < (meF g k).1 then (g k, k) else meF g k)
    rw [ih (fun q hq => h q (by omega)), h k (by omega)]
def alP (n S cc : Nat) (K K0 : Nat → Nat → Int32) (x : Int32) : Prop := ∃ z, gtP (tnT n S K cc) 50 (fun _ => 0) z ∧ x = smF n S K0 z cc
theorem alP_fun {n S cc : Nat} {K K0 J J0 : Nat → Nat → Int32} {x y : Int32} (hc : cc ≤ 4) (hK : ∀ k, k < cc → ∀ i, i ≤ n → K k i = J k i) (h0 : ∀ k, k < cc → ∀ i, i ≤ n → K0 k i = J0 k i) (h : alP n S cc K K0 x) (g : alP n S cc J J0 y) : x = y := by
  obtain ⟨z, h1, h2⟩ := h
  obtain ⟨w, g1, g2⟩ := g
  have e := gtP_fun (tnT_le hc) (tnT_e (K := K) (J := J) hc hK) 50 (fun _ => 0) (fun _ => 0) z w (fun _ _ => Nat.zero_le n) (eq4_r _) h1 g1
  rw [h2, g2]
  exact smF_congr cc h0 (fun j hj => e j (by omega))
def mdP (n S cc : Nat) (K : Nat → Nat → Nat → Int32) (K0 : Nat → Nat → Int32) (r : Int32) : Prop := ∃ AL : Nat → Int32, (∀ q, q < 21 → alP n S cc (K q) K0 (AL q)) ∧ r = nI (meF AL 21).2
theorem mdP_fun {n S cc : Nat} {K J : Nat → Nat → Nat → Int32} {K0 J0 : Nat → Nat → Int32} {x y : Int32} (hc : cc ≤ 4) (hK : ∀ q, q < 21 → ∀ k, k < cc → ∀ i, i ≤ n → K q k i = J q k i) (h0 : ∀ k, k < cc → ∀ i, i ≤ n → K0 k i = J0 k i) (h : mdP n S cc K K0 x) (g : mdP n S cc J J0 y) : x = y := by
  obtain ⟨f, h1, h2⟩ := h
  obtain ⟨f', g1, g2⟩ := g
  rw [h2, g2, meF_congr 21 (fun q hq => alP_fun hc (hK q hq) h0 (h1 q hq) (g1 q hq))]
def mdI (n S cc : Nat) (K : Nat → Nat → Nat → Int32) (K0 : Nat → Nat → Int32) (p : Nat) (le : Int32) (me : Nat) : Prop := ∃ AL : Nat → Int32, (∀ q, q < p → alP n S cc (K q) K0 (AL q)) ∧ (le, me) = meF AL p
theorem md_0 {n S cc : Nat} {K : Nat → Nat → Nat → Int32} {K0 : Nat → Nat → Int32} : mdI n S cc K K0 0 0 0 := ⟨fun _ => 0, fun q hq => absurd hq (Nat.not_lt_zero q), rfl⟩
theorem md_ext {n S cc p : Nat} {K : Nat → Nat → Nat → Int32} {K0 : Nat → Nat → Int32} {le x : Int32} {me : Nat} (h : mdI n S cc K K0 p le me) (hx : alP n S cc (K p) K0 x) : ∃ AL : Nat → Int32, (∀ q, q < p + 1 → alP n S cc (K q) K0 (AL q)) ∧ (le, me) = meF AL p ∧ AL p = x := by
  obtain ⟨f, h1, h2⟩ := h
  refine ⟨fun q => if q = p then x else f q, fun q hq => ?_, ?_, if_pos rfl⟩
  · by_cases e : q = p
    · show alP n S cc (K q) K0 (if q = p then x else f q)
      rw [if_pos e, e]
      exact hx
    · show alP n S cc (K q) K0 (if q = p then x else f q)
      rw [if_neg e]
      exact h1 q (by omega)
  · rw [h2]
    exact meF_congr p (fun q hq => (if_neg (show ¬ q = p by omega)).symm)
theorem md_y {n S cc p : Nat} {K : Nat → Nat → Nat → Int32} {K0 : Nat → Nat → Int32} {le x : Int32} {me : Nat} (h : mdI n S cc K K0 p le me) (hx : alP n S cc (K p) K0 x) (c : p = 0 ∨ x < le) : mdI n S cc K K0 (p + 1) x p := by
  obtain ⟨f, h1, h2, h3⟩ := md_ext h hx
  refine ⟨f, h1, ?_⟩
  show (x, p) = if p = 0 ∨ f p < (meF f p).1 then (f p, p) else meF f p
  rw [if_pos (by rw [← h2, h3]; exact c), h3]
theorem md_n {n S cc p : Nat} {K : Nat → Nat → Nat → Int32} {K0 : Nat → Nat → Int32} {le x : Int32} {me : Nat} (h : mdI n S cc K K0 p le me) (hx : alP n S cc (K p) K0 x) (c0 : ¬ p = 0) (c : le ≤ x) : mdI n S cc K K0 (p + 1) le me := by
  obtain ⟨f, h1, h2, h3⟩ := md_ext h hx
  refine ⟨f, h1, ?_⟩
  show (le, me) = if p = 0 ∨ f p < (meF f p).1 then (f p, p) else meF f p
  rw [if_neg (by rw [← h2, h3]; exact fun q => q.elim c0 (fun q => absurd c (Int32.not_le.mpr q))), h2]
theorem md_e {n S cc : Nat} {K : Nat → Nat → Nat → Int32} {K0 : Nat → Nat → Int32} {le : Int32} {me : Nat} (h : mdI n S cc K K0 21 le me) : mdP n S cc K K0 (nI me) := by
  obtain ⟨f, h1, h2⟩ := h
  exact ⟨f, h1, by rw [← h2]⟩
def crM (t cc n : Nat) : Nat := if t < cc then n else 0
theorem pC_i {d : SDt} {w : Int32} {i : Nat} (h : i < d.1) : pTakeBy d w 0 i + nI i * pPass d = pC d w i := (if_pos h).symm
theorem pC_n {d : SDt} {w : Int32} : pGar d 0 + nI d.1 * pPass d = pC d w d.1 := (if_neg (Nat.lt_irrefl _)).symm
theorem kx_D {d : SDt} {w : Nat → Int32} {pco : Nat → Int32} {pd pe : Int32} {n cc : Nat} (hn : d.1 = n) (h : ∀ k, k < cc → ∀ i, i ≤ n → pco (k * 25 + i) = pC d (w k) i) : ∀ k, k < cc → ∀ i, i ≤ n → kx pco pd pe n k i = pD d (w k) pd pe i := by
  intro k hk i hi
  unfold kx pD
  rw [h k hk i hi, hn]
/-! answers: all bars at rest, the price that mends -/
def stO (d : SDt) (p1 : Int32) : Prop := ∃ S : Nat, S < 2 ^ d.1 ∧ p1 = nI S
def arA (p1 : Int32) (cc : Nat) (w : Nat → Int32) (d : SDt) (r : Int32) : Prop := (¬ stO d p1 → r = -1002) ∧ ∀ S : Nat, S < 2 ^ d.1 → p1 = nI S → (2 < cc → r = -1003) ∧ (¬ 2 < cc → r = nI (crO (rsA d.1 cc S (fun c i => pD d (w c) 0 0 i)) (crM 1 cc d.1 + 1) (crM 0 cc d.1 + 1)))
theorem arA_fun {p1 : Int32} {cc : Nat} {w v : Nat → Int32} (d : SDt) (x y : Int32) (hw : ∀ c, c < 4 → w c = v c) (h : arA p1 cc w d x) (g : arA p1 cc v d y) : x = y := by
  rcases Classical.em (stO d p1) with ⟨S, h1, h2⟩ | c
  · rcases Classical.em (2 < cc) with q | q
    · exact ((h.2 S h1 h2).1 q).trans ((g.2 S h1 h2).1 q).symm
    · rw [(h.2 S h1 h2).2 q, (g.2 S h1 h2).2 q, rsA_congr (J := fun c i => pD d (v c) 0 0 i) (fun c hc i hi => by show pD d (w c) 0 0 i = pD d (v c) 0 0 i; rw [hw c (by omega)])]
  · exact (h.1 c).trans (g.1 c).symm
theorem ar_o {p1 : Int32} {cc : Nat} {w : Nat → Int32} {d : SDt} (h : ¬ stO d p1) : arA p1 cc w d (-1002) := ⟨fun _ => rfl, fun S h1 h2 => absurd ⟨S, h1, h2⟩ h⟩
theorem ar_n {S cc : Nat} {w : Nat → Int32} {d : SDt} (h : S < 2 ^ d.1) (hc : 2 < cc) : arA (nI S) cc w d (-1003) := ⟨fun q => absurd ⟨S, h, rfl⟩ q, fun _ _ _ => ⟨fun _ => rfl, fun q => absurd hc q⟩⟩
theorem pw31 {n : Nat} (h : n ≤ 24) : 2 ^ n ≤ 16777216 := Nat.pow_le_pow_right (n := 2) (by omega) h
theorem ar_i {S cc n : Nat} {w pco : Nat → Int32} {d : SDt} {r : Int32} (hn : d.1 = n) (h24 : n ≤ 24) (h : S < 2 ^ n) (hc : ¬ 2 < cc) (hp : ∀ k, k < cc → ∀ i, i ≤ n → pco (k * 25 + i) = pC d (w k) i) (hr : r = nI (crO (rsA n cc S (kx pco 0 0 n)) (crM 1 cc n + 1) (crM 0 cc n + 1))) : arA (nI S) cc w d r := by
  have hb := pw31 h24
  refine ⟨fun q => absurd ⟨S, by rw [hn]; exact h, rfl⟩ q, fun T h1 h2 => ⟨fun q => absurd q hc, fun _ => ?_⟩⟩
  rw [hn] at h1
  have e := nI_inj (by omega) (by omega) h2
  subst e
  rw [hr, hn, rsA_congr (J := fun c i => pD d (w c) 0 0 i) (kx_D hn hp)]
theorem gtP_tr {T U : (Nat → Nat) → Nat → Nat} {P : (Nat → Nat) → Prop} (hP : ∀ b, P b → P (T b)) (hT : ∀ a b, P a → eq4 a b → eq4 (T a) (U b)) : ∀ k a b z, P a → eq4 a b → gtP T k a z → gtP U k b z := by
  intro k
  induction k with
  | zero => intro a b z _ e h; exact eq4_t h e
  | succ k ih =>
    intro a b z pa e h
    have et := hT a b pa e
    refine ⟨fun q => eq4_t (h.1 (eq4_t et (eq4_t q (eq4_s e)))) e, fun q => ih _ _ _ (hP a pa) et (h.2 (fun w => q (eq4_t (eq4_s et) (eq4_t w e))))⟩
theorem mdP_tr {n S cc : Nat} {K J : Nat → Nat → Nat → Int32} {K0 J0 : Nat → Nat → Int32} {x : Int32} (hc : cc ≤ 4) (hK : ∀ q, q < 21 → ∀ k, k < cc → ∀ i, i ≤ n → K q k i = J q k i) (h0 : ∀ k, k < cc → ∀ i, i ≤ n → K0 k i = J0 k i) (h : mdP n S cc K K0 x) : mdP n S cc J J0 x := by
  obtain ⟨f, h1, h2⟩ := h
  refine ⟨f, fun q hq => ?_, h2⟩
  obtain ⟨z, z1, z2⟩ := h1 q hq
  exact ⟨z, gtP_tr (tnT_le hc) (tnT_e hc (hK q hq)) 50 _ _ z (fun _ _ => Nat.zero_le n) (eq4_r _) z1, z2.trans (smF_congr cc h0 (fun _ _ => rfl))⟩
def mdA (p1 : Int32) (cc : Nat) (w : Nat → Int32) (d : SDt) (x : Nat) (r : Int32) : Prop := (¬ stO d p1 → r = -1002) ∧ ∀ S : Nat, S < 2 ^ d.1 → p1 = nI S → mdP d.1 S cc (fun q c i => pD d (w c) (nI x) (nI (10 * q * 1000)) i) (fun c i => pC d (w c) i) r
theorem mdA_fun {p1 : Int32} {cc : Nat} {w v : Nat → Int32} (hc : cc ≤ 4) (hw : ∀ c, c < 4 → w c = v c) (d : SDt) (i : Nat) (x y : Int32) (h : mdA p1 cc w d i x) (g : mdA p1 cc v d i y) : x = y := by
  rcases Classical.em (stO d p1) with ⟨S, h1, h2⟩ | c
  · exact mdP_fun hc (fun q _ k hk i hi => by rw [hw k (by omega)]) (fun k hk i hi => by rw [hw k (by omega)]) (h.2 S h1 h2) (g.2 S h1 h2)
  · exact (h.1 c).trans (g.1 c).symm
theorem md_o {p1 : Int32} {cc x : Nat} {w : Nat → Int32} {d : SDt} (h : ¬ stO d p1) : mdA p1 cc w d x (-1002) := ⟨fun _ => rfl, fun S h1 h2 => absurd ⟨S, h1, h2⟩ h⟩
theorem md_i {S cc n x : Nat} {w pco : Nat → Int32} {d : SDt} {r : Int32} (hn : d.1 = n) (h24 : n ≤ 24) (hc : cc ≤ 4) (h : S < 2 ^ n) (hp : ∀ k, k < cc → ∀ i, i ≤ n → pco (k * 25 + i) = pC d (w k) i) (hr : mdP n S cc (fun q => kx pco (nI x) (nI (10 * q * 1000)) n) (fun c i => pco (c * 25 + i)) r) : mdA (nI S) cc w d x r := by
  have hb := pw31 h24
  refine ⟨fun q => absurd ⟨S, by rw [hn]; exact h, rfl⟩ q, fun T h1 h2 => ?_⟩
  rw [hn] at h1 ⊢
  have e := nI_inj (by omega) (by omega) h2
  subst e
  exact mdP_tr hc (fun q _ => kx_D hn hp) hp hr
theorem shl25 : ∀ k, k < 25 → (1 : Int32) <<< (nI k &&& 31) = nI (2 ^ k) := by decide


set_option maxHeartbeats 4000000 in
set_option maxRecDepth 100000 in
theorem y_costAt (l : Launch) (D : va_G) (k : Nat → ClassId) (st : Nat → Nat) (lo : Nat) (c0 : Nat) (z0 : Nat) (z1 : Nat) (z2 : Nat) (z3 : Nat) (pn : Nat) (pf : Nat) (pd : Int32) (pe : Int32) (pco : Nat → Int32) (cn : Nat) (pq : Nat) (hcn : cn < 4) (hpq : pq ≤ 24) : CRi l D k st lo yX1_costAt cX1_costAt 3 (some .int) ({ frames := 0, cells := 0, slots := 0, locals := 0 }) [.ref z0, .int (nI cn), .int (nI pq)] [(z0, .inr (1, (fX1 c0 z1 z2 z3 (nI pn) (nI pf) pd pe))), (aI k z2 100 pco)] (fun r => r = pco (cn * 25 + pq)) := by
  intro sz
  refine Met.ofW (cc := cX1_costAt) (maxL := 3) (ret := (some .int)) (by decide) rfl ?_
  intro p e s m args below meth c s₁ B hml hv
  obtain ⟨rfl, hsz, hlo, hP, hK, hDL, hZ⟩ := hv
  have hx := B.exec
  have hb := B.bytes
  have hr := B.returns
  have hts := WS_ts B.pre
  have hown : s.vm.findClass RX1 = some m.cls := findClass_of_methodNamed B.named
  have hlocks := B.notSynchronized
  subst hsz
  have hA : ∀ q : Nat, s.heap.size ≤ q → (fun q : Nat => s.heap.size ≤ q) q := fun _ h => h
  have hAlo : ∀ q : Nat, (fun q : Nat => s.heap.size ≤ q) q → lo ≤ q := fun q h => Nat.le_trans hlo h
  have hS : va_S (fun q : Nat => s.heap.size ≤ q) s.heap s.heap [] := va_S.rf
  have hl := lv_entry ([.ref z0, .int (nI cn), .int (nI pq)]) (n := 3) (Nat.le_of_ble_eq_true rfl)
  rw [lg_entry_eq]
  generalize (lg_sl ([.ref z0, .int (nI cn), .int (nI pq)]) ++ List.replicate (3 - (lg_sl ([.ref z0, .int (nI cn), .int (nI pq)])).length) Slot.unset).toArray = ls at hl ⊢
  have hl : lv_has ls 3 [(0, .ref z0), (1, .int (nI cn)), (2, .int (nI pq))] := hl
  refine lv_aload_n hx hb dX1_costAt_0 rfl (lv_at hl 0 rfl) ?_
  refine va_get (D := D) (ci := 1) (v := .ref z2) (C := RX1) (T := TX1) (N := 8) hx hb hts inX1 hown hK hP 0 rfl rfl 2 (by decide) (hts _ tw_238) (fun _ h9 => h9) rfl dX1_costAt_1 ?_
  refine lv_iload_n hx hb dX1_costAt_4 rfl (lv_at hl 1 rfl) ?_
  refine lv_bipush (v := 25) hx hb dX1_costAt_5 (by decide) ?_
  refine lv_imul hx hb dX1_costAt_7 ?_
  refine lv_ti (y := (nI (cn * 25))) (pk_mul cn 25) ?_
  refine lv_iload_n hx hb dX1_costAt_8 rfl (lv_at hl 2 rfl) ?_
  refine lv_iadd hx hb dX1_costAt_9 ?_
  refine lv_ti (y := (nI (cn * 25 + pq))) (nI_add (cn * 25) pq) ?_
  refine va_iald hx hb hK hP 1 1 rfl rfl (vp_in_nI (by omega) (by decide)) dX1_costAt_10 ?_
  refine lv_ti (y := (pco (cn * 25 + pq))) (by rw [nI_clamp (by omega)]) ?_
  exact W.iret (v := (pco (cn * 25 + pq))) hx hb hr (fun t ht hW => ⟨⟨(pco (cn * 25 + pq)), (), rfl, rfl, trivial⟩, hS.F ht⟩) hS.2.2 dX1_costAt_11


set_option maxHeartbeats 4000000 in
set_option maxRecDepth 100000 in
theorem y_paidAt (l : Launch) (D : va_G) (k : Nat → ClassId) (st : Nat → Nat) (lo : Nat) (c0 : Nat) (z0 : Nat) (z1 : Nat) (z2 : Nat) (z3 : Nat) (pn : Nat) (pf : Nat) (pd : Int32) (pe : Int32) (pco : Nat → Int32) (cn : Nat) (pq : Nat) (hcn : cn < 4) (hpq : pq ≤ 24) (hpn : pn ≤ 24) : CRi l D k st lo yX1_paidAt cX1_paidAt 4 (some .int) ({ frames := 1, cells := 0, slots := 0, locals := 22 }) [.ref z0, .int (nI cn), .int (nI pq)] [(z0, .inr (1, (fX1 c0 z1 z2 z3 (nI pn) (nI pf) pd pe))), (aI k z2 100 pco)] (fun r => r = kx pco pd pe pn cn pq) := by
  intro sz
  refine Met.ofW (cc := cX1_paidAt) (maxL := 4) (ret := (some .int)) (by decide) rfl ?_
  intro p e s m args below meth c s₁ B hml hv
  obtain ⟨rfl, hsz, hlo, hP, hK, hDL, hZ⟩ := hv
  have hx := B.exec
  have hb := B.bytes
  have hr := B.returns
  have hts := WS_ts B.pre
  have hown : s.vm.findClass RX1 = some m.cls := findClass_of_methodNamed B.named
  have hlocks := B.notSynchronized
  subst hsz
  have hA : ∀ q : Nat, s.heap.size ≤ q → (fun q : Nat => s.heap.size ≤ q) q := fun _ h => h
  have hAlo : ∀ q : Nat, (fun q : Nat => s.heap.size ≤ q) q → lo ≤ q := fun q h => Nat.le_trans hlo h
  have hS : va_S (fun q : Nat => s.heap.size ≤ q) s.heap s.heap [] := va_S.rf
  have hl := lv_entry ([.ref z0, .int (nI cn), .int (nI pq)]) (n := 4) (Nat.le_of_ble_eq_true rfl)
  rw [lg_entry_eq]
  generalize (lg_sl ([.ref z0, .int (nI cn), .int (nI pq)]) ++ List.replicate (4 - (lg_sl ([.ref z0, .int (nI cn), .int (nI pq)])).length) Slot.unset).toArray = ls at hl ⊢
  have hl : lv_has ls 4 [(0, .ref z0), (1, .int (nI cn)), (2, .int (nI pq))] := hl
  refine lv_iload_n hx hb dX1_paidAt_0 rfl (lv_at hl 2 rfl) ?_
  refine lv_aload_n hx hb dX1_paidAt_1 rfl (lv_at hl 0 rfl) ?_
  refine va_get (D := D) (ci := 1) (v := .int pd) (C := RX1) (T := TX1) (N := 8) hx hb hts inX1 hown hK hP 0 rfl rfl 6 (by decide) (hts _ tw_242) (fun _ h9 => h9) rfl dX1_paidAt_2 ?_
  refine lv_icmp_lt (tgt := 20) hx hb dX1_paidAt_5 (by decide) (fun c_1 => ?_) (fun c_1 => ?_)
  · refine lv_iconst (v := 0) hx hb dX1_paidAt_20 (by decide) ?_
    refine lv_istore_n (lv' := [(3, .int 0), (0, .ref z0), (1, .int (nI cn)), (2, .int (nI pq))]) hx hb dX1_paidAt_21 rfl hl (by decide) rfl (fun ls hl => ?_)
    refine lv_aload_n hx hb dX1_paidAt_22 rfl (lv_at hl 1 rfl) ?_
    refine lv_iload_n hx hb dX1_paidAt_23 rfl (lv_at hl 2 rfl) ?_
    refine lv_iload_n hx hb dX1_paidAt_24 rfl (lv_at hl 3 rfl) ?_
    refine ro_i (D := D) (va_runV (As := [.int (nI cn), .int (nI pq)]) (rest := []) ⟨hx, hb, hml, hown, hts⟩ ((y_costAt l D k st lo c0 z0 z1 z2 z3 pn pf pd pe pco cn pq (by first | assumption | omega) (by first | assumption | omega)) s.heap.size) (cwV 2 hts (gV tw_866 tw_843 tw_844 tw_84 tw_845) rfl rfl rfl (by decide +kernel) ⟨Nat.le_of_ble_eq_true rfl, Nat.le_of_ble_eq_true rfl⟩) (pV hS hAlo hlo hP hK hDL hZ [0, 1] (by decide) rfl (ci := 1) (q := (RX1, TX1, 8)) (q0 := 0) rfl rfl) rfl rfl hl.1 rfl (lv_room (Nat.le_of_ble_eq_true rfl)) dX1_paidAt_25 ⟨Nat.le_of_ble_eq_true rfl, Nat.le_of_ble_eq_true rfl⟩) hS hA hP (fun r_2 H locs hw_2 hP hS => ?_)
    try dsimp only at hw_2
    refine lv_iload_n hx hb dX1_paidAt_28 rfl (lv_at hl 0 rfl) ?_
    refine lv_if_eq (tgt := 39) hx hb dX1_paidAt_29 (by decide) (fun _ => ?_) (fun h => absurd (by decide) h)
    refine lv_iconst (v := 0) hx hb dX1_paidAt_39 (by decide) ?_
    refine lv_iadd hx hb dX1_paidAt_40 ?_
    refine lv_topi (fun x_3 ex_3 => ?_)
    exact W.iret (v := x_3) hx hb hr (fun t ht hW => ⟨⟨x_3, (), rfl, (by rw [ex_3, hw_2]; exact kx_n (fun q => absurd q.1 (Int32.not_le.mpr c_1))), trivial⟩, hS.F ht⟩) hS.2.2 dX1_paidAt_41
  · refine lv_iload_n hx hb dX1_paidAt_8 rfl (lv_at hl 2 rfl) ?_
    refine lv_aload_n hx hb dX1_paidAt_9 rfl (lv_at hl 0 rfl) ?_
    refine va_get (D := D) (ci := 1) (v := .int (nI pn)) (C := RX1) (T := TX1) (N := 8) hx hb hts inX1 hown hK hP 0 rfl rfl 4 (by decide) (hts _ tw_240) (fun _ h9 => h9) rfl dX1_paidAt_10 ?_
    refine lv_icmp_ge (tgt := 20) hx hb dX1_paidAt_13 (by decide) (fun c_4 => ?_) (fun c_4 => ?_)
    · have c_4 := (nI_leI (a := pn) (b := pq) (by omega) (by omega)).mp c_4
      refine lv_iconst (v := 0) hx hb dX1_paidAt_20 (by decide) ?_
      refine lv_istore_n (lv' := [(3, .int 0), (0, .ref z0), (1, .int (nI cn)), (2, .int (nI pq))]) hx hb dX1_paidAt_21 rfl hl (by decide) rfl (fun ls hl => ?_)
      refine lv_aload_n hx hb dX1_paidAt_22 rfl (lv_at hl 1 rfl) ?_
      refine lv_iload_n hx hb dX1_paidAt_23 rfl (lv_at hl 2 rfl) ?_
      refine lv_iload_n hx hb dX1_paidAt_24 rfl (lv_at hl 3 rfl) ?_
      refine ro_i (D := D) (va_runV (As := [.int (nI cn), .int (nI pq)]) (rest := []) ⟨hx, hb, hml, hown, hts⟩ ((y_costAt l D k st lo c0 z0 z1 z2 z3 pn pf pd pe pco cn pq (by first | assumption | omega) (by first | assumption | omega)) s.heap.size) (cwV 2 hts (gV tw_866 tw_843 tw_844 tw_84 tw_845) rfl rfl rfl (by decide +kernel) ⟨Nat.le_of_ble_eq_true rfl, Nat.le_of_ble_eq_true rfl⟩) (pV hS hAlo hlo hP hK hDL hZ [0, 1] (by decide) rfl (ci := 1) (q := (RX1, TX1, 8)) (q0 := 0) rfl rfl) rfl rfl hl.1 rfl (lv_room (Nat.le_of_ble_eq_true rfl)) dX1_paidAt_25 ⟨Nat.le_of_ble_eq_true rfl, Nat.le_of_ble_eq_true rfl⟩) hS hA hP (fun r_5 H locs hw_5 hP hS => ?_)
      try dsimp only at hw_5
      refine lv_iload_n hx hb dX1_paidAt_28 rfl (lv_at hl 0 rfl) ?_
      refine lv_if_eq (tgt := 39) hx hb dX1_paidAt_29 (by decide) (fun _ => ?_) (fun h => absurd (by decide) h)
      refine lv_iconst (v := 0) hx hb dX1_paidAt_39 (by decide) ?_
      refine lv_iadd hx hb dX1_paidAt_40 ?_
      refine lv_topi (fun x_6 ex_6 => ?_)
      exact W.iret (v := x_6) hx hb hr (fun t ht hW => ⟨⟨x_6, (), rfl, (by rw [ex_6, hw_5]; exact kx_n (fun q => absurd q.2 (by omega))), trivial⟩, hS.F ht⟩) hS.2.2 dX1_paidAt_41
    · have c_4 : ¬ (pn ≤ pq) := fun h => c_4 ((nI_leI (a := pn) (b := pq) (by omega) (by omega)).mpr h)
      refine lv_iconst (v := 1) hx hb dX1_paidAt_16 (by decide) ?_
      refine lv_goto (tgt := 21) hx hb dX1_paidAt_17 (by decide) ?_
      refine lv_istore_n (lv' := [(3, .int 1), (0, .ref z0), (1, .int (nI cn)), (2, .int (nI pq))]) hx hb dX1_paidAt_21 rfl hl (by decide) rfl (fun ls hl => ?_)
      refine lv_aload_n hx hb dX1_paidAt_22 rfl (lv_at hl 1 rfl) ?_
      refine lv_iload_n hx hb dX1_paidAt_23 rfl (lv_at hl 2 rfl) ?_
      refine lv_iload_n hx hb dX1_paidAt_24 rfl (lv_at hl 3 rfl) ?_
      refine ro_i (D := D) (va_runV (As := [.int (nI cn), .int (nI pq)]) (rest := []) ⟨hx, hb, hml, hown, hts⟩ ((y_costAt l D k st lo c0 z0 z1 z2 z3 pn pf pd pe pco cn pq (by first | assumption | omega) (by first | assumption | omega)) s.heap.size) (cwV 2 hts (gV tw_866 tw_843 tw_844 tw_84 tw_845) rfl rfl rfl (by decide +kernel) ⟨Nat.le_of_ble_eq_true rfl, Nat.le_of_ble_eq_true rfl⟩) (pV hS hAlo hlo hP hK hDL hZ [0, 1] (by decide) rfl (ci := 1) (q := (RX1, TX1, 8)) (q0 := 0) rfl rfl) rfl rfl hl.1 rfl (lv_room (Nat.le_of_ble_eq_true rfl)) dX1_paidAt_25 ⟨Nat.le_of_ble_eq_true rfl, Nat.le_of_ble_eq_true rfl⟩) hS hA hP (fun r_7 H locs hw_7 hP hS => ?_)
      try dsimp only at hw_7
      refine lv_iload_n hx hb dX1_paidAt_28 rfl (lv_at hl 0 rfl) ?_
      refine lv_if_eq (tgt := 39) hx hb dX1_paidAt_29 (by decide) (fun h => absurd h (by decide)) (fun _ => ?_)
      refine lv_aload_n hx hb dX1_paidAt_32 rfl (lv_at hl 1 rfl) ?_
      refine va_get (D := D) (ci := 1) (v := .int pe) (C := RX1) (T := TX1) (N := 8) hx hb hts inX1 hown hK hP 0 rfl rfl 7 (by decide) (hts _ tw_243) (fun _ h9 => h9) rfl dX1_paidAt_33 ?_
      refine lv_goto (tgt := 40) hx hb dX1_paidAt_36 (by decide) ?_
      refine lv_iadd hx hb dX1_paidAt_40 ?_
      refine lv_topi (fun x_8 ex_8 => ?_)
      exact W.iret (v := x_8) hx hb hr (fun t ht hW => ⟨⟨x_8, (), rfl, (by rw [ex_8, hw_7]; exact kx_y (Int32.not_lt.mp c_1) (by omega)), trivial⟩, hS.F ht⟩) hS.2.2 dX1_paidAt_41


set_option maxHeartbeats 4000000 in
set_option maxRecDepth 100000 in
theorem y_placeFrom (l : Launch) (D : va_G) (k : Nat → ClassId) (st : Nat → Nat) (lo : Nat) (c0 : Nat) (z0 : Nat) (z1 : Nat) (z2 : Nat) (z3 : Nat) (pn : Nat) (pf : Nat) (pd : Int32) (pe : Int32) (bb : Nat) (lf : Nat) (hpn : pn ≤ 24) (hbb : bb ≤ 24) (hlf : lf < 16777216) : CRi l D k st lo yX1_placeFrom cX1_placeFrom 4 (some .int) ({ frames := 0, cells := 0, slots := 0, locals := 0 }) [.ref z0, .int (nI bb), .int (nI lf)] [(z0, .inr (1, (fX1 c0 z1 z2 z3 (nI pn) (nI pf) pd pe)))] (fun r => r = nI (plc pn lf bb)) := by
  intro sz
  refine Met.ofW (cc := cX1_placeFrom) (maxL := 4) (ret := (some .int)) (by decide) rfl ?_
  intro p e s m args below meth c s₁ B hml hv
  obtain ⟨rfl, hsz, hlo, hP, hK, hDL, hZ⟩ := hv
  have hx := B.exec
  have hb := B.bytes
  have hr := B.returns
  have hts := WS_ts B.pre
  have hown : s.vm.findClass RX1 = some m.cls := findClass_of_methodNamed B.named
  have hlocks := B.notSynchronized
  subst hsz
  have hA : ∀ q : Nat, s.heap.size ≤ q → (fun q : Nat => s.heap.size ≤ q) q := fun _ h => h
  have hAlo : ∀ q : Nat, (fun q : Nat => s.heap.size ≤ q) q → lo ≤ q := fun q h => Nat.le_trans hlo h
  have hS : va_S (fun q : Nat => s.heap.size ≤ q) s.heap s.heap [] := va_S.rf
  have hl := lv_entry ([.ref z0, .int (nI bb), .int (nI lf)]) (n := 4) (Nat.le_of_ble_eq_true rfl)
  rw [lg_entry_eq]
  generalize (lg_sl ([.ref z0, .int (nI bb), .int (nI lf)]) ++ List.replicate (4 - (lg_sl ([.ref z0, .int (nI bb), .int (nI lf)])).length) Slot.unset).toArray = ls at hl ⊢
  have hl : lv_has ls 4 [(0, .ref z0), (1, .int (nI bb)), (2, .int (nI lf))] := hl
  refine lv_iload_n hx hb dX1_placeFrom_0 rfl (lv_at hl 1 rfl) ?_
  refine lv_istore_n (lv' := [(3, .int (nI bb)), (0, .ref z0), (1, .int (nI bb)), (2, .int (nI lf))]) hx hb dX1_placeFrom_1 rfl hl (by decide) rfl (fun ls hl => ?_)
  refine W_loop (σ := Nat) (fun (n_ : Nat) (ii_1 : Nat) (H : Heap) (locs : List Loc) (ls : Array Slot) => n_ = 25 - ii_1 ∧ (ii_1 ≤ 24 ∧ plc pn lf ii_1 = plc pn lf bb) ∧ va_P D classes [(z0, .inr (1, (fX1 c0 z1 z2 z3 (nI pn) (nI pf) pd pe)))] H ∧ va_S (fun q : Nat => s.heap.size ≤ q) s.heap H locs ∧ lv_has ls 4 [(3, .int (nI ii_1)), (0, .ref z0), (1, .int (nI bb)), (2, .int (nI lf))]) (fun n_1 x_1 H locs ls hI ih_1 => ?_) _ bb ⟨rfl, ⟨by omega, rfl⟩, hP, hS, (lv_sub hl [0, 1, 2, 3] rfl)⟩
  obtain ⟨ii_1, rfl⟩ : ∃ z, z = x_1 := ⟨_, rfl⟩
  obtain ⟨hm_1, hv_1, hP, hS, hl⟩ := hI
  subst hm_1
  refine lv_iload_n hx hb dX1_placeFrom_2 rfl (lv_at hl 0 rfl) ?_
  refine lv_aload_n hx hb dX1_placeFrom_3 rfl (lv_at hl 1 rfl) ?_
  refine va_get (D := D) (ci := 1) (v := .int (nI pn)) (C := RX1) (T := TX1) (N := 8) hx hb hts inX1 hown hK hP 0 rfl rfl 4 (by decide) (hts _ tw_240) (fun _ h9 => h9) rfl dX1_placeFrom_4 ?_
  refine lv_icmp_ge (tgt := 26) hx hb dX1_placeFrom_7 (by decide) (fun c_2 => ?_) (fun c_2 => ?_)
  · have c_2 := (nI_leI (a := pn) (b := ii_1) (by omega) (by omega)).mp c_2
    refine lv_aload_n hx hb dX1_placeFrom_26 rfl (lv_at hl 1 rfl) ?_
    refine va_get (D := D) (ci := 1) (v := .int (nI pn)) (C := RX1) (T := TX1) (N := 8) hx hb hts inX1 hown hK hP 0 rfl rfl 4 (by decide) (hts _ tw_240) (fun _ h9 => h9) rfl dX1_placeFrom_27 ?_
    exact W.iret (v := (nI pn)) hx hb hr (fun t ht hW => ⟨⟨(nI pn), (), rfl, (congrArg nI ((pl_out (by omega)).symm.trans hv_1.2)), trivial⟩, hS.F ht⟩) hS.2.2 dX1_placeFrom_30
  · have c_2 : ¬ (pn ≤ ii_1) := fun h => c_2 ((nI_leI (a := pn) (b := ii_1) (by omega) (by omega)).mpr h)
    refine lv_iload_n hx hb dX1_placeFrom_10 rfl (lv_at hl 3 rfl) ?_
    refine lv_iload_n hx hb dX1_placeFrom_11 rfl (lv_at hl 0 rfl) ?_
    refine lv_ishr hx hb dX1_placeFrom_12 ?_
    refine lv_ti (y := (nI (lf / 2 ^ ii_1))) (shr24 (by omega) (by omega)) ?_
    refine lv_iconst (v := 1) hx hb dX1_placeFrom_13 (by decide) ?_
    refine lv_iand hx hb dX1_placeFrom_14 ?_
    refine lv_ti (y := (nI ((lf / 2 ^ ii_1) % 2))) and_1 ?_
    refine lv_if_eq (tgt := 20) hx hb dX1_placeFrom_15 (by decide) (fun c_3 => ?_) (fun c_3 => ?_)
    · have c_3 := (nI_eq (a := ((lf / 2 ^ ii_1) % 2)) (b := 0) (by omega) (by omega)).mp c_3
      refine lv_iinc (v := (nI (ii_1 + 1))) (lv' := [(3, .int (nI (ii_1 + 1))), (0, .ref z0), (1, .int (nI bb)), (2, .int (nI lf))]) hx hb dX1_placeFrom_20 hl (k := 0) rfl (nI_add ii_1 1) (by decide) rfl (fun ls hl => ?_)
      refine lv_goto (tgt := 2) hx hb dX1_placeFrom_23 (by decide) ?_
      exact ih_1 _ (ii_1 + 1) _ _ _ (by omega) ⟨rfl, ⟨by omega, (pl_n (by omega) (by omega)).symm.trans hv_1.2⟩, hP, hS, (lv_sub hl [0, 1, 2, 3] rfl)⟩
    · have c_3 : ¬ (((lf / 2 ^ ii_1) % 2) = 0) := fun h => c_3 ((nI_eq (a := ((lf / 2 ^ ii_1) % 2)) (b := 0) (by omega) (by omega)).mpr h)
      refine lv_iload_n hx hb dX1_placeFrom_18 rfl (lv_at hl 0 rfl) ?_
      exact W.iret (v := (nI ii_1)) hx hb hr (fun t ht hW => ⟨⟨(nI ii_1), (), rfl, (congrArg nI ((pl_y (by omega) (by omega)).symm.trans hv_1.2)), trivial⟩, hS.F ht⟩) hS.2.2 dX1_placeFrom_19


set_option maxHeartbeats 4000000 in
set_option maxRecDepth 100000 in
theorem y_leftBehind (l : Launch) (D : va_G) (k : Nat → ClassId) (st : Nat → Nat) (lo : Nat) (c0 : Nat) (z0 : Nat) (z1 : Nat) (z2 : Nat) (z3 : Nat) (pn : Nat) (pf : Nat) (pd : Int32) (pe : Int32) (pb : Nat → Nat) (cn : Nat) (lf : Nat) (hpn : pn ≤ 24) (hcn : cn < 4) (hpb : ∀ j, pb j ≤ 24) (hlf : lf < 16777216) : CRi l D k st lo yX1_leftBehind cX1_leftBehind 3 (some .int) ({ frames := 1, cells := 0, slots := 0, locals := 23 }) [.ref z0, .int (nI cn), .int (nI lf)] [(z0, .inr (1, (fX1 c0 z1 z2 z3 (nI pn) (nI pf) pd pe))), (aI k z1 4 (nF pb))] (fun r => r = nI (rmv lf (plc pn lf (pb cn)))) := by
  intro sz
  refine Met.ofW (cc := cX1_leftBehind) (maxL := 3) (ret := (some .int)) (by decide) rfl ?_
  intro p e s m args below meth c s₁ B hml hv
  obtain ⟨rfl, hsz, hlo, hP, hK, hDL, hZ⟩ := hv
  have hx := B.exec
  have hb := B.bytes
  have hr := B.returns
  have hts := WS_ts B.pre
  have hown : s.vm.findClass RX1 = some m.cls := findClass_of_methodNamed B.named
  have hlocks := B.notSynchronized
  subst hsz
  have hA : ∀ q : Nat, s.heap.size ≤ q → (fun q : Nat => s.heap.size ≤ q) q := fun _ h => h
  have hAlo : ∀ q : Nat, (fun q : Nat => s.heap.size ≤ q) q → lo ≤ q := fun q h => Nat.le_trans hlo h
  have hS : va_S (fun q : Nat => s.heap.size ≤ q) s.heap s.heap [] := va_S.rf
  have hl := lv_entry ([.ref z0, .int (nI cn), .int (nI lf)]) (n := 3) (Nat.le_of_ble_eq_true rfl)
  rw [lg_entry_eq]
  generalize (lg_sl ([.ref z0, .int (nI cn), .int (nI lf)]) ++ List.replicate (3 - (lg_sl ([.ref z0, .int (nI cn), .int (nI lf)])).length) Slot.unset).toArray = ls at hl ⊢
  have hl : lv_has ls 3 [(0, .ref z0), (1, .int (nI cn)), (2, .int (nI lf))] := hl
  refine lv_iload_n hx hb dX1_leftBehind_0 rfl (lv_at hl 2 rfl) ?_
  refine lv_iconst (v := 1) hx hb dX1_leftBehind_1 (by decide) ?_
  refine lv_aload_n hx hb dX1_leftBehind_2 rfl (lv_at hl 0 rfl) ?_
  refine lv_aload_n hx hb dX1_leftBehind_3 rfl (lv_at hl 0 rfl) ?_
  refine va_get (D := D) (ci := 1) (v := .ref z1) (C := RX1) (T := TX1) (N := 8) hx hb hts inX1 hown hK hP 0 rfl rfl 1 (by decide) (hts _ tw_236) (fun _ h9 => h9) rfl dX1_leftBehind_4 ?_
  refine lv_iload_n hx hb dX1_leftBehind_7 rfl (lv_at hl 1 rfl) ?_
  refine va_iald hx hb hK hP 1 1 rfl rfl (vp_in_nI (by omega) (by decide)) dX1_leftBehind_8 ?_
  have hq_1 := hpb cn
  refine lv_ti (y := (nI (pb cn))) (by rw [nI_clamp (by omega)]; rfl) ?_
  refine lv_iload_n hx hb dX1_leftBehind_9 rfl (lv_at hl 2 rfl) ?_
  refine ro_i (D := D) (va_runV (As := [.int (nI (pb cn)), .int (nI lf)]) (rest := [.int 1, .int (nI lf)]) ⟨hx, hb, hml, hown, hts⟩ ((y_placeFrom l D k st lo c0 z0 z1 z2 z3 pn pf pd pe (pb cn) lf (by first | assumption | omega) (by first | assumption | omega) (by first | assumption | omega)) s.heap.size) (cwV 2 hts (gV tw_838 tw_840 tw_20 tw_84 tw_841) rfl rfl rfl (by decide +kernel) ⟨Nat.le_of_ble_eq_true rfl, Nat.le_of_ble_eq_true rfl⟩) (pV hS hAlo hlo hP hK hDL hZ [0] (by decide) rfl (ci := 1) (q := (RX1, TX1, 8)) (q0 := 0) rfl rfl) rfl rfl hl.1 rfl (lv_room (Nat.le_of_ble_eq_true rfl)) dX1_leftBehind_10 ⟨Nat.le_of_ble_eq_true rfl, Nat.le_of_ble_eq_true rfl⟩) hS hA hP (fun r_2 H locs hw_2 hP hS => ?_)
  try dsimp only at hw_2
  obtain ⟨zp_3, ezp_3⟩ : ∃ z : Nat, z = plc pn lf (pb cn) := ⟨_, rfl⟩
  rw [← ezp_3] at hw_2
  subst hw_2
  have hzp_3 : zp_3 ≤ pn := by rw [ezp_3]; exact pl_le
  refine lv_ishl hx hb dX1_leftBehind_13 ?_
  refine lv_topi (fun x_4 ex_4 => ?_)
  refine lv_iconst (v := (-1)) hx hb dX1_leftBehind_14 (by decide) ?_
  refine lv_ixor hx hb dX1_leftBehind_15 ?_
  refine lv_topi (fun x_5 ex_5 => ?_)
  refine lv_iand hx hb dX1_leftBehind_16 ?_
  refine lv_topi (fun x_6 ex_6 => ?_)
  exact W.iret (v := x_6) hx hb hr (fun t ht hW => ⟨⟨x_6, (), rfl, (by rw [ex_6, ex_5, ex_4, ← ezp_3]; exact rm_and (by omega)), trivial⟩, hS.F ht⟩) hS.2.2 dX1_leftBehind_17


set_option maxHeartbeats 4000000 in
set_option maxRecDepth 100000 in
theorem y_bestBar (l : Launch) (D : va_G) (k : Nat → ClassId) (st : Nat → Nat) (lo : Nat) (c0 : Nat) (z0 : Nat) (z1 : Nat) (z2 : Nat) (z3 : Nat) (pn : Nat) (pf : Nat) (pd : Int32) (pe : Int32) (pb : Nat → Nat) (pco : Nat → Int32) (cn : Nat) (lf : Nat) (hpn : pn ≤ 24) (hcn : cn < 4) (hpb : ∀ j, pb j ≤ 24) (hlf : lf < 16777216) (hob : pb cn ≤ pn) : CRi l D k st lo yX1_bestBar cX1_bestBar 8 (some .int) ({ frames := 2, cells := 0, slots := 0, locals := 45 }) [.ref z0, .int (nI cn), .int (nI lf)] [(z0, .inr (1, (fX1 c0 z1 z2 z3 (nI pn) (nI pf) pd pe))), (aI k z1 4 (nF pb)), (aI k z2 100 pco)] (fun r => r = nI (bsF pn (fun b => kx pco pd pe pn cn (plc pn lf b)) (pb cn))) := by
  intro sz
  refine Met.ofW (cc := cX1_bestBar) (maxL := 8) (ret := (some .int)) (by decide) rfl ?_
  intro p e s m args below meth c s₁ B hml hv
  obtain ⟨rfl, hsz, hlo, hP, hK, hDL, hZ⟩ := hv
  have hx := B.exec
  have hb := B.bytes
  have hr := B.returns
  have hts := WS_ts B.pre
  have hown : s.vm.findClass RX1 = some m.cls := findClass_of_methodNamed B.named
  have hlocks := B.notSynchronized
  subst hsz
  have hA : ∀ q : Nat, s.heap.size ≤ q → (fun q : Nat => s.heap.size ≤ q) q := fun _ h => h
  have hAlo : ∀ q : Nat, (fun q : Nat => s.heap.size ≤ q) q → lo ≤ q := fun q h => Nat.le_trans hlo h
  have hS : va_S (fun q : Nat => s.heap.size ≤ q) s.heap s.heap [] := va_S.rf
  have hl := lv_entry ([.ref z0, .int (nI cn), .int (nI lf)]) (n := 8) (Nat.le_of_ble_eq_true rfl)
  rw [lg_entry_eq]
  generalize (lg_sl ([.ref z0, .int (nI cn), .int (nI lf)]) ++ List.replicate (8 - (lg_sl ([.ref z0, .int (nI cn), .int (nI lf)])).length) Slot.unset).toArray = ls at hl ⊢
  have hl : lv_has ls 8 [(0, .ref z0), (1, .int (nI cn)), (2, .int (nI lf))] := hl
  refine lv_aload_n hx hb dX1_bestBar_0 rfl (lv_at hl 0 rfl) ?_
  refine va_get (D := D) (ci := 1) (v := .int (nI pn)) (C := RX1) (T := TX1) (N := 8) hx hb hts inX1 hown hK hP 0 rfl rfl 4 (by decide) (hts _ tw_240) (fun _ h9 => h9) rfl dX1_bestBar_1 ?_
  refine lv_istore_n (lv' := [(3, .int (nI pn)), (0, .ref z0), (1, .int (nI cn)), (2, .int (nI lf))]) hx hb dX1_bestBar_4 rfl hl (by decide) rfl (fun ls hl => ?_)
  refine lv_iload_n hx hb dX1_bestBar_5 rfl (lv_at hl 0 rfl) ?_
  refine lv_istore (lv' := [(4, .int (nI pn)), (3, .int (nI pn)), (0, .ref z0), (1, .int (nI cn)), (2, .int (nI lf))]) hx hb dX1_bestBar_6 hl (by decide) rfl (fun ls hl => ?_)
  refine lv_aload_n hx hb dX1_bestBar_8 rfl (lv_at hl 2 rfl) ?_
  refine lv_iload_n hx hb dX1_bestBar_9 rfl (lv_at hl 3 rfl) ?_
  refine lv_iload hx hb dX1_bestBar_10 (lv_at hl 0 rfl) ?_
  refine ro_i (D := D) (va_runV (As := [.int (nI cn), .int (nI pn)]) (rest := []) ⟨hx, hb, hml, hown, hts⟩ ((y_paidAt l D k st lo c0 z0 z1 z2 z3 pn pf pd pe pco cn pn (by first | assumption | omega) (by first | assumption | omega) (by first | assumption | omega)) s.heap.size) (cwV 2 hts (gV tw_862 tw_864 tw_23 tw_84 tw_865) rfl rfl rfl (by decide +kernel) ⟨Nat.le_of_ble_eq_true rfl, Nat.le_of_ble_eq_true rfl⟩) (pV hS hAlo hlo hP hK hDL hZ [0, 2] (by decide) rfl (ci := 1) (q := (RX1, TX1, 8)) (q0 := 0) rfl rfl) rfl rfl hl.1 rfl (lv_room (Nat.le_of_ble_eq_true rfl)) dX1_bestBar_12 ⟨Nat.le_of_ble_eq_true rfl, Nat.le_of_ble_eq_true rfl⟩) hS hA hP (fun r_1 H locs hw_1 hP hS => ?_)
  try dsimp only at hw_1
  refine lv_istore (lv' := [(5, .int r_1), (4, .int (nI pn)), (3, .int (nI pn)), (0, .ref z0), (1, .int (nI cn)), (2, .int (nI lf))]) hx hb dX1_bestBar_15 hl (by decide) rfl (fun ls hl => ?_)
  refine lv_aload_n hx hb dX1_bestBar_17 rfl (lv_at hl 3 rfl) ?_
  refine va_get (D := D) (ci := 1) (v := .int (nI pn)) (C := RX1) (T := TX1) (N := 8) hx hb hts inX1 hown hK hP 0 rfl rfl 4 (by decide) (hts _ tw_240) (fun _ h9 => h9) rfl dX1_bestBar_18 ?_
  refine lv_iconst (v := 1) hx hb dX1_bestBar_21 (by decide) ?_
  refine lv_isub hx hb dX1_bestBar_22 ?_
  refine lv_ti (y := (nI pn - 1)) rfl ?_
  refine lv_istore (lv' := [(6, .int (nI pn - 1)), (5, .int r_1), (4, .int (nI pn)), (3, .int (nI pn)), (0, .ref z0), (1, .int (nI cn)), (2, .int (nI lf))]) hx hb dX1_bestBar_23 hl (by decide) rfl (fun ls hl => ?_)
  refine W_loop (σ := Nat × Nat × Nat × Int32) (fun (n_ : Nat) (x_ : Nat × Nat × Nat × Int32) (H : Heap) (locs : List Loc) (ls : Array Slot) => match x_ with | (q_2, be_2, pl2_2, le_2) => n_ = 2 * q_2 ∧ (q_2 ≤ pn ∧ pl2_2 ≤ pn ∧ pl2_2 = plc pn lf q_2 ∧ bbI pn (fun b => kx pco pd pe pn cn (plc pn lf b)) q_2 be_2 le_2) ∧ va_P D classes [(z0, .inr (1, (fX1 c0 z1 z2 z3 (nI pn) (nI pf) pd pe))), (aI k z1 4 (nF pb)), (aI k z2 100 pco)] H ∧ va_S (fun q : Nat => s.heap.size ≤ q) s.heap H locs ∧ lv_has ls 8 [(6, .int (nI q_2 - 1)), (5, .int le_2), (4, .int (nI pl2_2)), (3, .int (nI be_2)), (0, .ref z0), (1, .int (nI cn)), (2, .int (nI lf))]) (fun n_2 x_2 H locs ls hI ih_2 => ?_) _ (pn, pn, pn, r_1) ⟨rfl, ⟨by omega, by omega, (pl_out (by omega)).symm, bb_0 (show _ = kx pco pd pe pn cn (plc pn lf pn) from hw_1.trans (congrArg (kx pco pd pe pn cn) (pl_out (Nat.lt_irrefl pn)).symm))⟩, hP, hS, (lv_sub hl [0, 1, 2, 3, 4, 5, 6] rfl)⟩
  obtain ⟨q_2, be_2, pl2_2, le_2⟩ := x_2
  obtain ⟨hm_2, hv_2, hP, hS, hl⟩ := hI
  subst hm_2
  rcases q_2 with _ | q_2
  · rw [dn0] at hl
    refine lv_iload hx hb dX1_bestBar_25 (lv_at hl 0 rfl) ?_
    refine lv_if_lt (tgt := 72) hx hb dX1_bestBar_27 (by decide) (fun _ => ?_) (fun h => absurd (by decide) h)
    refine lv_aload_n hx hb dX1_bestBar_72 rfl (lv_at hl 4 rfl) ?_
    refine va_get (D := D) (ci := 1) (v := .ref z1) (C := RX1) (T := TX1) (N := 8) hx hb hts inX1 hown hK hP 0 rfl rfl 1 (by decide) (hts _ tw_236) (fun _ h9 => h9) rfl dX1_bestBar_73 ?_
    refine lv_iload_n hx hb dX1_bestBar_76 rfl (lv_at hl 5 rfl) ?_
    refine va_iald hx hb hK hP 1 1 rfl rfl (vp_in_nI (by omega) (by decide)) dX1_bestBar_77 ?_
    have hq_3 := hpb cn
    refine lv_ti (y := (nI (pb cn))) (by rw [nI_clamp (by omega)]; rfl) ?_
    refine lv_aload_n hx hb dX1_bestBar_78 rfl (lv_at hl 4 rfl) ?_
    refine va_get (D := D) (ci := 1) (v := .int (nI pn)) (C := RX1) (T := TX1) (N := 8) hx hb hts inX1 hown hK hP 0 rfl rfl 4 (by decide) (hts _ tw_240) (fun _ h9 => h9) rfl dX1_bestBar_79 ?_
    refine lv_icmp_gt (tgt := 110) hx hb dX1_bestBar_82 (by decide) (fun h => absurd ((nI_ltI (a := pn) (b := (pb cn)) (by omega) (by omega)).mp h) (by omega)) (fun _ => ?_)
    refine lv_aload_n hx hb dX1_bestBar_85 rfl (lv_at hl 4 rfl) ?_
    refine lv_iload_n hx hb dX1_bestBar_86 rfl (lv_at hl 5 rfl) ?_
    refine lv_aload_n hx hb dX1_bestBar_87 rfl (lv_at hl 4 rfl) ?_
    refine lv_aload_n hx hb dX1_bestBar_88 rfl (lv_at hl 4 rfl) ?_
    refine va_get (D := D) (ci := 1) (v := .ref z1) (C := RX1) (T := TX1) (N := 8) hx hb hts inX1 hown hK hP 0 rfl rfl 1 (by decide) (hts _ tw_236) (fun _ h9 => h9) rfl dX1_bestBar_89 ?_
    refine lv_iload_n hx hb dX1_bestBar_92 rfl (lv_at hl 5 rfl) ?_
    refine va_iald hx hb hK hP 1 1 rfl rfl (vp_in_nI (by omega) (by decide)) dX1_bestBar_93 ?_
    have hq_5 := hpb cn
    refine lv_ti (y := (nI (pb cn))) (by rw [nI_clamp (by omega)]; rfl) ?_
    refine lv_iload_n hx hb dX1_bestBar_94 rfl (lv_at hl 6 rfl) ?_
    refine ro_i (D := D) (va_runV (As := [.int (nI (pb cn)), .int (nI lf)]) (rest := [.int (nI cn), .ref z0]) ⟨hx, hb, hml, hown, hts⟩ ((y_placeFrom l D k st lo c0 z0 z1 z2 z3 pn pf pd pe (pb cn) lf (by first | assumption | omega) (by first | assumption | omega) (by first | assumption | omega)) H.size) (cwV 2 hts (gV tw_838 tw_840 tw_20 tw_84 tw_841) rfl rfl rfl (by decide +kernel) ⟨Nat.le_of_ble_eq_true rfl, Nat.le_of_ble_eq_true rfl⟩) (pV hS hAlo hlo hP hK hDL hZ [0] (by decide) rfl (ci := 1) (q := (RX1, TX1, 8)) (q0 := 0) rfl rfl) rfl rfl hl.1 rfl (lv_room (Nat.le_of_ble_eq_true rfl)) dX1_bestBar_95 ⟨Nat.le_of_ble_eq_true rfl, Nat.le_of_ble_eq_true rfl⟩) hS hA hP (fun r_6 H locs hw_6 hP hS => ?_)
    try dsimp only at hw_6
    obtain ⟨zp_7, ezp_7⟩ : ∃ z : Nat, z = plc pn lf (pb cn) := ⟨_, rfl⟩
    rw [← ezp_7] at hw_6
    subst hw_6
    have hzp_7 : zp_7 ≤ pn := by rw [ezp_7]; exact pl_le
    refine ro_i (D := D) (va_runV (As := [.int (nI cn), .int (nI zp_7)]) (rest := []) ⟨hx, hb, hml, hown, hts⟩ ((y_paidAt l D k st lo c0 z0 z1 z2 z3 pn pf pd pe pco cn zp_7 (by first | assumption | omega) (by first | assumption | omega) (by first | assumption | omega)) H.size) (cwV 2 hts (gV tw_862 tw_864 tw_23 tw_84 tw_865) rfl rfl rfl (by decide +kernel) ⟨Nat.le_of_ble_eq_true rfl, Nat.le_of_ble_eq_true rfl⟩) (pV hS hAlo hlo hP hK hDL hZ [0, 2] (by decide) rfl (ci := 1) (q := (RX1, TX1, 8)) (q0 := 0) rfl rfl) rfl rfl hl.1 rfl (lv_room (Nat.le_of_ble_eq_true rfl)) dX1_bestBar_98 ⟨Nat.le_of_ble_eq_true rfl, Nat.le_of_ble_eq_true rfl⟩) hS hA hP (fun r_8 H locs hw_8 hP hS => ?_)
    try dsimp only at hw_8
    refine lv_iload hx hb dX1_bestBar_101 (lv_at hl 1 rfl) ?_
    refine lv_icmp_ne (tgt := 110) hx hb dX1_bestBar_103 (by decide) (fun c_9 => ?_) (fun c_9 => ?_)
    · refine lv_iconst (v := 0) hx hb dX1_bestBar_110 (by decide) ?_
      refine lv_istore (lv' := [(6, .int 0), (5, .int le_2), (4, .int (nI pl2_2)), (3, .int (nI be_2)), (0, .ref z0), (1, .int (nI cn)), (2, .int (nI lf))]) hx hb dX1_bestBar_111 hl (by decide) rfl (fun ls hl => ?_)
      refine lv_iload hx hb dX1_bestBar_113 (lv_at hl 0 rfl) ?_
      refine lv_if_eq (tgt := 127) hx hb dX1_bestBar_115 (by decide) (fun _ => ?_) (fun h => absurd (by decide) h)
      refine lv_iload_n hx hb dX1_bestBar_127 rfl (lv_at hl 3 rfl) ?_
      exact W.iret (v := (nI be_2)) hx hb hr (fun t ht hW => ⟨⟨(nI be_2), (), rfl, (congrArg nI (bsF_of hob (bb_oth (C := (fun b => kx pco pd pe pn cn (plc pn lf b))) hv_2.2.2.2 hob (show _ = kx pco pd pe pn cn (plc pn lf (pb cn)) from hw_8.trans (congrArg (kx pco pd pe pn cn) ezp_7)) c_9))), trivial⟩, hS.F ht⟩) hS.2.2 dX1_bestBar_128
    · refine lv_iconst (v := 1) hx hb dX1_bestBar_106 (by decide) ?_
      refine lv_goto (tgt := 111) hx hb dX1_bestBar_107 (by decide) ?_
      refine lv_istore (lv' := [(6, .int 1), (5, .int le_2), (4, .int (nI pl2_2)), (3, .int (nI be_2)), (0, .ref z0), (1, .int (nI cn)), (2, .int (nI lf))]) hx hb dX1_bestBar_111 hl (by decide) rfl (fun ls hl => ?_)
      refine lv_iload hx hb dX1_bestBar_113 (lv_at hl 0 rfl) ?_
      refine lv_if_eq (tgt := 127) hx hb dX1_bestBar_115 (by decide) (fun h => absurd h (by decide)) (fun _ => ?_)
      refine lv_aload_n hx hb dX1_bestBar_118 rfl (lv_at hl 4 rfl) ?_
      refine va_get (D := D) (ci := 1) (v := .ref z1) (C := RX1) (T := TX1) (N := 8) hx hb hts inX1 hown hK hP 0 rfl rfl 1 (by decide) (hts _ tw_236) (fun _ h9 => h9) rfl dX1_bestBar_119 ?_
      refine lv_iload_n hx hb dX1_bestBar_122 rfl (lv_at hl 5 rfl) ?_
      refine va_iald hx hb hK hP 1 1 rfl rfl (vp_in_nI (by omega) (by decide)) dX1_bestBar_123 ?_
      have hq_10 := hpb cn
      refine lv_ti (y := (nI (pb cn))) (by rw [nI_clamp (by omega)]; rfl) ?_
      refine lv_goto (tgt := 128) hx hb dX1_bestBar_124 (by decide) ?_
      exact W.iret (v := (nI (pb cn))) hx hb hr (fun t ht hW => ⟨⟨(nI (pb cn)), (), rfl, (congrArg nI (bsF_of hob (bb_own (C := (fun b => kx pco pd pe pn cn (plc pn lf b))) hv_2.2.2.2 hob (show _ = kx pco pd pe pn cn (plc pn lf (pb cn)) from hw_8.trans (congrArg (kx pco pd pe pn cn) ezp_7)) c_9))), trivial⟩, hS.F ht⟩) hS.2.2 dX1_bestBar_128
  · rw [nI_pred] at hl
    refine lv_iload hx hb dX1_bestBar_25 (lv_at hl 0 rfl) ?_
    refine lv_if_lt (tgt := 72) hx hb dX1_bestBar_27 (by decide) (fun h => absurd h (nI_pos0 (by omega))) (fun _ => ?_)
    refine lv_iload_n hx hb dX1_bestBar_30 rfl (lv_at hl 6 rfl) ?_
    refine lv_iload hx hb dX1_bestBar_31 (lv_at hl 0 rfl) ?_
    refine lv_ishr hx hb dX1_bestBar_33 ?_
    refine lv_ti (y := (nI (lf / 2 ^ q_2))) (shr24 (by omega) (by omega)) ?_
    refine lv_iconst (v := 1) hx hb dX1_bestBar_34 (by decide) ?_
    refine lv_iand hx hb dX1_bestBar_35 ?_
    refine lv_ti (y := (nI ((lf / 2 ^ q_2) % 2))) and_1 ?_
    refine lv_if_eq (tgt := 43) hx hb dX1_bestBar_36 (by decide) (fun c_11 => ?_) (fun c_11 => ?_)
    · have c_11 := (nI_eq (a := ((lf / 2 ^ q_2) % 2)) (b := 0) (by omega) (by omega)).mp c_11
      refine lv_aload_n hx hb dX1_bestBar_43 rfl (lv_at hl 4 rfl) ?_
      refine lv_iload_n hx hb dX1_bestBar_44 rfl (lv_at hl 5 rfl) ?_
      refine lv_iload hx hb dX1_bestBar_45 (lv_at hl 2 rfl) ?_
      refine ro_i (D := D) (va_runV (As := [.int (nI cn), .int (nI pl2_2)]) (rest := []) ⟨hx, hb, hml, hown, hts⟩ ((y_paidAt l D k st lo c0 z0 z1 z2 z3 pn pf pd pe pco cn pl2_2 (by first | assumption | omega) (by first | assumption | omega) (by first | assumption | omega)) H.size) (cwV 2 hts (gV tw_862 tw_864 tw_23 tw_84 tw_865) rfl rfl rfl (by decide +kernel) ⟨Nat.le_of_ble_eq_true rfl, Nat.le_of_ble_eq_true rfl⟩) (pV hS hAlo hlo hP hK hDL hZ [0, 2] (by decide) rfl (ci := 1) (q := (RX1, TX1, 8)) (q0 := 0) rfl rfl) rfl rfl hl.1 rfl (lv_room (Nat.le_of_ble_eq_true rfl)) dX1_bestBar_47 ⟨Nat.le_of_ble_eq_true rfl, Nat.le_of_ble_eq_true rfl⟩) hS hA hP (fun r_12 H locs hw_12 hP hS => ?_)
      try dsimp only at hw_12
      refine lv_istore (lv' := [(7, .int r_12), (6, .int (nI q_2)), (5, .int le_2), (4, .int (nI pl2_2)), (3, .int (nI be_2)), (0, .ref z0), (1, .int (nI cn)), (2, .int (nI lf))]) hx hb dX1_bestBar_50 hl (by decide) rfl (fun ls hl => ?_)
      refine lv_iload hx hb dX1_bestBar_52 (lv_at hl 0 rfl) ?_
      refine lv_iload hx hb dX1_bestBar_54 (lv_at hl 2 rfl) ?_
      refine lv_icmp_gt (tgt := 66) hx hb dX1_bestBar_56 (by decide) (fun c_13 => ?_) (fun c_13 => ?_)
      · refine lv_iinc (v := (nI q_2 - 1)) (lv' := [(6, .int (nI q_2 - 1)), (7, .int r_12), (5, .int le_2), (4, .int (nI pl2_2)), (3, .int (nI be_2)), (0, .ref z0), (1, .int (nI cn)), (2, .int (nI lf))]) hx hb dX1_bestBar_66 hl (k := 1) rfl (dn1 _) (by decide) rfl (fun ls hl => ?_)
        refine lv_goto (tgt := 25) hx hb dX1_bestBar_69 (by decide) ?_
        exact ih_2 _ (q_2, be_2, pl2_2, le_2) _ _ _ (by omega) ⟨rfl, ⟨by omega, by omega, (hv_2.2.2.1.trans (pl_n (show q_2 < pn by omega) (by omega)).symm), bb_n (C := (fun b => kx pco pd pe pn cn (plc pn lf b))) hv_2.2.2.2 (show _ = kx pco pd pe pn cn (plc pn lf q_2) from hw_12.trans (congrArg (kx pco pd pe pn cn) (hv_2.2.2.1.trans (pl_n (show q_2 < pn by omega) (by omega)).symm))) c_13⟩, hP, hS, (lv_sub hl [0, 2, 3, 4, 5, 6, 7] rfl)⟩
      · refine lv_iload hx hb dX1_bestBar_59 (lv_at hl 0 rfl) ?_
        refine lv_istore (lv' := [(5, .int r_12), (7, .int r_12), (6, .int (nI q_2)), (4, .int (nI pl2_2)), (3, .int (nI be_2)), (0, .ref z0), (1, .int (nI cn)), (2, .int (nI lf))]) hx hb dX1_bestBar_61 hl (by decide) rfl (fun ls hl => ?_)
        refine lv_iload hx hb dX1_bestBar_63 (lv_at hl 2 rfl) ?_
        refine lv_istore_n (lv' := [(3, .int (nI q_2)), (5, .int r_12), (7, .int r_12), (6, .int (nI q_2)), (4, .int (nI pl2_2)), (0, .ref z0), (1, .int (nI cn)), (2, .int (nI lf))]) hx hb dX1_bestBar_65 rfl hl (by decide) rfl (fun ls hl => ?_)
        refine lv_iinc (v := (nI q_2 - 1)) (lv' := [(6, .int (nI q_2 - 1)), (3, .int (nI q_2)), (5, .int r_12), (7, .int r_12), (4, .int (nI pl2_2)), (0, .ref z0), (1, .int (nI cn)), (2, .int (nI lf))]) hx hb dX1_bestBar_66 hl (k := 3) rfl (dn1 _) (by decide) rfl (fun ls hl => ?_)
        refine lv_goto (tgt := 25) hx hb dX1_bestBar_69 (by decide) ?_
        exact ih_2 _ (q_2, q_2, pl2_2, r_12) _ _ _ (by omega) ⟨rfl, ⟨by omega, by omega, (hv_2.2.2.1.trans (pl_n (show q_2 < pn by omega) (by omega)).symm), bb_y (C := (fun b => kx pco pd pe pn cn (plc pn lf b))) hv_2.2.2.2 (show _ = kx pco pd pe pn cn (plc pn lf q_2) from hw_12.trans (congrArg (kx pco pd pe pn cn) (hv_2.2.2.1.trans (pl_n (show q_2 < pn by omega) (by omega)).symm))) (Int32.not_lt.mp c_13)⟩, hP, hS, (lv_sub hl [0, 2, 4, 1, 5, 6, 7] rfl)⟩
    · have c_11 : ¬ (((lf / 2 ^ q_2) % 2) = 0) := fun h => c_11 ((nI_eq (a := ((lf / 2 ^ q_2) % 2)) (b := 0) (by omega) (by omega)).mpr h)
      refine lv_iload hx hb dX1_bestBar_39 (lv_at hl 0 rfl) ?_
      refine lv_istore (lv' := [(4, .int (nI q_2)), (6, .int (nI q_2)), (5, .int le_2), (3, .int (nI be_2)), (0, .ref z0), (1, .int (nI cn)), (2, .int (nI lf))]) hx hb dX1_bestBar_41 hl (by decide) rfl (fun ls hl => ?_)
      refine lv_aload_n hx hb dX1_bestBar_43 rfl (lv_at hl 4 rfl) ?_
      refine lv_iload_n hx hb dX1_bestBar_44 rfl (lv_at hl 5 rfl) ?_
      refine lv_iload hx hb dX1_bestBar_45 (lv_at hl 0 rfl) ?_
      refine ro_i (D := D) (va_runV (As := [.int (nI cn), .int (nI q_2)]) (rest := []) ⟨hx, hb, hml, hown, hts⟩ ((y_paidAt l D k st lo c0 z0 z1 z2 z3 pn pf pd pe pco cn q_2 (by first | assumption | omega) (by first | assumption | omega) (by first | assumption | omega)) H.size) (cwV 2 hts (gV tw_862 tw_864 tw_23 tw_84 tw_865) rfl rfl rfl (by decide +kernel) ⟨Nat.le_of_ble_eq_true rfl, Nat.le_of_ble_eq_true rfl⟩) (pV hS hAlo hlo hP hK hDL hZ [0, 2] (by decide) rfl (ci := 1) (q := (RX1, TX1, 8)) (q0 := 0) rfl rfl) rfl rfl hl.1 rfl (lv_room (Nat.le_of_ble_eq_true rfl)) dX1_bestBar_47 ⟨Nat.le_of_ble_eq_true rfl, Nat.le_of_ble_eq_true rfl⟩) hS hA hP (fun r_14 H locs hw_14 hP hS => ?_)
      try dsimp only at hw_14
      refine lv_istore (lv' := [(7, .int r_14), (4, .int (nI q_2)), (6, .int (nI q_2)), (5, .int le_2), (3, .int (nI be_2)), (0, .ref z0), (1, .int (nI cn)), (2, .int (nI lf))]) hx hb dX1_bestBar_50 hl (by decide) rfl (fun ls hl => ?_)
      refine lv_iload hx hb dX1_bestBar_52 (lv_at hl 0 rfl) ?_
      refine lv_iload hx hb dX1_bestBar_54 (lv_at hl 3 rfl) ?_
      refine lv_icmp_gt (tgt := 66) hx hb dX1_bestBar_56 (by decide) (fun c_15 => ?_) (fun c_15 => ?_)
      · refine lv_iinc (v := (nI q_2 - 1)) (lv' := [(6, .int (nI q_2 - 1)), (7, .int r_14), (4, .int (nI q_2)), (5, .int le_2), (3, .int (nI be_2)), (0, .ref z0), (1, .int (nI cn)), (2, .int (nI lf))]) hx hb dX1_bestBar_66 hl (k := 2) rfl (dn1 _) (by decide) rfl (fun ls hl => ?_)
        refine lv_goto (tgt := 25) hx hb dX1_bestBar_69 (by decide) ?_
        exact ih_2 _ (q_2, be_2, q_2, le_2) _ _ _ (by omega) ⟨rfl, ⟨by omega, by omega, (pl_y (show q_2 < pn by omega) (by omega)).symm, bb_n (C := (fun b => kx pco pd pe pn cn (plc pn lf b))) hv_2.2.2.2 (show _ = kx pco pd pe pn cn (plc pn lf q_2) from hw_14.trans (congrArg (kx pco pd pe pn cn) (pl_y (show q_2 < pn by omega) (by omega)).symm)) c_15⟩, hP, hS, (lv_sub hl [0, 3, 2, 4, 5, 6, 7] rfl)⟩
      · refine lv_iload hx hb dX1_bestBar_59 (lv_at hl 0 rfl) ?_
        refine lv_istore (lv' := [(5, .int r_14), (7, .int r_14), (4, .int (nI q_2)), (6, .int (nI q_2)), (3, .int (nI be_2)), (0, .ref z0), (1, .int (nI cn)), (2, .int (nI lf))]) hx hb dX1_bestBar_61 hl (by decide) rfl (fun ls hl => ?_)
        refine lv_iload hx hb dX1_bestBar_63 (lv_at hl 3 rfl) ?_
        refine lv_istore_n (lv' := [(3, .int (nI q_2)), (5, .int r_14), (7, .int r_14), (4, .int (nI q_2)), (6, .int (nI q_2)), (0, .ref z0), (1, .int (nI cn)), (2, .int (nI lf))]) hx hb dX1_bestBar_65 rfl hl (by decide) rfl (fun ls hl => ?_)
        refine lv_iinc (v := (nI q_2 - 1)) (lv' := [(6, .int (nI q_2 - 1)), (3, .int (nI q_2)), (5, .int r_14), (7, .int r_14), (4, .int (nI q_2)), (0, .ref z0), (1, .int (nI cn)), (2, .int (nI lf))]) hx hb dX1_bestBar_66 hl (k := 4) rfl (dn1 _) (by decide) rfl (fun ls hl => ?_)
        refine lv_goto (tgt := 25) hx hb dX1_bestBar_69 (by decide) ?_
        exact ih_2 _ (q_2, q_2, q_2, r_14) _ _ _ (by omega) ⟨rfl, ⟨by omega, by omega, (pl_y (show q_2 < pn by omega) (by omega)).symm, bb_y (C := (fun b => kx pco pd pe pn cn (plc pn lf b))) hv_2.2.2.2 (show _ = kx pco pd pe pn cn (plc pn lf q_2) from hw_14.trans (congrArg (kx pco pd pe pn cn) (pl_y (show q_2 < pn by omega) (by omega)).symm)) (Int32.not_lt.mp c_15)⟩, hP, hS, (lv_sub hl [0, 2, 4, 1, 5, 6, 7] rfl)⟩


set_option maxHeartbeats 4000000 in
set_option maxRecDepth 100000 in
theorem y_isAtRest (l : Launch) (D : va_G) (k : Nat → ClassId) (st : Nat → Nat) (lo : Nat) (c0 : Nat) (z0 : Nat) (z1 : Nat) (z2 : Nat) (z3 : Nat) (pn : Nat) (pf : Nat) (pd : Int32) (pe : Int32) (pb : Nat → Nat) (pco : Nat → Int32) (c1 : Nat) (c2 : Nat) (cc : Nat) (rz : Nat) (ro : Int32) (sd : Int32) (hpn : pn ≤ 24) (hcc : cc ≤ 4) (hpb : ∀ j, pb j ≤ 24) (hpf : pf < 16777216) (hbn : ∀ j, j < cc → pb j ≤ pn) : CRi l D k st lo yX1_isAtRest cX1_isAtRest 4 (some .boolean) ({ frames := 3, cells := 0, slots := 0, locals := 72 }) [.ref z0] [(z0, .inr (1, (fX1 c0 z1 z2 z3 (nI pn) (nI pf) pd pe))), (aI k z1 4 (nF pb)), (aI k z2 100 pco), (c0, .inr (4, (fX4 c1 c2 (nI cc) (nI rz) ro sd)))] (fun r => (r = 1 ∧ rsP pn cc pf (kx pco pd pe pn) pb) ∨ (r = 0 ∧ ¬ rsP pn cc pf (kx pco pd pe pn) pb)) := by
  intro sz
  refine Met.ofW (cc := cX1_isAtRest) (maxL := 4) (ret := (some .boolean)) (by decide) rfl ?_
  intro p e s m args below meth c s₁ B hml hv
  obtain ⟨rfl, hsz, hlo, hP, hK, hDL, hZ⟩ := hv
  have hx := B.exec
  have hb := B.bytes
  have hr := B.returns
  have hts := WS_ts B.pre
  have hown : s.vm.findClass RX1 = some m.cls := findClass_of_methodNamed B.named
  have hlocks := B.notSynchronized
  subst hsz
  have hA : ∀ q : Nat, s.heap.size ≤ q → (fun q : Nat => s.heap.size ≤ q) q := fun _ h => h
  have hAlo : ∀ q : Nat, (fun q : Nat => s.heap.size ≤ q) q → lo ≤ q := fun q h => Nat.le_trans hlo h
  have hS : va_S (fun q : Nat => s.heap.size ≤ q) s.heap s.heap [] := va_S.rf
  have hl := lv_entry ([.ref z0]) (n := 4) (Nat.le_of_ble_eq_true rfl)
  rw [lg_entry_eq]
  generalize (lg_sl ([.ref z0]) ++ List.replicate (4 - (lg_sl ([.ref z0])).length) Slot.unset).toArray = ls at hl ⊢
  have hl : lv_has ls 4 [(0, .ref z0)] := hl
  refine lv_aload_n hx hb dX1_isAtRest_0 rfl (lv_at hl 0 rfl) ?_
  refine va_get (D := D) (ci := 1) (v := .int (nI pf)) (C := RX1) (T := TX1) (N := 8) hx hb hts inX1 hown hK hP 0 rfl rfl 5 (by decide) (hts _ tw_241) (fun _ h9 => h9) rfl dX1_isAtRest_1 ?_
  refine lv_istore_n (lv' := [(1, .int (nI pf)), (0, .ref z0)]) hx hb dX1_isAtRest_4 rfl hl (by decide) rfl (fun ls hl => ?_)
  refine lv_iconst (v := 0) hx hb dX1_isAtRest_5 (by decide) ?_
  refine lv_istore_n (lv' := [(2, .int 0), (1, .int (nI pf)), (0, .ref z0)]) hx hb dX1_isAtRest_6 rfl hl (by decide) rfl (fun ls hl => ?_)
  refine W_loop (σ := Nat × Nat) (fun (n_ : Nat) (x_ : Nat × Nat) (H : Heap) (locs : List Loc) (ls : Array Slot) => match x_ with | (cn2_1, lf_1) => n_ = 5 - cn2_1 ∧ (cn2_1 ≤ cc ∧ lf_1 = LF pn pb pf cn2_1 ∧ lf_1 ≤ pf ∧ ∀ k, k < cn2_1 → ∀ a, a ≤ pn → kb pn pf (kx pco pd pe pn) pb k (pb k) ≤ kb pn pf (kx pco pd pe pn) pb k a) ∧ va_P D classes [(z0, .inr (1, (fX1 c0 z1 z2 z3 (nI pn) (nI pf) pd pe))), (aI k z1 4 (nF pb)), (aI k z2 100 pco), (c0, .inr (4, (fX4 c1 c2 (nI cc) (nI rz) ro sd)))] H ∧ va_S (fun q : Nat => s.heap.size ≤ q) s.heap H locs ∧ lv_has ls 4 [(2, .int (nI cn2_1)), (1, .int (nI lf_1)), (0, .ref z0)]) (fun n_1 x_1 H locs ls hI ih_1 => ?_) _ (0, pf) ⟨rfl, ⟨by omega, rfl, Nat.le_refl _, fun k h => absurd h (Nat.not_lt_zero k)⟩, hP, hS, (lv_sub hl [0, 1, 2] rfl)⟩
  obtain ⟨cn2_1, lf_1⟩ := x_1
  obtain ⟨hm_1, hv_1, hP, hS, hl⟩ := hI
  subst hm_1
  refine lv_iload_n hx hb dX1_isAtRest_7 rfl (lv_at hl 0 rfl) ?_
  refine lv_aload_n hx hb dX1_isAtRest_8 rfl (lv_at hl 2 rfl) ?_
  refine va_get (D := D) (ci := 1) (v := .ref c0) (C := RX1) (T := TX1) (N := 8) hx hb hts inX1 hown hK hP 0 rfl rfl 0 (by decide) (hts _ tw_235) (fun _ h9 => h9) rfl dX1_isAtRest_9 ?_
  refine va_get (D := D) (ci := 4) (v := .int (nI cc)) (C := RX4) (T := TX4) (N := 6) hx hb hts inX4 hown hK hP 3 rfl rfl 2 (by decide) (hts _ tw_179) (fun _ h9 => h9) rfl dX1_isAtRest_12 ?_
  refine lv_icmp_ge (tgt := 70) hx hb dX1_isAtRest_15 (by decide) (fun c_2 => ?_) (fun c_2 => ?_)
  · have c_2 := (nI_leI (a := cc) (b := cn2_1) (by omega) (by omega)).mp c_2
    refine lv_iconst (v := 1) hx hb dX1_isAtRest_70 (by decide) ?_
    exact W.zret (v := 1) (ty := .boolean) hx hb hr rfl (fun t ht hW => ⟨⟨1, (), rfl, .inl ⟨rfl, fun k hk => hv_1.2.2.2 k (by omega)⟩, trivial⟩, hS.F ht⟩) hS.2.2 dX1_isAtRest_71
  · have c_2 : ¬ (cc ≤ cn2_1) := fun h => c_2 ((nI_leI (a := cc) (b := cn2_1) (by omega) (by omega)).mpr h)
    have hbq_1 := hbn cn2_1 (by omega)
    refine lv_aload_n hx hb dX1_isAtRest_18 rfl (lv_at hl 2 rfl) ?_
    refine lv_aload_n hx hb dX1_isAtRest_19 rfl (lv_at hl 2 rfl) ?_
    refine lv_iload_n hx hb dX1_isAtRest_20 rfl (lv_at hl 0 rfl) ?_
    refine lv_iload_n hx hb dX1_isAtRest_21 rfl (lv_at hl 1 rfl) ?_
    refine ro_i (D := D) (va_runV (As := [.int (nI cn2_1), .int (nI lf_1)]) (rest := [.ref z0]) ⟨hx, hb, hml, hown, hts⟩ ((y_bestBar l D k st lo c0 z0 z1 z2 z3 pn pf pd pe pb pco cn2_1 lf_1 (by first | assumption | omega) (by first | assumption | omega) hpb (by first | assumption | omega) (by first | assumption | omega)) H.size) (cwV 2 hts (gV tw_858 tw_860 tw_22 tw_84 tw_861) rfl rfl rfl (by decide +kernel) ⟨Nat.le_of_ble_eq_true rfl, Nat.le_of_ble_eq_true rfl⟩) (pV hS hAlo hlo hP hK hDL hZ [0, 1, 2] (by decide) rfl (ci := 1) (q := (RX1, TX1, 8)) (q0 := 0) rfl rfl) rfl rfl hl.1 rfl (lv_room (Nat.le_of_ble_eq_true rfl)) dX1_isAtRest_22 ⟨Nat.le_of_ble_eq_true rfl, Nat.le_of_ble_eq_true rfl⟩) hS hA hP (fun r_3 H locs hw_3 hP hS => ?_)
    try dsimp only at hw_3
    obtain ⟨zb_4, ezb_4⟩ : ∃ z : Nat, z = bsF pn (fun b => kx pco pd pe pn cn2_1 (plc pn lf_1 b)) (pb cn2_1) := ⟨_, rfl⟩
    rw [← ezb_4] at hw_3
    subst hw_3
    have hzb_4 : zb_4 ≤ pn := by rw [ezb_4]; exact bsF_le (by omega)
    refine lv_iload_n hx hb dX1_isAtRest_25 rfl (lv_at hl 1 rfl) ?_
    refine ro_i (D := D) (va_runV (As := [.int (nI zb_4), .int (nI lf_1)]) (rest := []) ⟨hx, hb, hml, hown, hts⟩ ((y_placeFrom l D k st lo c0 z0 z1 z2 z3 pn pf pd pe zb_4 lf_1 (by first | assumption | omega) (by first | assumption | omega) (by first | assumption | omega)) H.size) (cwV 2 hts (gV tw_838 tw_840 tw_20 tw_84 tw_841) rfl rfl rfl (by decide +kernel) ⟨Nat.le_of_ble_eq_true rfl, Nat.le_of_ble_eq_true rfl⟩) (pV hS hAlo hlo hP hK hDL hZ [0] (by decide) rfl (ci := 1) (q := (RX1, TX1, 8)) (q0 := 0) rfl rfl) rfl rfl hl.1 rfl (lv_room (Nat.le_of_ble_eq_true rfl)) dX1_isAtRest_26 ⟨Nat.le_of_ble_eq_true rfl, Nat.le_of_ble_eq_true rfl⟩) hS hA hP (fun r_5 H locs hw_5 hP hS => ?_)
    try dsimp only at hw_5
    obtain ⟨zp_6, ezp_6⟩ : ∃ z : Nat, z = plc pn lf_1 zb_4 := ⟨_, rfl⟩
    rw [← ezp_6] at hw_5
    subst hw_5
    have hzp_6 : zp_6 ≤ pn := by rw [ezp_6]; exact pl_le
    refine lv_istore_n (lv' := [(3, .int (nI zp_6)), (2, .int (nI cn2_1)), (1, .int (nI lf_1)), (0, .ref z0)]) hx hb dX1_isAtRest_29 rfl hl (by decide) rfl (fun ls hl => ?_)
    refine lv_aload_n hx hb dX1_isAtRest_30 rfl (lv_at hl 3 rfl) ?_
    refine lv_iload_n hx hb dX1_isAtRest_31 rfl (lv_at hl 1 rfl) ?_
    refine lv_iload_n hx hb dX1_isAtRest_32 rfl (lv_at hl 0 rfl) ?_
    refine ro_i (D := D) (va_runV (As := [.int (nI cn2_1), .int (nI zp_6)]) (rest := []) ⟨hx, hb, hml, hown, hts⟩ ((y_paidAt l D k st lo c0 z0 z1 z2 z3 pn pf pd pe pco cn2_1 zp_6 (by first | assumption | omega) (by first | assumption | omega) (by first | assumption | omega)) H.size) (cwV 2 hts (gV tw_862 tw_864 tw_23 tw_84 tw_865) rfl rfl rfl (by decide +kernel) ⟨Nat.le_of_ble_eq_true rfl, Nat.le_of_ble_eq_true rfl⟩) (pV hS hAlo hlo hP hK hDL hZ [0, 2] (by decide) rfl (ci := 1) (q := (RX1, TX1, 8)) (q0 := 0) rfl rfl) rfl rfl hl.1 rfl (lv_room (Nat.le_of_ble_eq_true rfl)) dX1_isAtRest_33 ⟨Nat.le_of_ble_eq_true rfl, Nat.le_of_ble_eq_true rfl⟩) hS hA hP (fun r_7 H locs hw_7 hP hS => ?_)
    try dsimp only at hw_7
    refine lv_aload_n hx hb dX1_isAtRest_36 rfl (lv_at hl 3 rfl) ?_
    refine lv_iload_n hx hb dX1_isAtRest_37 rfl (lv_at hl 1 rfl) ?_
    refine lv_aload_n hx hb dX1_isAtRest_38 rfl (lv_at hl 3 rfl) ?_
    refine lv_aload_n hx hb dX1_isAtRest_39 rfl (lv_at hl 3 rfl) ?_
    refine va_get (D := D) (ci := 1) (v := .ref z1) (C := RX1) (T := TX1) (N := 8) hx hb hts inX1 hown hK hP 0 rfl rfl 1 (by decide) (hts _ tw_236) (fun _ h9 => h9) rfl dX1_isAtRest_40 ?_
    refine lv_iload_n hx hb dX1_isAtRest_43 rfl (lv_at hl 1 rfl) ?_
    refine va_iald hx hb hK hP 1 1 rfl rfl (vp_in_nI (by omega) (by decide)) dX1_isAtRest_44 ?_
    have hq_8 := hpb cn2_1
    refine lv_ti (y := (nI (pb cn2_1))) (by rw [nI_clamp (by omega)]; rfl) ?_
    refine lv_iload_n hx hb dX1_isAtRest_45 rfl (lv_at hl 2 rfl) ?_
    refine ro_i (D := D) (va_runV (As := [.int (nI (pb cn2_1)), .int (nI lf_1)]) (rest := [.int (nI cn2_1), .ref z0, .int r_7]) ⟨hx, hb, hml, hown, hts⟩ ((y_placeFrom l D k st lo c0 z0 z1 z2 z3 pn pf pd pe (pb cn2_1) lf_1 (by first | assumption | omega) (by first | assumption | omega) (by first | assumption | omega)) H.size) (cwV 2 hts (gV tw_838 tw_840 tw_20 tw_84 tw_841) rfl rfl rfl (by decide +kernel) ⟨Nat.le_of_ble_eq_true rfl, Nat.le_of_ble_eq_true rfl⟩) (pV hS hAlo hlo hP hK hDL hZ [0] (by decide) rfl (ci := 1) (q := (RX1, TX1, 8)) (q0 := 0) rfl rfl) rfl rfl hl.1 rfl (lv_room (Nat.le_of_ble_eq_true rfl)) dX1_isAtRest_46 ⟨Nat.le_of_ble_eq_true rfl, Nat.le_of_ble_eq_true rfl⟩) hS hA hP (fun r_9 H locs hw_9 hP hS => ?_)
    try dsimp only at hw_9
    obtain ⟨zp_10, ezp_10⟩ : ∃ z : Nat, z = plc pn lf_1 (pb cn2_1) := ⟨_, rfl⟩
    rw [← ezp_10] at hw_9
    subst hw_9
    have hzp_10 : zp_10 ≤ pn := by rw [ezp_10]; exact pl_le
    refine ro_i (D := D) (va_runV (As := [.int (nI cn2_1), .int (nI zp_10)]) (rest := [.int r_7]) ⟨hx, hb, hml, hown, hts⟩ ((y_paidAt l D k st lo c0 z0 z1 z2 z3 pn pf pd pe pco cn2_1 zp_10 (by first | assumption | omega) (by first | assumption | omega) (by first | assumption | omega)) H.size) (cwV 2 hts (gV tw_862 tw_864 tw_23 tw_84 tw_865) rfl rfl rfl (by decide +kernel) ⟨Nat.le_of_ble_eq_true rfl, Nat.le_of_ble_eq_true rfl⟩) (pV hS hAlo hlo hP hK hDL hZ [0, 2] (by decide) rfl (ci := 1) (q := (RX1, TX1, 8)) (q0 := 0) rfl rfl) rfl rfl hl.1 rfl (lv_room (Nat.le_of_ble_eq_true rfl)) dX1_isAtRest_49 ⟨Nat.le_of_ble_eq_true rfl, Nat.le_of_ble_eq_true rfl⟩) hS hA hP (fun r_11 H locs hw_11 hP hS => ?_)
    try dsimp only at hw_11
    refine lv_icmp_ge (tgt := 57) hx hb dX1_isAtRest_52 (by decide) (fun c_12 => ?_) (fun c_12 => ?_)
    · refine lv_aload_n hx hb dX1_isAtRest_57 rfl (lv_at hl 3 rfl) ?_
      refine lv_iload_n hx hb dX1_isAtRest_58 rfl (lv_at hl 1 rfl) ?_
      refine lv_iload_n hx hb dX1_isAtRest_59 rfl (lv_at hl 2 rfl) ?_
      refine ro_i (D := D) (va_runV (As := [.int (nI cn2_1), .int (nI lf_1)]) (rest := []) ⟨hx, hb, hml, hown, hts⟩ ((y_leftBehind l D k st lo c0 z0 z1 z2 z3 pn pf pd pe pb cn2_1 lf_1 (by first | assumption | omega) (by first | assumption | omega) hpb (by first | assumption | omega)) H.size) (cwV 2 hts (gV tw_834 tw_836 tw_19 tw_84 tw_837) rfl rfl rfl (by decide +kernel) ⟨Nat.le_of_ble_eq_true rfl, Nat.le_of_ble_eq_true rfl⟩) (pV hS hAlo hlo hP hK hDL hZ [0, 1] (by decide) rfl (ci := 1) (q := (RX1, TX1, 8)) (q0 := 0) rfl rfl) rfl rfl hl.1 rfl (lv_room (Nat.le_of_ble_eq_true rfl)) dX1_isAtRest_60 ⟨Nat.le_of_ble_eq_true rfl, Nat.le_of_ble_eq_true rfl⟩) hS hA hP (fun r_13 H locs hw_13 hP hS => ?_)
      try dsimp only at hw_13
      obtain ⟨lz_14, elz_14⟩ : ∃ z : Nat, z = rmv lf_1 (plc pn lf_1 (pb cn2_1)) := ⟨_, rfl⟩
      rw [← elz_14] at hw_13
      subst hw_13
      have hlz_14 : lz_14 ≤ lf_1 := by rw [elz_14]; exact rmv_le
      refine lv_istore_n (lv' := [(1, .int (nI lz_14)), (3, .int (nI zp_6)), (2, .int (nI cn2_1)), (0, .ref z0)]) hx hb dX1_isAtRest_63 rfl hl (by decide) rfl (fun ls hl => ?_)
      refine lv_iinc (v := (nI (cn2_1 + 1))) (lv' := [(2, .int (nI (cn2_1 + 1))), (1, .int (nI lz_14)), (3, .int (nI zp_6)), (0, .ref z0)]) hx hb dX1_isAtRest_64 hl (k := 2) rfl (nI_add cn2_1 1) (by decide) rfl (fun ls hl => ?_)
      refine lv_goto (tgt := 7) hx hb dX1_isAtRest_67 (by decide) ?_
      exact ih_1 _ (cn2_1 + 1, lz_14) _ _ _ (by omega) ⟨rfl, ⟨by omega, elz_14.trans (by rw [hv_1.2.1]; rfl), by omega, fun k hk => by rcases (show k = cn2_1 ∨ k < cn2_1 by omega) with e | e; rw [e]; exact (rsx (K := (kx pco pd pe pn)) hv_1.2.1 hbq_1 ezb_4 (hw_7.trans (congrArg (kx pco pd pe pn cn2_1) ezp_6)) (hw_11.trans (congrArg (kx pco pd pe pn cn2_1) ezp_10))).mp (Int32.not_lt.mpr c_12); exact hv_1.2.2.2 k e⟩, hP, hS, (lv_sub hl [0, 1, 3] rfl)⟩
    · refine lv_iconst (v := 0) hx hb dX1_isAtRest_55 (by decide) ?_
      exact W.zret (v := 0) (ty := .boolean) hx hb hr rfl (fun t ht hW => ⟨⟨0, (), rfl, .inr ⟨rfl, fun q => absurd (Int32.not_le.mp c_12) ((rsx (K := (kx pco pd pe pn)) hv_1.2.1 hbq_1 ezb_4 (hw_7.trans (congrArg (kx pco pd pe pn cn2_1) ezp_6)) (hw_11.trans (congrArg (kx pco pd pe pn cn2_1) ezp_10))).mpr (fun a ha => q cn2_1 (by omega) a ha))⟩, trivial⟩, hS.F ht⟩) hS.2.2 dX1_isAtRest_56


set_option maxHeartbeats 4000000 in
set_option maxRecDepth 100000 in
theorem y_changeInTurn (l : Launch) (D : va_G) (k : Nat → ClassId) (st : Nat → Nat) (lo : Nat) (c0 : Nat) (z0 : Nat) (z1 : Nat) (z2 : Nat) (z3 : Nat) (pn : Nat) (pf : Nat) (pd : Int32) (pe : Int32) (pb : Nat → Nat) (pco : Nat → Int32) (c1 : Nat) (c2 : Nat) (cc : Nat) (rz : Nat) (ro : Int32) (sd : Int32) (hpn : pn ≤ 24) (hcc : cc ≤ 4) (hpb : ∀ j, pb j ≤ 24) (hpf : pf < 16777216) (hb4 : le4 pn pb) : CWi l D k st lo yX1_changeInTurn cX1_changeInTurn 5 (some .boolean) ({ frames := 3, cells := 0, slots := 0, locals := 72 }) 0 0 [.ref z0] [(z0, .inr (1, (fX1 c0 z1 z2 z3 (nI pn) (nI pf) pd pe))), (aI k z1 4 (nF pb)), (aI k z2 100 pco), (c0, .inr (4, (fX4 c1 c2 (nI cc) (nI rz) ro sd)))] (fun (r : Int32) (pb_ : (Nat → Nat)) => ((r = 1 ∧ ¬ eq4 (tnB pn pf (kx pco pd pe pn) pb cc) pb) ∨ (r = 0 ∧ eq4 (tnB pn pf (kx pco pd pe pn) pb cc) pb)) ∧ eq4 pb_ (tnB pn pf (kx pco pd pe pn) pb cc) ∧ (∀ j, pb_ j ≤ 24)) (fun (pb_ : (Nat → Nat)) => [(z0, .inr (1, (fX1 c0 z1 z2 z3 (nI pn) (nI pf) pd pe))), (aI k z1 4 (nF pb_)), (aI k z2 100 pco), (c0, .inr (4, (fX4 c1 c2 (nI cc) (nI rz) ro sd)))]) := by
  intro sz
  refine Met.ofW (cc := cX1_changeInTurn) (maxL := 5) (ret := (some .boolean)) (by decide) rfl ?_
  intro p e s m args below meth c s₁ B hml hv
  obtain ⟨rfl, hsz, hlo, hP, hK, hDL, hZ⟩ := hv
  have hx := B.exec
  have hb := B.bytes
  have hr := B.returns
  have hts := WS_ts B.pre
  have hown : s.vm.findClass RX1 = some m.cls := findClass_of_methodNamed B.named
  have hlocks := B.notSynchronized
  subst hsz
  have hD := hDL.self (sz := s.heap.size)
  have hAlo := A_lo hDL hlo
  generalize hAe : va_A [(z0, .inr (1, (fX1 c0 z1 z2 z3 (nI pn) (nI pf) pd pe))), (aI k z1 4 (nF pb)), (aI k z2 100 pco), (c0, .inr (4, (fX4 c1 c2 (nI cc) (nI rz) ro sd)))] s.heap.size = A at hD hAlo ⊢
  have hA : ∀ q : Nat, s.heap.size ≤ q → A q := fun q h => by rw [← hAe]; exact Or.inr h
  have hS : va_S A s.heap s.heap [] := va_S.rf
  have hl := lv_entry ([.ref z0]) (n := 5) (Nat.le_of_ble_eq_true rfl)
  rw [lg_entry_eq]
  generalize (lg_sl ([.ref z0]) ++ List.replicate (5 - (lg_sl ([.ref z0])).length) Slot.unset).toArray = ls at hl ⊢
  have hl : lv_has ls 5 [(0, .ref z0)] := hl
  refine lv_iconst (v := 0) hx hb dX1_changeInTurn_0 (by decide) ?_
  refine lv_istore_n (lv' := [(1, .int 0), (0, .ref z0)]) hx hb dX1_changeInTurn_1 rfl hl (by decide) rfl (fun ls hl => ?_)
  refine lv_aload_n hx hb dX1_changeInTurn_2 rfl (lv_at hl 1 rfl) ?_
  refine va_get (D := D) (ci := 1) (v := .int (nI pf)) (C := RX1) (T := TX1) (N := 8) hx hb hts inX1 hown hK hP 0 rfl rfl 5 (by decide) (hts _ tw_241) (fun _ h9 => h9) rfl dX1_changeInTurn_3 ?_
  refine lv_istore_n (lv' := [(2, .int (nI pf)), (1, .int 0), (0, .ref z0)]) hx hb dX1_changeInTurn_6 rfl hl (by decide) rfl (fun ls hl => ?_)
  refine lv_iconst (v := 0) hx hb dX1_changeInTurn_7 (by decide) ?_
  refine lv_istore_n (lv' := [(3, .int 0), (2, .int (nI pf)), (1, .int 0), (0, .ref z0)]) hx hb dX1_changeInTurn_8 rfl hl (by decide) rfl (fun ls hl => ?_)
  refine W_loop (σ := Nat × Int32 × Nat × (Nat → Nat)) (fun (n_ : Nat) (x_ : Nat × Int32 × Nat × (Nat → Nat)) (H : Heap) (locs : List Loc) (ls : Array Slot) => match x_ with | (cn2_1, ch_1, lf_1, pb2_1) => n_ = 5 - cn2_1 ∧ ((cn2_1 ≤ cc ∧ lf_1 = LF pn pb2_1 pf cn2_1 ∧ lf_1 ≤ pf) ∧ eq4 pb2_1 (tnB pn pf (kx pco pd pe pn) pb cn2_1) ∧ chP pn pf (kx pco pd pe pn) pb cn2_1 ch_1 ∧ (∀ j, pb2_1 j ≤ 24)) ∧ va_P D classes [(z0, .inr (1, (fX1 c0 z1 z2 z3 (nI pn) (nI pf) pd pe))), (aI k z1 4 (nF pb2_1)), (aI k z2 100 pco), (c0, .inr (4, (fX4 c1 c2 (nI cc) (nI rz) ro sd)))] H ∧ va_D A [(z0, .inr (1, (fX1 c0 z1 z2 z3 (nI pn) (nI pf) pd pe))), (aI k z1 4 (nF pb2_1)), (aI k z2 100 pco), (c0, .inr (4, (fX4 c1 c2 (nI cc) (nI rz) ro sd)))] ∧ va_S A s.heap H locs ∧ lv_has ls 5 [(3, .int (nI cn2_1)), (2, .int (nI lf_1)), (1, .int ch_1), (0, .ref z0)]) (fun n_1 x_1 H locs ls hI ih_1 => ?_) _ (0, 0, pf, pb) ⟨rfl, ⟨⟨by omega, rfl, Nat.le_refl _⟩, eq4_r _, .inr ⟨rfl, fun j h => absurd h (Nat.not_lt_zero j)⟩, hpb⟩, hP, hD, hS, (lv_sub hl [0, 1, 2, 3] rfl)⟩
  obtain ⟨cn2_1, ch_1, lf_1, pb2_1⟩ := x_1
  obtain ⟨hm_1, hv_1, hP, hD, hS, hl⟩ := hI
  subst hm_1
  have hpl_1 := hv_1.2.2.2
  refine lv_iload_n hx hb dX1_changeInTurn_9 rfl (lv_at hl 0 rfl) ?_
  refine lv_aload_n hx hb dX1_changeInTurn_10 rfl (lv_at hl 3 rfl) ?_
  refine va_get (D := D) (ci := 1) (v := .ref c0) (C := RX1) (T := TX1) (N := 8) hx hb hts inX1 hown hK hP 0 rfl rfl 0 (by decide) (hts _ tw_235) (fun _ h9 => h9) rfl dX1_changeInTurn_11 ?_
  refine va_get (D := D) (ci := 4) (v := .int (nI cc)) (C := RX4) (T := TX4) (N := 6) hx hb hts inX4 hown hK hP 3 rfl rfl 2 (by decide) (hts _ tw_179) (fun _ h9 => h9) rfl dX1_changeInTurn_14 ?_
  refine lv_icmp_ge (tgt := 62) hx hb dX1_changeInTurn_17 (by decide) (fun c_2 => ?_) (fun c_2 => ?_)
  · have c_2 := (nI_leI (a := cc) (b := cn2_1) (by omega) (by omega)).mp c_2
    refine lv_iload_n hx hb dX1_changeInTurn_62 rfl (lv_at hl 2 rfl) ?_
    have hce_9 := ch_end (show cn2_1 ≤ 4 by omega) hv_1.2.2.1
    rw [show cn2_1 = cc by omega] at hce_9
    rcases hce_9 with ⟨hE_9, hce_9⟩ | ⟨hE_9, hce_9⟩
    · refine lv_ti (y := 1) hE_9 ?_
      have hP9 := hP.sub (ws' := [(z0, .inr (1, (fX1 c0 z1 z2 z3 (nI pn) (nI pf) pd pe))), (aI k z1 4 (nF pb2_1)), (aI k z2 100 pco), (c0, .inr (4, (fX4 c1 c2 (nI cc) (nI rz) ro sd)))]) [0, 1, 2, 3] rfl
      have hD9 := hD.sub (ws' := [(z0, .inr (1, (fX1 c0 z1 z2 z3 (nI pn) (nI pf) pd pe))), (aI k z1 4 (nF pb2_1)), (aI k z2 100 pco), (c0, .inr (4, (fX4 c1 c2 (nI cc) (nI rz) ro sd)))]) [0, 1, 2, 3] (by decide) rfl
      exact W.zret (v := 1) (ty := .boolean) hx hb hr rfl (fun t ht hW => ⟨⟨1, pb2_1, rfl, ⟨.inl ⟨rfl, hce_9⟩, (by have h9 := hv_1.2.1; rw [show cn2_1 = cc by omega] at h9; exact h9), hpl_1⟩, by rw [ht]; exact hP9, hD9⟩, hS.F ht⟩) hS.2.2 dX1_changeInTurn_63
    · refine lv_ti (y := 0) hE_9 ?_
      have hP9 := hP.sub (ws' := [(z0, .inr (1, (fX1 c0 z1 z2 z3 (nI pn) (nI pf) pd pe))), (aI k z1 4 (nF pb2_1)), (aI k z2 100 pco), (c0, .inr (4, (fX4 c1 c2 (nI cc) (nI rz) ro sd)))]) [0, 1, 2, 3] rfl
      have hD9 := hD.sub (ws' := [(z0, .inr (1, (fX1 c0 z1 z2 z3 (nI pn) (nI pf) pd pe))), (aI k z1 4 (nF pb2_1)), (aI k z2 100 pco), (c0, .inr (4, (fX4 c1 c2 (nI cc) (nI rz) ro sd)))]) [0, 1, 2, 3] (by decide) rfl
      exact W.zret (v := 0) (ty := .boolean) hx hb hr rfl (fun t ht hW => ⟨⟨0, pb2_1, rfl, ⟨.inr ⟨rfl, hce_9⟩, (by have h9 := hv_1.2.1; rw [show cn2_1 = cc by omega] at h9; exact h9), hpl_1⟩, by rw [ht]; exact hP9, hD9⟩, hS.F ht⟩) hS.2.2 dX1_changeInTurn_63
  · have c_2 : ¬ (cc ≤ cn2_1) := fun h => c_2 ((nI_leI (a := cc) (b := cn2_1) (by omega) (by omega)).mpr h)
    have hbq_1 : pb2_1 cn2_1 ≤ pn := by rw [hv_1.2.1 cn2_1 (by omega), tnB_hi cn2_1 cn2_1 (Nat.le_refl _)]; exact hb4 cn2_1 (by omega)
    refine lv_aload_n hx hb dX1_changeInTurn_20 rfl (lv_at hl 3 rfl) ?_
    refine lv_iload_n hx hb dX1_changeInTurn_21 rfl (lv_at hl 0 rfl) ?_
    refine lv_iload_n hx hb dX1_changeInTurn_22 rfl (lv_at hl 1 rfl) ?_
    refine ro_i (D := D) (va_runV (As := [.int (nI cn2_1), .int (nI lf_1)]) (rest := []) ⟨hx, hb, hml, hown, hts⟩ ((y_bestBar l D k st lo c0 z0 z1 z2 z3 pn pf pd pe pb2_1 pco cn2_1 lf_1 (by first | assumption | omega) (by first | assumption | omega) hpl_1 (by first | assumption | omega) (by first | assumption | omega)) H.size) (cwV 2 hts (gV tw_858 tw_860 tw_22 tw_84 tw_861) rfl rfl rfl (by decide +kernel) ⟨Nat.le_of_ble_eq_true rfl, Nat.le_of_ble_eq_true rfl⟩) (pV hS hAlo hlo hP hK (va_Dlo hD hAlo) hZ [0, 1, 2] (by decide) rfl (ci := 1) (q := (RX1, TX1, 8)) (q0 := 0) rfl rfl) rfl rfl hl.1 rfl (lv_room (Nat.le_of_ble_eq_true rfl)) dX1_changeInTurn_23 ⟨Nat.le_of_ble_eq_true rfl, Nat.le_of_ble_eq_true rfl⟩) hS hA hP (fun r_3 H locs hw_3 hP hS => ?_)
    try dsimp only at hw_3
    obtain ⟨zb_4, ezb_4⟩ : ∃ z : Nat, z = bsF pn (fun b => kx pco pd pe pn cn2_1 (plc pn lf_1 b)) (pb2_1 cn2_1) := ⟨_, rfl⟩
    rw [← ezb_4] at hw_3
    subst hw_3
    have hzb_4 : zb_4 ≤ pn := by rw [ezb_4]; exact bsF_le (by omega)
    refine lv_istore (lv' := [(4, .int (nI zb_4)), (3, .int (nI cn2_1)), (2, .int (nI lf_1)), (1, .int ch_1), (0, .ref z0)]) hx hb dX1_changeInTurn_26 hl (by decide) rfl (fun ls hl => ?_)
    refine lv_iload hx hb dX1_changeInTurn_28 (lv_at hl 0 rfl) ?_
    refine lv_aload_n hx hb dX1_changeInTurn_30 rfl (lv_at hl 4 rfl) ?_
    refine va_get (D := D) (ci := 1) (v := .ref z1) (C := RX1) (T := TX1) (N := 8) hx hb hts inX1 hown hK hP 0 rfl rfl 1 (by decide) (hts _ tw_236) (fun _ h9 => h9) rfl dX1_changeInTurn_31 ?_
    refine lv_iload_n hx hb dX1_changeInTurn_34 rfl (lv_at hl 1 rfl) ?_
    refine va_iald hx hb hK hP 1 1 rfl rfl (vp_in_nI (by omega) (by decide)) dX1_changeInTurn_35 ?_
    have hq_5 := hpl_1 cn2_1
    refine lv_ti (y := (nI (pb2_1 cn2_1))) (by rw [nI_clamp (by omega)]; rfl) ?_
    refine lv_icmp_eq (tgt := 49) hx hb dX1_changeInTurn_36 (by decide) (fun c_6 => ?_) (fun c_6 => ?_)
    · have c_6 := (nI_eq (a := zb_4) (b := (pb2_1 cn2_1)) (by omega) (by omega)).mp c_6
      refine lv_aload_n hx hb dX1_changeInTurn_49 rfl (lv_at hl 4 rfl) ?_
      refine lv_iload_n hx hb dX1_changeInTurn_50 rfl (lv_at hl 1 rfl) ?_
      refine lv_iload_n hx hb dX1_changeInTurn_51 rfl (lv_at hl 2 rfl) ?_
      refine ro_i (D := D) (va_runV (As := [.int (nI cn2_1), .int (nI lf_1)]) (rest := []) ⟨hx, hb, hml, hown, hts⟩ ((y_leftBehind l D k st lo c0 z0 z1 z2 z3 pn pf pd pe pb2_1 cn2_1 lf_1 (by first | assumption | omega) (by first | assumption | omega) hpl_1 (by first | assumption | omega)) H.size) (cwV 2 hts (gV tw_834 tw_836 tw_19 tw_84 tw_837) rfl rfl rfl (by decide +kernel) ⟨Nat.le_of_ble_eq_true rfl, Nat.le_of_ble_eq_true rfl⟩) (pV hS hAlo hlo hP hK (va_Dlo hD hAlo) hZ [0, 1] (by decide) rfl (ci := 1) (q := (RX1, TX1, 8)) (q0 := 0) rfl rfl) rfl rfl hl.1 rfl (lv_room (Nat.le_of_ble_eq_true rfl)) dX1_changeInTurn_52 ⟨Nat.le_of_ble_eq_true rfl, Nat.le_of_ble_eq_true rfl⟩) hS hA hP (fun r_7 H locs hw_7 hP hS => ?_)
      try dsimp only at hw_7
      obtain ⟨lz_8, elz_8⟩ : ∃ z : Nat, z = rmv lf_1 (plc pn lf_1 (pb2_1 cn2_1)) := ⟨_, rfl⟩
      rw [← elz_8] at hw_7
      subst hw_7
      have hlz_8 : lz_8 ≤ lf_1 := by rw [elz_8]; exact rmv_le
      refine lv_istore_n (lv' := [(2, .int (nI lz_8)), (4, .int (nI zb_4)), (3, .int (nI cn2_1)), (1, .int ch_1), (0, .ref z0)]) hx hb dX1_changeInTurn_55 rfl hl (by decide) rfl (fun ls hl => ?_)
      refine lv_iinc (v := (nI (cn2_1 + 1))) (lv' := [(3, .int (nI (cn2_1 + 1))), (2, .int (nI lz_8)), (4, .int (nI zb_4)), (1, .int ch_1), (0, .ref z0)]) hx hb dX1_changeInTurn_56 hl (k := 2) rfl (nI_add cn2_1 1) (by decide) rfl (fun ls hl => ?_)
      refine lv_goto (tgt := 9) hx hb dX1_changeInTurn_59 (by decide) ?_
      have hts_9 := tn_step (b3 := pb2_1) (show cn2_1 < 4 by omega) hv_1.2.1 hv_1.1.2.1 ezb_4 (fun j => by by_cases q : j = cn2_1; rw [if_pos q, q]; omega; rw [if_neg q])
      have hcs_9 := ch_st (show cn2_1 < 4 by omega) hv_1.2.1 (tn_at (lf := 0) (zb := zb_4) (b2 := pb2_1) (show cn2_1 < 4 by omega) hts_9.1 (fun j => by by_cases q : j = cn2_1; rw [if_pos q, q]; omega; rw [if_neg q])) hv_1.2.2.1
      exact ih_1 _ (cn2_1 + 1, ch_1, lz_8, pb2_1) _ _ _ (by omega) ⟨rfl, ⟨⟨by omega, elz_8.trans hts_9.2, by omega⟩, hts_9.1, hcs_9.1 (by omega), hpl_1⟩, hP, hD, hS, (lv_sub hl [0, 1, 3, 4] rfl)⟩
    · have c_6 : ¬ (zb_4 = (pb2_1 cn2_1)) := fun h => c_6 ((nI_eq (a := zb_4) (b := (pb2_1 cn2_1)) (by omega) (by omega)).mpr h)
      refine lv_aload_n hx hb dX1_changeInTurn_39 rfl (lv_at hl 4 rfl) ?_
      refine va_get (D := D) (ci := 1) (v := .ref z1) (C := RX1) (T := TX1) (N := 8) hx hb hts inX1 hown hK hP 0 rfl rfl 1 (by decide) (hts _ tw_236) (fun _ h9 => h9) rfl dX1_changeInTurn_40 ?_
      refine lv_iload_n hx hb dX1_changeInTurn_43 rfl (lv_at hl 1 rfl) ?_
      refine lv_iload hx hb dX1_changeInTurn_44 (lv_at hl 0 rfl) ?_
      refine va_iast hx hb hK hP hD hS 1 1 rfl rfl (vp_in_nI (by omega) (by decide)) dX1_changeInTurn_46 (fun H locs hP hD hS => ?_)
      replace hP : va_P D classes [(z0, .inr (1, (fX1 c0 z1 z2 z3 (nI pn) (nI pf) pd pe))), (aI k z1 4 (upd (nF pb2_1) (Int32.toNatClampNeg (nI cn2_1)) (nI zb_4))), (aI k z2 100 pco), (c0, .inr (4, (fX4 c1 c2 (nI cc) (nI rz) ro sd)))] H := hP
      replace hD : va_D A [(z0, .inr (1, (fX1 c0 z1 z2 z3 (nI pn) (nI pf) pd pe))), (aI k z1 4 (upd (nF pb2_1) (Int32.toNatClampNeg (nI cn2_1)) (nI zb_4))), (aI k z2 100 pco), (c0, .inr (4, (fX4 c1 c2 (nI cc) (nI rz) ro sd)))] := hD
      rw [nI_clamp (n := cn2_1) (by omega)] at hP hD
      rw [show upd (nF pb2_1) cn2_1 (nI zb_4) = nF (fun j => if j = cn2_1 then zb_4 else pb2_1 j) from nF_upd _ _ _] at hP hD
      obtain ⟨d_11, hd_11⟩ : ∃ z : Nat → Nat, z = (fun j => if j = cn2_1 then zb_4 else pb2_1 j) := ⟨_, rfl⟩
      rw [← hd_11] at hP hD
      have hbb_11 : ∀ j, d_11 j ≤ 24 := by rw [hd_11]; exact up_le hpl_1 (by omega)
      refine lv_iconst (v := 1) hx hb dX1_changeInTurn_47 (by decide) ?_
      refine lv_istore_n (lv' := [(1, .int 1), (4, .int (nI zb_4)), (3, .int (nI cn2_1)), (2, .int (nI lf_1)), (0, .ref z0)]) hx hb dX1_changeInTurn_48 rfl hl (by decide) rfl (fun ls hl => ?_)
      refine lv_aload_n hx hb dX1_changeInTurn_49 rfl (lv_at hl 4 rfl) ?_
      refine lv_iload_n hx hb dX1_changeInTurn_50 rfl (lv_at hl 2 rfl) ?_
      refine lv_iload_n hx hb dX1_changeInTurn_51 rfl (lv_at hl 3 rfl) ?_
      refine ro_i (D := D) (va_runV (As := [.int (nI cn2_1), .int (nI lf_1)]) (rest := []) ⟨hx, hb, hml, hown, hts⟩ ((y_leftBehind l D k st lo c0 z0 z1 z2 z3 pn pf pd pe d_11 cn2_1 lf_1 (by first | assumption | omega) (by first | assumption | omega) hbb_11 (by first | assumption | omega)) H.size) (cwV 2 hts (gV tw_834 tw_836 tw_19 tw_84 tw_837) rfl rfl rfl (by decide +kernel) ⟨Nat.le_of_ble_eq_true rfl, Nat.le_of_ble_eq_true rfl⟩) (pV hS hAlo hlo hP hK (va_Dlo hD hAlo) hZ [0, 1] (by decide) rfl (ci := 1) (q := (RX1, TX1, 8)) (q0 := 0) rfl rfl) rfl rfl hl.1 rfl (lv_room (Nat.le_of_ble_eq_true rfl)) dX1_changeInTurn_52 ⟨Nat.le_of_ble_eq_true rfl, Nat.le_of_ble_eq_true rfl⟩) hS hA hP (fun r_12 H locs hw_12 hP hS => ?_)
      try dsimp only at hw_12
      obtain ⟨lz_13, elz_13⟩ : ∃ z : Nat, z = rmv lf_1 (plc pn lf_1 (d_11 cn2_1)) := ⟨_, rfl⟩
      rw [← elz_13] at hw_12
      subst hw_12
      have hlz_13 : lz_13 ≤ lf_1 := by rw [elz_13]; exact rmv_le
      refine lv_istore_n (lv' := [(2, .int (nI lz_13)), (1, .int 1), (4, .int (nI zb_4)), (3, .int (nI cn2_1)), (0, .ref z0)]) hx hb dX1_changeInTurn_55 rfl hl (by decide) rfl (fun ls hl => ?_)
      refine lv_iinc (v := (nI (cn2_1 + 1))) (lv' := [(3, .int (nI (cn2_1 + 1))), (2, .int (nI lz_13)), (1, .int 1), (4, .int (nI zb_4)), (0, .ref z0)]) hx hb dX1_changeInTurn_56 hl (k := 3) rfl (nI_add cn2_1 1) (by decide) rfl (fun ls hl => ?_)
      refine lv_goto (tgt := 9) hx hb dX1_changeInTurn_59 (by decide) ?_
      have hts_14 := tn_step (b3 := d_11) (show cn2_1 < 4 by omega) hv_1.2.1 hv_1.1.2.1 ezb_4 (fun j => by rw [hd_11])
      have hcs_14 := ch_st (show cn2_1 < 4 by omega) hv_1.2.1 (tn_at (lf := 0) (zb := zb_4) (b2 := pb2_1) (show cn2_1 < 4 by omega) hts_14.1 (fun j => by rw [hd_11])) hv_1.2.2.1
      exact ih_1 _ (cn2_1 + 1, 1, lz_13, d_11) _ _ _ (by omega) ⟨rfl, ⟨⟨by omega, elz_13.trans hts_14.2, by omega⟩, hts_14.1, hcs_14.2 (by omega), hbb_11⟩, hP, hD, hS, (lv_sub hl [0, 1, 2, 4] rfl)⟩


set_option maxHeartbeats 4000000 in
set_option maxRecDepth 100000 in
theorem y_goByTurns (l : Launch) (D : va_G) (k : Nat → ClassId) (st : Nat → Nat) (lo : Nat) (c0 : Nat) (z0 : Nat) (z1 : Nat) (z2 : Nat) (z3 : Nat) (pn : Nat) (pf : Nat) (pd : Int32) (pe : Int32) (pb : Nat → Nat) (pco : Nat → Int32) (c1 : Nat) (c2 : Nat) (cc : Nat) (rz : Nat) (ro : Int32) (sd : Int32) (hpn : pn ≤ 24) (hcc : cc ≤ 4) (hpb : ∀ j, pb j ≤ 24) (hpf : pf < 16777216) (hb4 : le4 pn pb) : CWi l D k st lo yX1_goByTurns cX1_goByTurns 2 (some .int) ({ frames := 4, cells := 0, slots := 0, locals := 96 }) 0 0 [.ref z0] [(z0, .inr (1, (fX1 c0 z1 z2 z3 (nI pn) (nI pf) pd pe))), (aI k z1 4 (nF pb)), (aI k z2 100 pco), (c0, .inr (4, (fX4 c1 c2 (nI cc) (nI rz) ro sd)))] (fun (r : Int32) (pb_ : (Nat → Nat)) => gtP (tnT pn pf (kx pco pd pe pn) cc) 50 pb pb_ ∧ (∀ j, pb_ j ≤ 24) ∧ le4 pn pb_) (fun (pb_ : (Nat → Nat)) => [(z0, .inr (1, (fX1 c0 z1 z2 z3 (nI pn) (nI pf) pd pe))), (aI k z1 4 (nF pb_)), (aI k z2 100 pco), (c0, .inr (4, (fX4 c1 c2 (nI cc) (nI rz) ro sd)))]) := by
  intro sz
  refine Met.ofW (cc := cX1_goByTurns) (maxL := 2) (ret := (some .int)) (by decide) rfl ?_
  intro p e s m args below meth c s₁ B hml hv
  obtain ⟨rfl, hsz, hlo, hP, hK, hDL, hZ⟩ := hv
  have hx := B.exec
  have hb := B.bytes
  have hr := B.returns
  have hts := WS_ts B.pre
  have hown : s.vm.findClass RX1 = some m.cls := findClass_of_methodNamed B.named
  have hlocks := B.notSynchronized
  subst hsz
  have hD := hDL.self (sz := s.heap.size)
  have hAlo := A_lo hDL hlo
  generalize hAe : va_A [(z0, .inr (1, (fX1 c0 z1 z2 z3 (nI pn) (nI pf) pd pe))), (aI k z1 4 (nF pb)), (aI k z2 100 pco), (c0, .inr (4, (fX4 c1 c2 (nI cc) (nI rz) ro sd)))] s.heap.size = A at hD hAlo ⊢
  have hA : ∀ q : Nat, s.heap.size ≤ q → A q := fun q h => by rw [← hAe]; exact Or.inr h
  have hS : va_S A s.heap s.heap [] := va_S.rf
  have hl := lv_entry ([.ref z0]) (n := 2) (Nat.le_of_ble_eq_true rfl)
  rw [lg_entry_eq]
  generalize (lg_sl ([.ref z0]) ++ List.replicate (2 - (lg_sl ([.ref z0])).length) Slot.unset).toArray = ls at hl ⊢
  have hl : lv_has ls 2 [(0, .ref z0)] := hl
  refine lv_iconst (v := 0) hx hb dX1_goByTurns_0 (by decide) ?_
  refine lv_istore_n (lv' := [(1, .int 0), (0, .ref z0)]) hx hb dX1_goByTurns_1 rfl hl (by decide) rfl (fun ls hl => ?_)
  refine W_loop (σ := Nat × (Nat → Nat)) (fun (n_ : Nat) (x_ : Nat × (Nat → Nat)) (H : Heap) (locs : List Loc) (ls : Array Slot) => match x_ with | (tt_1, pb2_1) => n_ = 51 - tt_1 ∧ (tt_1 ≤ 50 ∧ (∀ z, gtP (tnT pn pf (kx pco pd pe pn) cc) (50 - tt_1) pb2_1 z → gtP (tnT pn pf (kx pco pd pe pn) cc) 50 pb z) ∧ le4 pn pb2_1 ∧ (∀ j, pb2_1 j ≤ 24)) ∧ va_P D classes [(z0, .inr (1, (fX1 c0 z1 z2 z3 (nI pn) (nI pf) pd pe))), (aI k z1 4 (nF pb2_1)), (aI k z2 100 pco), (c0, .inr (4, (fX4 c1 c2 (nI cc) (nI rz) ro sd)))] H ∧ va_D A [(z0, .inr (1, (fX1 c0 z1 z2 z3 (nI pn) (nI pf) pd pe))), (aI k z1 4 (nF pb2_1)), (aI k z2 100 pco), (c0, .inr (4, (fX4 c1 c2 (nI cc) (nI rz) ro sd)))] ∧ va_S A s.heap H locs ∧ lv_has ls 2 [(1, .int (nI tt_1)), (0, .ref z0)]) (fun n_1 x_1 H locs ls hI ih_1 => ?_) _ (0, pb) ⟨rfl, ⟨by omega, fun _ h => h, hb4, hpb⟩, hP, hD, hS, (lv_sub hl [0, 1] rfl)⟩
  obtain ⟨tt_1, pb2_1⟩ := x_1
  obtain ⟨hm_1, hv_1, hP, hD, hS, hl⟩ := hI
  subst hm_1
  have hpl_1 := hv_1.2.2.2
  refine lv_iload_n hx hb dX1_goByTurns_2 rfl (lv_at hl 0 rfl) ?_
  refine lv_bipush (v := 50) hx hb dX1_goByTurns_3 (by decide) ?_
  refine lv_icmp_ge (tgt := 23) hx hb dX1_goByTurns_5 (by decide) (fun c_2 => ?_) (fun c_2 => ?_)
  · have c_2 := (nI_leI (a := 50) (b := tt_1) (by omega) (by omega)).mp c_2
    refine lv_iconst (v := (-1)) hx hb dX1_goByTurns_23 (by decide) ?_
    have hP9 := hP.sub (ws' := [(z0, .inr (1, (fX1 c0 z1 z2 z3 (nI pn) (nI pf) pd pe))), (aI k z1 4 (nF pb2_1)), (aI k z2 100 pco), (c0, .inr (4, (fX4 c1 c2 (nI cc) (nI rz) ro sd)))]) [0, 1, 2, 3] rfl
    have hD9 := hD.sub (ws' := [(z0, .inr (1, (fX1 c0 z1 z2 z3 (nI pn) (nI pf) pd pe))), (aI k z1 4 (nF pb2_1)), (aI k z2 100 pco), (c0, .inr (4, (fX4 c1 c2 (nI cc) (nI rz) ro sd)))]) [0, 1, 2, 3] (by decide) rfl
    exact W.iret (v := (-1)) hx hb hr (fun t ht hW => ⟨⟨(-1), pb2_1, rfl, ⟨hv_1.2.1 _ (by rw [show 50 - tt_1 = 0 by omega]; exact eq4_r _), hv_1.2.2.2, hv_1.2.2.1⟩, by rw [ht]; exact hP9, hD9⟩, hS.F ht⟩) hS.2.2 dX1_goByTurns_24
  · have c_2 : ¬ (50 ≤ tt_1) := fun h => c_2 ((nI_leI (a := 50) (b := tt_1) (by omega) (by omega)).mpr h)
    refine lv_aload_n hx hb dX1_goByTurns_8 rfl (lv_at hl 1 rfl) ?_
    refine rw_i (D := D) (wr := []) (va_runV (As := []) (rest := []) ⟨hx, hb, hml, hown, hts⟩ ((y_changeInTurn l D k st lo c0 z0 z1 z2 z3 pn pf pd pe pb2_1 pco c1 c2 cc rz ro sd (by first | assumption | omega) (by first | assumption | omega) hpl_1 (by first | assumption | omega) hv_1.2.2.1) H.size) (cwV 0 hts (gV tw_875 tw_877 tw_24 tw_84 tw_878) rfl rfl rfl (by decide +kernel) ⟨Nat.le_of_ble_eq_true rfl, Nat.le_of_ble_eq_true rfl⟩) (pV hS hAlo hlo hP hK (va_Dlo hD hAlo) hZ [0, 1, 2, 3] (by decide) rfl (ci := 1) (q := (RX1, TX1, 8)) (q0 := 0) rfl rfl) rfl rfl hl.1 rfl (lv_room (Nat.le_of_ble_eq_true rfl)) dX1_goByTurns_9 ⟨Nat.le_of_ble_eq_true rfl, Nat.le_of_ble_eq_true rfl⟩) hS hA hP hD [0, 1, 2, 3] [] rfl rfl (by decide) (by decide) (fun r_3 u H locs hw_3 hP hD hS => ?_)
    obtain ⟨pb__3, rfl⟩ : ∃ z, z = u := ⟨_, rfl⟩
    replace hP : va_P D classes [(z0, .inr (1, (fX1 c0 z1 z2 z3 (nI pn) (nI pf) pd pe))), (aI k z1 4 (nF pb__3)), (aI k z2 100 pco), (c0, .inr (4, (fX4 c1 c2 (nI cc) (nI rz) ro sd)))] H := hP
    replace hD : va_D A [(z0, .inr (1, (fX1 c0 z1 z2 z3 (nI pn) (nI pf) pd pe))), (aI k z1 4 (nF pb__3)), (aI k z2 100 pco), (c0, .inr (4, (fX4 c1 c2 (nI cc) (nI rz) ro sd)))] := hD
    try dsimp only at hw_3
    obtain ⟨hcq_4, hct_4, hcb_4⟩ := hw_3
    rcases hcq_4 with ⟨rfl, hcq_4⟩ | ⟨rfl, hcq_4⟩
    · refine lv_if_ne (tgt := 17) hx hb dX1_goByTurns_12 (by decide) (fun _ => ?_) (fun h => absurd h (by decide))
      refine lv_iinc (v := (nI (tt_1 + 1))) (lv' := [(1, .int (nI (tt_1 + 1))), (0, .ref z0)]) hx hb dX1_goByTurns_17 hl (k := 0) rfl (nI_add tt_1 1) (by decide) rfl (fun ls hl => ?_)
      refine lv_goto (tgt := 2) hx hb dX1_goByTurns_20 (by decide) ?_
      have hl4_4 : le4 pn pb__3 := le4_e (tnT_le (S := pf) (K := (kx pco pd pe pn)) hcc _ hv_1.2.2.1) (eq4_s hct_4)
      exact ih_1 _ (tt_1 + 1, pb__3) _ _ _ (by omega) ⟨rfl, ⟨by omega, fun z h => hv_1.2.1 z (by rw [show 50 - tt_1 = (50 - (tt_1 + 1)) + 1 by omega]; exact gt_more (tnT_le hcc) (tnT_e hcc (fun _ _ _ _ => rfl)) hv_1.2.2.1 hl4_4 hcq_4 hct_4 h), hl4_4, hcb_4⟩, hP, hD, hS, (lv_sub hl [0, 1] rfl)⟩
    · refine lv_if_ne (tgt := 17) hx hb dX1_goByTurns_12 (by decide) (fun h => absurd (by decide) h) (fun _ => ?_)
      refine lv_iload_n hx hb dX1_goByTurns_15 rfl (lv_at hl 0 rfl) ?_
      have hP9 := hP.sub (ws' := [(z0, .inr (1, (fX1 c0 z1 z2 z3 (nI pn) (nI pf) pd pe))), (aI k z1 4 (nF pb__3)), (aI k z2 100 pco), (c0, .inr (4, (fX4 c1 c2 (nI cc) (nI rz) ro sd)))]) [0, 1, 2, 3] rfl
      have hD9 := hD.sub (ws' := [(z0, .inr (1, (fX1 c0 z1 z2 z3 (nI pn) (nI pf) pd pe))), (aI k z1 4 (nF pb__3)), (aI k z2 100 pco), (c0, .inr (4, (fX4 c1 c2 (nI cc) (nI rz) ro sd)))]) [0, 1, 2, 3] (by decide) rfl
      exact W.iret (v := (nI tt_1)) hx hb hr (fun t ht hW => ⟨⟨(nI tt_1), pb__3, rfl, ⟨hv_1.2.1 _ (by rw [show 50 - tt_1 = (49 - tt_1) + 1 by omega]; exact gt_stop hcq_4 hct_4), hcb_4, le4_e (tnT_le (S := pf) (K := (kx pco pd pe pn)) hcc _ hv_1.2.2.1) (eq4_s hct_4)⟩, by rw [ht]; exact hP9, hD9⟩, hS.F ht⟩) hS.2.2 dX1_goByTurns_16


set_option maxHeartbeats 4000000 in
set_option maxRecDepth 100000 in
theorem y_costOfAll (l : Launch) (D : va_G) (k : Nat → ClassId) (st : Nat → Nat) (lo : Nat) (c0 : Nat) (z0 : Nat) (z1 : Nat) (z2 : Nat) (z3 : Nat) (pn : Nat) (pf : Nat) (pd : Int32) (pe : Int32) (pb : Nat → Nat) (pco : Nat → Int32) (c1 : Nat) (c2 : Nat) (cc : Nat) (rz : Nat) (ro : Int32) (sd : Int32) (hpn : pn ≤ 24) (hcc : cc ≤ 4) (hpb : ∀ j, pb j ≤ 24) (hpf : pf < 16777216) : CRi l D k st lo yX1_costOfAll cX1_costOfAll 4 (some .int) ({ frames := 2, cells := 0, slots := 0, locals := 45 }) [.ref z0] [(z0, .inr (1, (fX1 c0 z1 z2 z3 (nI pn) (nI pf) pd pe))), (aI k z1 4 (nF pb)), (aI k z2 100 pco), (c0, .inr (4, (fX4 c1 c2 (nI cc) (nI rz) ro sd)))] (fun r => r = smF pn pf (fun c i => pco (c * 25 + i)) pb cc) := by
  intro sz
  refine Met.ofW (cc := cX1_costOfAll) (maxL := 4) (ret := (some .int)) (by decide) rfl ?_
  intro p e s m args below meth c s₁ B hml hv
  obtain ⟨rfl, hsz, hlo, hP, hK, hDL, hZ⟩ := hv
  have hx := B.exec
  have hb := B.bytes
  have hr := B.returns
  have hts := WS_ts B.pre
  have hown : s.vm.findClass RX1 = some m.cls := findClass_of_methodNamed B.named
  have hlocks := B.notSynchronized
  subst hsz
  have hA : ∀ q : Nat, s.heap.size ≤ q → (fun q : Nat => s.heap.size ≤ q) q := fun _ h => h
  have hAlo : ∀ q : Nat, (fun q : Nat => s.heap.size ≤ q) q → lo ≤ q := fun q h => Nat.le_trans hlo h
  have hS : va_S (fun q : Nat => s.heap.size ≤ q) s.heap s.heap [] := va_S.rf
  have hl := lv_entry ([.ref z0]) (n := 4) (Nat.le_of_ble_eq_true rfl)
  rw [lg_entry_eq]
  generalize (lg_sl ([.ref z0]) ++ List.replicate (4 - (lg_sl ([.ref z0])).length) Slot.unset).toArray = ls at hl ⊢
  have hl : lv_has ls 4 [(0, .ref z0)] := hl
  refine lv_iconst (v := 0) hx hb dX1_costOfAll_0 (by decide) ?_
  refine lv_istore_n (lv' := [(1, .int 0), (0, .ref z0)]) hx hb dX1_costOfAll_1 rfl hl (by decide) rfl (fun ls hl => ?_)
  refine lv_aload_n hx hb dX1_costOfAll_2 rfl (lv_at hl 1 rfl) ?_
  refine va_get (D := D) (ci := 1) (v := .int (nI pf)) (C := RX1) (T := TX1) (N := 8) hx hb hts inX1 hown hK hP 0 rfl rfl 5 (by decide) (hts _ tw_241) (fun _ h9 => h9) rfl dX1_costOfAll_3 ?_
  refine lv_istore_n (lv' := [(2, .int (nI pf)), (1, .int 0), (0, .ref z0)]) hx hb dX1_costOfAll_6 rfl hl (by decide) rfl (fun ls hl => ?_)
  refine lv_iconst (v := 0) hx hb dX1_costOfAll_7 (by decide) ?_
  refine lv_istore_n (lv' := [(3, .int 0), (2, .int (nI pf)), (1, .int 0), (0, .ref z0)]) hx hb dX1_costOfAll_8 rfl hl (by decide) rfl (fun ls hl => ?_)
  refine W_loop (σ := Nat × Int32 × Nat) (fun (n_ : Nat) (x_ : Nat × Int32 × Nat) (H : Heap) (locs : List Loc) (ls : Array Slot) => match x_ with | (cn2_1, al_1, lf_1) => n_ = 5 - cn2_1 ∧ (cn2_1 ≤ cc ∧ lf_1 = LF pn pb pf cn2_1 ∧ lf_1 ≤ pf ∧ al_1 = smF pn pf (fun c i => pco (c * 25 + i)) pb cn2_1) ∧ va_P D classes [(z0, .inr (1, (fX1 c0 z1 z2 z3 (nI pn) (nI pf) pd pe))), (aI k z1 4 (nF pb)), (aI k z2 100 pco), (c0, .inr (4, (fX4 c1 c2 (nI cc) (nI rz) ro sd)))] H ∧ va_S (fun q : Nat => s.heap.size ≤ q) s.heap H locs ∧ lv_has ls 4 [(3, .int (nI cn2_1)), (2, .int (nI lf_1)), (1, .int al_1), (0, .ref z0)]) (fun n_1 x_1 H locs ls hI ih_1 => ?_) _ (0, 0, pf) ⟨rfl, ⟨by omega, rfl, Nat.le_refl _, rfl⟩, hP, hS, (lv_sub hl [0, 1, 2, 3] rfl)⟩
  obtain ⟨cn2_1, al_1, lf_1⟩ := x_1
  obtain ⟨hm_1, hv_1, hP, hS, hl⟩ := hI
  subst hm_1
  refine lv_iload_n hx hb dX1_costOfAll_9 rfl (lv_at hl 0 rfl) ?_
  refine lv_aload_n hx hb dX1_costOfAll_10 rfl (lv_at hl 3 rfl) ?_
  refine va_get (D := D) (ci := 1) (v := .ref c0) (C := RX1) (T := TX1) (N := 8) hx hb hts inX1 hown hK hP 0 rfl rfl 0 (by decide) (hts _ tw_235) (fun _ h9 => h9) rfl dX1_costOfAll_11 ?_
  refine va_get (D := D) (ci := 4) (v := .int (nI cc)) (C := RX4) (T := TX4) (N := 6) hx hb hts inX4 hown hK hP 3 rfl rfl 2 (by decide) (hts _ tw_179) (fun _ h9 => h9) rfl dX1_costOfAll_14 ?_
  refine lv_icmp_ge (tgt := 52) hx hb dX1_costOfAll_17 (by decide) (fun c_2 => ?_) (fun c_2 => ?_)
  · have c_2 := (nI_leI (a := cc) (b := cn2_1) (by omega) (by omega)).mp c_2
    refine lv_iload_n hx hb dX1_costOfAll_52 rfl (lv_at hl 2 rfl) ?_
    exact W.iret (v := al_1) hx hb hr (fun t ht hW => ⟨⟨al_1, (), rfl, (by rw [hv_1.2.2.2, show cn2_1 = cc by omega]), trivial⟩, hS.F ht⟩) hS.2.2 dX1_costOfAll_53
  · have c_2 : ¬ (cc ≤ cn2_1) := fun h => c_2 ((nI_leI (a := cc) (b := cn2_1) (by omega) (by omega)).mpr h)
    refine lv_iload_n hx hb dX1_costOfAll_20 rfl (lv_at hl 2 rfl) ?_
    refine lv_aload_n hx hb dX1_costOfAll_21 rfl (lv_at hl 3 rfl) ?_
    refine lv_iload_n hx hb dX1_costOfAll_22 rfl (lv_at hl 0 rfl) ?_
    refine lv_aload_n hx hb dX1_costOfAll_23 rfl (lv_at hl 3 rfl) ?_
    refine lv_aload_n hx hb dX1_costOfAll_24 rfl (lv_at hl 3 rfl) ?_
    refine va_get (D := D) (ci := 1) (v := .ref z1) (C := RX1) (T := TX1) (N := 8) hx hb hts inX1 hown hK hP 0 rfl rfl 1 (by decide) (hts _ tw_236) (fun _ h9 => h9) rfl dX1_costOfAll_25 ?_
    refine lv_iload_n hx hb dX1_costOfAll_28 rfl (lv_at hl 0 rfl) ?_
    refine va_iald hx hb hK hP 1 1 rfl rfl (vp_in_nI (by omega) (by decide)) dX1_costOfAll_29 ?_
    have hq_3 := hpb cn2_1
    refine lv_ti (y := (nI (pb cn2_1))) (by rw [nI_clamp (by omega)]; rfl) ?_
    refine lv_iload_n hx hb dX1_costOfAll_30 rfl (lv_at hl 1 rfl) ?_
    refine ro_i (D := D) (va_runV (As := [.int (nI (pb cn2_1)), .int (nI lf_1)]) (rest := [.int (nI cn2_1), .ref z0, .int al_1]) ⟨hx, hb, hml, hown, hts⟩ ((y_placeFrom l D k st lo c0 z0 z1 z2 z3 pn pf pd pe (pb cn2_1) lf_1 (by first | assumption | omega) (by first | assumption | omega) (by first | assumption | omega)) H.size) (cwV 2 hts (gV tw_838 tw_840 tw_20 tw_84 tw_841) rfl rfl rfl (by decide +kernel) ⟨Nat.le_of_ble_eq_true rfl, Nat.le_of_ble_eq_true rfl⟩) (pV hS hAlo hlo hP hK hDL hZ [0] (by decide) rfl (ci := 1) (q := (RX1, TX1, 8)) (q0 := 0) rfl rfl) rfl rfl hl.1 rfl (lv_room (Nat.le_of_ble_eq_true rfl)) dX1_costOfAll_31 ⟨Nat.le_of_ble_eq_true rfl, Nat.le_of_ble_eq_true rfl⟩) hS hA hP (fun r_4 H locs hw_4 hP hS => ?_)
    try dsimp only at hw_4
    obtain ⟨zp_5, ezp_5⟩ : ∃ z : Nat, z = plc pn lf_1 (pb cn2_1) := ⟨_, rfl⟩
    rw [← ezp_5] at hw_4
    subst hw_4
    have hzp_5 : zp_5 ≤ pn := by rw [ezp_5]; exact pl_le
    refine ro_i (D := D) (va_runV (As := [.int (nI cn2_1), .int (nI zp_5)]) (rest := [.int al_1]) ⟨hx, hb, hml, hown, hts⟩ ((y_costAt l D k st lo c0 z0 z1 z2 z3 pn pf pd pe pco cn2_1 zp_5 (by first | assumption | omega) (by first | assumption | omega)) H.size) (cwV 2 hts (gV tw_866 tw_843 tw_844 tw_84 tw_845) rfl rfl rfl (by decide +kernel) ⟨Nat.le_of_ble_eq_true rfl, Nat.le_of_ble_eq_true rfl⟩) (pV hS hAlo hlo hP hK hDL hZ [0, 2] (by decide) rfl (ci := 1) (q := (RX1, TX1, 8)) (q0 := 0) rfl rfl) rfl rfl hl.1 rfl (lv_room (Nat.le_of_ble_eq_true rfl)) dX1_costOfAll_34 ⟨Nat.le_of_ble_eq_true rfl, Nat.le_of_ble_eq_true rfl⟩) hS hA hP (fun r_6 H locs hw_6 hP hS => ?_)
    try dsimp only at hw_6
    refine lv_iadd hx hb dX1_costOfAll_37 ?_
    refine lv_topi (fun x_7 ex_7 => ?_)
    refine lv_istore_n (lv' := [(1, .int x_7), (3, .int (nI cn2_1)), (2, .int (nI lf_1)), (0, .ref z0)]) hx hb dX1_costOfAll_38 rfl hl (by decide) rfl (fun ls hl => ?_)
    refine lv_aload_n hx hb dX1_costOfAll_39 rfl (lv_at hl 3 rfl) ?_
    refine lv_iload_n hx hb dX1_costOfAll_40 rfl (lv_at hl 1 rfl) ?_
    refine lv_iload_n hx hb dX1_costOfAll_41 rfl (lv_at hl 2 rfl) ?_
    refine ro_i (D := D) (va_runV (As := [.int (nI cn2_1), .int (nI lf_1)]) (rest := []) ⟨hx, hb, hml, hown, hts⟩ ((y_leftBehind l D k st lo c0 z0 z1 z2 z3 pn pf pd pe pb cn2_1 lf_1 (by first | assumption | omega) (by first | assumption | omega) hpb (by first | assumption | omega)) H.size) (cwV 2 hts (gV tw_834 tw_836 tw_19 tw_84 tw_837) rfl rfl rfl (by decide +kernel) ⟨Nat.le_of_ble_eq_true rfl, Nat.le_of_ble_eq_true rfl⟩) (pV hS hAlo hlo hP hK hDL hZ [0, 1] (by decide) rfl (ci := 1) (q := (RX1, TX1, 8)) (q0 := 0) rfl rfl) rfl rfl hl.1 rfl (lv_room (Nat.le_of_ble_eq_true rfl)) dX1_costOfAll_42 ⟨Nat.le_of_ble_eq_true rfl, Nat.le_of_ble_eq_true rfl⟩) hS hA hP (fun r_8 H locs hw_8 hP hS => ?_)
    try dsimp only at hw_8
    obtain ⟨lz_9, elz_9⟩ : ∃ z : Nat, z = rmv lf_1 (plc pn lf_1 (pb cn2_1)) := ⟨_, rfl⟩
    rw [← elz_9] at hw_8
    subst hw_8
    have hlz_9 : lz_9 ≤ lf_1 := by rw [elz_9]; exact rmv_le
    refine lv_istore_n (lv' := [(2, .int (nI lz_9)), (1, .int x_7), (3, .int (nI cn2_1)), (0, .ref z0)]) hx hb dX1_costOfAll_45 rfl hl (by decide) rfl (fun ls hl => ?_)
    refine lv_iinc (v := (nI (cn2_1 + 1))) (lv' := [(3, .int (nI (cn2_1 + 1))), (2, .int (nI lz_9)), (1, .int x_7), (0, .ref z0)]) hx hb dX1_costOfAll_46 hl (k := 2) rfl (nI_add cn2_1 1) (by decide) rfl (fun ls hl => ?_)
    refine lv_goto (tgt := 9) hx hb dX1_costOfAll_49 (by decide) ?_
    exact ih_1 _ (cn2_1 + 1, x_7, lz_9) _ _ _ (by omega) ⟨rfl, ⟨by omega, elz_9.trans (by rw [hv_1.2.1]; rfl), by omega, (by rw [ex_7, hw_6, hv_1.2.2.2, ezp_5, hv_1.2.1]; rfl)⟩, hP, hS, (lv_sub hl [0, 1, 2, 3] rfl)⟩


set_option maxHeartbeats 4000000 in
set_option maxRecDepth 100000 in
theorem y_mendingPrice (l : Launch) (D : va_G) (k : Nat → ClassId) (st : Nat → Nat) (lo : Nat) (c0 : Nat) (z0 : Nat) (z1 : Nat) (z2 : Nat) (z3 : Nat) (pn : Nat) (pf : Nat) (pd : Int32) (pe : Int32) (pb : Nat → Nat) (pco : Nat → Int32) (c1 : Nat) (c2 : Nat) (cc : Nat) (rz : Nat) (ro : Int32) (sd : Int32) (p0 : Int32) (hpn : pn ≤ 24) (hcc : cc ≤ 4) (hpb : ∀ j, pb j ≤ 24) (hpf : pf < 16777216) : CWi l D k st lo yX1_mendingPrice cX1_mendingPrice 6 (some .int) ({ frames := 5, cells := 0, slots := 0, locals := 117 }) 0 0 [.ref z0, .int p0] [(z0, .inr (1, (fX1 c0 z1 z2 z3 (nI pn) (nI pf) pd pe))), (aI k z1 4 (nF pb)), (aI k z2 100 pco), (c0, .inr (4, (fX4 c1 c2 (nI cc) (nI rz) ro sd)))] (fun (r : Int32) (u : Int32 × Int32 × (Nat → Nat)) => match u with | (pd_, pe_, pb_) => mdP pn pf cc (fun q => kx pco p0 (nI (10 * q * 1000)) pn) (fun c i => pco (c * 25 + i)) r ∧ (∀ j, pb_ j ≤ 24)) (fun (u : Int32 × Int32 × (Nat → Nat)) => match u with | (pd_, pe_, pb_) => [(z0, .inr (1, (fX1 c0 z1 z2 z3 (nI pn) (nI pf) pd_ pe_))), (aI k z1 4 (nF pb_)), (aI k z2 100 pco), (c0, .inr (4, (fX4 c1 c2 (nI cc) (nI rz) ro sd)))]) := by
  intro sz
  refine Met.ofW (cc := cX1_mendingPrice) (maxL := 6) (ret := (some .int)) (by decide) rfl ?_
  intro p e s m args below meth c s₁ B hml hv
  obtain ⟨rfl, hsz, hlo, hP, hK, hDL, hZ⟩ := hv
  have hx := B.exec
  have hb := B.bytes
  have hr := B.returns
  have hts := WS_ts B.pre
  have hown : s.vm.findClass RX1 = some m.cls := findClass_of_methodNamed B.named
  have hlocks := B.notSynchronized
  subst hsz
  have hD := hDL.self (sz := s.heap.size)
  have hAlo := A_lo hDL hlo
  generalize hAe : va_A [(z0, .inr (1, (fX1 c0 z1 z2 z3 (nI pn) (nI pf) pd pe))), (aI k z1 4 (nF pb)), (aI k z2 100 pco), (c0, .inr (4, (fX4 c1 c2 (nI cc) (nI rz) ro sd)))] s.heap.size = A at hD hAlo ⊢
  have hA : ∀ q : Nat, s.heap.size ≤ q → A q := fun q h => by rw [← hAe]; exact Or.inr h
  have hS : va_S A s.heap s.heap [] := va_S.rf
  have hl := lv_entry ([.ref z0, .int p0]) (n := 6) (Nat.le_of_ble_eq_true rfl)
  rw [lg_entry_eq]
  generalize (lg_sl ([.ref z0, .int p0]) ++ List.replicate (6 - (lg_sl ([.ref z0, .int p0])).length) Slot.unset).toArray = ls at hl ⊢
  have hl : lv_has ls 6 [(0, .ref z0), (1, .int p0)] := hl
  refine lv_aload_n hx hb dX1_mendingPrice_0 rfl (lv_at hl 0 rfl) ?_
  refine lv_iload_n hx hb dX1_mendingPrice_1 rfl (lv_at hl 1 rfl) ?_
  refine va_put (D := D) (ci := 1) (v := .int p0) (ty := .int) (C := RX1) (T := TX1) (N := 8) hx hb hts inX1 tyX1 tyX1_ok nmX1 hown hK hP hD hS 0 rfl rfl 6 (by decide) (hts _ tw_242) (fun _ h9 => h9) rfl (by decide +kernel) rfl rfl (Nat.le_of_ble_eq_true rfl) dX1_mendingPrice_2 (fun H locs hP hD hS => ?_)
  replace hP : va_P D classes [(z0, .inr (1, (fX1 c0 z1 z2 z3 (nI pn) (nI pf) p0 pe))), (aI k z1 4 (nF pb)), (aI k z2 100 pco), (c0, .inr (4, (fX4 c1 c2 (nI cc) (nI rz) ro sd)))] H := hP
  replace hD : va_D A [(z0, .inr (1, (fX1 c0 z1 z2 z3 (nI pn) (nI pf) p0 pe))), (aI k z1 4 (nF pb)), (aI k z2 100 pco), (c0, .inr (4, (fX4 c1 c2 (nI cc) (nI rz) ro sd)))] := hD
  refine lv_iconst (v := 0) hx hb dX1_mendingPrice_5 (by decide) ?_
  refine lv_istore_n (lv' := [(2, .int 0), (0, .ref z0), (1, .int p0)]) hx hb dX1_mendingPrice_6 rfl hl (by decide) rfl (fun ls hl => ?_)
  refine lv_iconst (v := 0) hx hb dX1_mendingPrice_7 (by decide) ?_
  refine lv_istore_n (lv' := [(3, .int 0), (2, .int 0), (0, .ref z0), (1, .int p0)]) hx hb dX1_mendingPrice_8 rfl hl (by decide) rfl (fun ls hl => ?_)
  refine lv_iconst (v := 0) hx hb dX1_mendingPrice_9 (by decide) ?_
  refine lv_istore (lv' := [(4, .int 0), (3, .int 0), (2, .int 0), (0, .ref z0), (1, .int p0)]) hx hb dX1_mendingPrice_10 hl (by decide) rfl (fun ls hl => ?_)
  refine W_loop (σ := Nat × Nat × Int32 × Int32 × (Nat → Nat)) (fun (n_ : Nat) (x_ : Nat × Nat × Int32 × Int32 × (Nat → Nat)) (H : Heap) (locs : List Loc) (ls : Array Slot) => match x_ with | (pp_1, me_1, le_1, pe2_1, pb2_1) => n_ = 22 - pp_1 ∧ (pp_1 ≤ 21 ∧ mdI pn pf cc (fun q => kx pco p0 (nI (10 * q * 1000)) pn) (fun c i => pco (c * 25 + i)) pp_1 le_1 me_1 ∧ (∀ j, pb2_1 j ≤ 24)) ∧ va_P D classes [(z0, .inr (1, (fX1 c0 z1 z2 z3 (nI pn) (nI pf) p0 pe2_1))), (aI k z1 4 (nF pb2_1)), (aI k z2 100 pco), (c0, .inr (4, (fX4 c1 c2 (nI cc) (nI rz) ro sd)))] H ∧ va_D A [(z0, .inr (1, (fX1 c0 z1 z2 z3 (nI pn) (nI pf) p0 pe2_1))), (aI k z1 4 (nF pb2_1)), (aI k z2 100 pco), (c0, .inr (4, (fX4 c1 c2 (nI cc) (nI rz) ro sd)))] ∧ va_S A s.heap H locs ∧ lv_has ls 6 [(4, .int (nI pp_1)), (3, .int le_1), (2, .int (nI me_1)), (0, .ref z0), (1, .int p0)]) (fun n_1 x_1 H locs ls hI ih_1 => ?_) _ (0, 0, 0, pe, pb) ⟨rfl, ⟨by omega, md_0, hpb⟩, hP, hD, hS, (lv_sub hl [0, 1, 2, 3, 4] rfl)⟩
  obtain ⟨pp_1, me_1, le_1, pe2_1, pb2_1⟩ := x_1
  obtain ⟨hm_1, hv_1, hP, hD, hS, hl⟩ := hI
  subst hm_1
  have hpl_1 := hv_1.2.2
  refine lv_iload hx hb dX1_mendingPrice_12 (lv_at hl 0 rfl) ?_
  refine lv_bipush (v := 20) hx hb dX1_mendingPrice_14 (by decide) ?_
  refine lv_icmp_gt (tgt := 89) hx hb dX1_mendingPrice_16 (by decide) (fun c_2 => ?_) (fun c_2 => ?_)
  · have c_2 := (nI_ltI (a := 20) (b := pp_1) (by omega) (by omega)).mp c_2
    refine lv_iload_n hx hb dX1_mendingPrice_89 rfl (lv_at hl 2 rfl) ?_
    have hP9 := hP.sub (ws' := [(z0, .inr (1, (fX1 c0 z1 z2 z3 (nI pn) (nI pf) p0 pe2_1))), (aI k z1 4 (nF pb2_1)), (aI k z2 100 pco), (c0, .inr (4, (fX4 c1 c2 (nI cc) (nI rz) ro sd)))]) [0, 1, 2, 3] rfl
    have hD9 := hD.sub (ws' := [(z0, .inr (1, (fX1 c0 z1 z2 z3 (nI pn) (nI pf) p0 pe2_1))), (aI k z1 4 (nF pb2_1)), (aI k z2 100 pco), (c0, .inr (4, (fX4 c1 c2 (nI cc) (nI rz) ro sd)))]) [0, 1, 2, 3] (by decide) rfl
    exact W.iret (v := (nI me_1)) hx hb hr (fun t ht hW => ⟨⟨(nI me_1), (p0, pe2_1, pb2_1), rfl, ⟨md_e (by have h9 := hv_1.2.1; rw [show pp_1 = 21 by omega] at h9; exact h9), hpl_1⟩, by rw [ht]; exact hP9, hD9⟩, hS.F ht⟩) hS.2.2 dX1_mendingPrice_90
  · have c_2 : ¬ (20 < pp_1) := fun h => c_2 ((nI_ltI (a := 20) (b := pp_1) (by omega) (by omega)).mpr h)
    refine lv_aload_n hx hb dX1_mendingPrice_19 rfl (lv_at hl 3 rfl) ?_
    refine lv_bipush (v := 10) hx hb dX1_mendingPrice_20 (by decide) ?_
    refine lv_iload hx hb dX1_mendingPrice_22 (lv_at hl 0 rfl) ?_
    refine lv_imul hx hb dX1_mendingPrice_24 ?_
    refine lv_ti (y := (nI (10 * pp_1))) (pk_mul 10 pp_1) ?_
    refine lv_sipush (v := 1000) hx hb dX1_mendingPrice_25 (by decide) ?_
    refine lv_imul hx hb dX1_mendingPrice_28 ?_
    refine lv_ti (y := (nI ((10 * pp_1) * 1000))) (pk_mul (10 * pp_1) 1000) ?_
    refine va_put (D := D) (ci := 1) (v := .int (nI ((10 * pp_1) * 1000))) (ty := .int) (C := RX1) (T := TX1) (N := 8) hx hb hts inX1 tyX1 tyX1_ok nmX1 hown hK hP hD hS 0 rfl rfl 7 (by decide) (hts _ tw_243) (fun _ h9 => h9) rfl (by decide +kernel) rfl rfl (Nat.le_of_ble_eq_true rfl) dX1_mendingPrice_29 (fun H locs hP hD hS => ?_)
    replace hP : va_P D classes [(z0, .inr (1, (fX1 c0 z1 z2 z3 (nI pn) (nI pf) p0 (nI ((10 * pp_1) * 1000))))), (aI k z1 4 (nF pb2_1)), (aI k z2 100 pco), (c0, .inr (4, (fX4 c1 c2 (nI cc) (nI rz) ro sd)))] H := hP
    replace hD : va_D A [(z0, .inr (1, (fX1 c0 z1 z2 z3 (nI pn) (nI pf) p0 (nI ((10 * pp_1) * 1000))))), (aI k z1 4 (nF pb2_1)), (aI k z2 100 pco), (c0, .inr (4, (fX4 c1 c2 (nI cc) (nI rz) ro sd)))] := hD
    refine lv_iconst (v := 0) hx hb dX1_mendingPrice_32 (by decide) ?_
    refine lv_istore (lv' := [(5, .int 0), (4, .int (nI pp_1)), (3, .int le_1), (2, .int (nI me_1)), (0, .ref z0), (1, .int p0)]) hx hb dX1_mendingPrice_33 hl (by decide) rfl (fun ls hl => ?_)
    refine lv_iload hx hb dX1_mendingPrice_35 (lv_at hl 0 rfl) ?_
    refine lv_iconst (v := 4) hx hb dX1_mendingPrice_37 (by decide) ?_
    refine lv_icmp_ge (tgt := 55) hx hb dX1_mendingPrice_38 (by decide) (fun h => absurd h (by decide)) (fun _ => ?_)
    refine lv_aload_n hx hb dX1_mendingPrice_41 rfl (lv_at hl 4 rfl) ?_
    refine va_get (D := D) (ci := 1) (v := .ref z1) (C := RX1) (T := TX1) (N := 8) hx hb hts inX1 hown hK hP 0 rfl rfl 1 (by decide) (hts _ tw_236) (fun _ h9 => h9) rfl dX1_mendingPrice_42 ?_
    refine lv_iload hx hb dX1_mendingPrice_45 (lv_at hl 0 rfl) ?_
    refine lv_iconst (v := 0) hx hb dX1_mendingPrice_47 (by decide) ?_
    refine va_iast hx hb hK hP hD hS 1 1 rfl rfl (by unfold vp_in; decide) dX1_mendingPrice_48 (fun H locs hP hD hS => ?_)
    replace hP : va_P D classes [(z0, .inr (1, (fX1 c0 z1 z2 z3 (nI pn) (nI pf) p0 (nI ((10 * pp_1) * 1000))))), (aI k z1 4 (upd (nF pb2_1) (Int32.toNatClampNeg 0) 0)), (aI k z2 100 pco), (c0, .inr (4, (fX4 c1 c2 (nI cc) (nI rz) ro sd)))] H := hP
    replace hD : va_D A [(z0, .inr (1, (fX1 c0 z1 z2 z3 (nI pn) (nI pf) p0 (nI ((10 * pp_1) * 1000))))), (aI k z1 4 (upd (nF pb2_1) (Int32.toNatClampNeg 0) 0)), (aI k z2 100 pco), (c0, .inr (4, (fX4 c1 c2 (nI cc) (nI rz) ro sd)))] := hD
    rw [show upd (nF pb2_1) (Int32.toNatClampNeg 0) 0 = nF (fun j => if j = 0 then 0 else pb2_1 j) from nF_upd _ _ _] at hP hD
    obtain ⟨d_4, hd_4⟩ : ∃ z : Nat → Nat, z = (fun j => if j = 0 then 0 else pb2_1 j) := ⟨_, rfl⟩
    rw [← hd_4] at hP hD
    have hbb_4 : ∀ j, d_4 j ≤ 24 := by rw [hd_4]; exact up_le hpl_1 (by omega)
    refine lv_iinc (v := 1) (lv' := [(5, .int 1), (4, .int (nI pp_1)), (3, .int le_1), (2, .int (nI me_1)), (0, .ref z0), (1, .int p0)]) hx hb dX1_mendingPrice_49 hl (k := 0) rfl (by decide) (by decide) rfl (fun ls hl => ?_)
    refine lv_goto (tgt := 35) hx hb dX1_mendingPrice_52 (by decide) ?_
    refine lv_iload hx hb dX1_mendingPrice_35 (lv_at hl 0 rfl) ?_
    refine lv_iconst (v := 4) hx hb dX1_mendingPrice_37 (by decide) ?_
    refine lv_icmp_ge (tgt := 55) hx hb dX1_mendingPrice_38 (by decide) (fun h => absurd h (by decide)) (fun _ => ?_)
    refine lv_aload_n hx hb dX1_mendingPrice_41 rfl (lv_at hl 4 rfl) ?_
    refine va_get (D := D) (ci := 1) (v := .ref z1) (C := RX1) (T := TX1) (N := 8) hx hb hts inX1 hown hK hP 0 rfl rfl 1 (by decide) (hts _ tw_236) (fun _ h9 => h9) rfl dX1_mendingPrice_42 ?_
    refine lv_iload hx hb dX1_mendingPrice_45 (lv_at hl 0 rfl) ?_
    refine lv_iconst (v := 0) hx hb dX1_mendingPrice_47 (by decide) ?_
    refine va_iast hx hb hK hP hD hS 1 1 rfl rfl (by unfold vp_in; decide) dX1_mendingPrice_48 (fun H locs hP hD hS => ?_)
    replace hP : va_P D classes [(z0, .inr (1, (fX1 c0 z1 z2 z3 (nI pn) (nI pf) p0 (nI ((10 * pp_1) * 1000))))), (aI k z1 4 (upd (nF d_4) (Int32.toNatClampNeg 1) 0)), (aI k z2 100 pco), (c0, .inr (4, (fX4 c1 c2 (nI cc) (nI rz) ro sd)))] H := hP
    replace hD : va_D A [(z0, .inr (1, (fX1 c0 z1 z2 z3 (nI pn) (nI pf) p0 (nI ((10 * pp_1) * 1000))))), (aI k z1 4 (upd (nF d_4) (Int32.toNatClampNeg 1) 0)), (aI k z2 100 pco), (c0, .inr (4, (fX4 c1 c2 (nI cc) (nI rz) ro sd)))] := hD
    rw [show upd (nF d_4) (Int32.toNatClampNeg 1) 0 = nF (fun j => if j = 1 then 0 else d_4 j) from nF_upd _ _ _] at hP hD
    obtain ⟨d_6, hd_6⟩ : ∃ z : Nat → Nat, z = (fun j => if j = 1 then 0 else d_4 j) := ⟨_, rfl⟩
    rw [← hd_6] at hP hD
    have hbb_6 : ∀ j, d_6 j ≤ 24 := by rw [hd_6]; exact up_le hbb_4 (by omega)
    refine lv_iinc (v := 2) (lv' := [(5, .int 2), (4, .int (nI pp_1)), (3, .int le_1), (2, .int (nI me_1)), (0, .ref z0), (1, .int p0)]) hx hb dX1_mendingPrice_49 hl (k := 0) rfl (by decide) (by decide) rfl (fun ls hl => ?_)
    refine lv_goto (tgt := 35) hx hb dX1_mendingPrice_52 (by decide) ?_
    refine lv_iload hx hb dX1_mendingPrice_35 (lv_at hl 0 rfl) ?_
    refine lv_iconst (v := 4) hx hb dX1_mendingPrice_37 (by decide) ?_
    refine lv_icmp_ge (tgt := 55) hx hb dX1_mendingPrice_38 (by decide) (fun h => absurd h (by decide)) (fun _ => ?_)
    refine lv_aload_n hx hb dX1_mendingPrice_41 rfl (lv_at hl 4 rfl) ?_
    refine va_get (D := D) (ci := 1) (v := .ref z1) (C := RX1) (T := TX1) (N := 8) hx hb hts inX1 hown hK hP 0 rfl rfl 1 (by decide) (hts _ tw_236) (fun _ h9 => h9) rfl dX1_mendingPrice_42 ?_
    refine lv_iload hx hb dX1_mendingPrice_45 (lv_at hl 0 rfl) ?_
    refine lv_iconst (v := 0) hx hb dX1_mendingPrice_47 (by decide) ?_
    refine va_iast hx hb hK hP hD hS 1 1 rfl rfl (by unfold vp_in; decide) dX1_mendingPrice_48 (fun H locs hP hD hS => ?_)
    replace hP : va_P D classes [(z0, .inr (1, (fX1 c0 z1 z2 z3 (nI pn) (nI pf) p0 (nI ((10 * pp_1) * 1000))))), (aI k z1 4 (upd (nF d_6) (Int32.toNatClampNeg 2) 0)), (aI k z2 100 pco), (c0, .inr (4, (fX4 c1 c2 (nI cc) (nI rz) ro sd)))] H := hP
    replace hD : va_D A [(z0, .inr (1, (fX1 c0 z1 z2 z3 (nI pn) (nI pf) p0 (nI ((10 * pp_1) * 1000))))), (aI k z1 4 (upd (nF d_6) (Int32.toNatClampNeg 2) 0)), (aI k z2 100 pco), (c0, .inr (4, (fX4 c1 c2 (nI cc) (nI rz) ro sd)))] := hD
    rw [show upd (nF d_6) (Int32.toNatClampNeg 2) 0 = nF (fun j => if j = 2 then 0 else d_6 j) from nF_upd _ _ _] at hP hD
    obtain ⟨d_8, hd_8⟩ : ∃ z : Nat → Nat, z = (fun j => if j = 2 then 0 else d_6 j) := ⟨_, rfl⟩
    rw [← hd_8] at hP hD
    have hbb_8 : ∀ j, d_8 j ≤ 24 := by rw [hd_8]; exact up_le hbb_6 (by omega)
    refine lv_iinc (v := 3) (lv' := [(5, .int 3), (4, .int (nI pp_1)), (3, .int le_1), (2, .int (nI me_1)), (0, .ref z0), (1, .int p0)]) hx hb dX1_mendingPrice_49 hl (k := 0) rfl (by decide) (by decide) rfl (fun ls hl => ?_)
    refine lv_goto (tgt := 35) hx hb dX1_mendingPrice_52 (by decide) ?_
    refine lv_iload hx hb dX1_mendingPrice_35 (lv_at hl 0 rfl) ?_
    refine lv_iconst (v := 4) hx hb dX1_mendingPrice_37 (by decide) ?_
    refine lv_icmp_ge (tgt := 55) hx hb dX1_mendingPrice_38 (by decide) (fun h => absurd h (by decide)) (fun _ => ?_)
    refine lv_aload_n hx hb dX1_mendingPrice_41 rfl (lv_at hl 4 rfl) ?_
    refine va_get (D := D) (ci := 1) (v := .ref z1) (C := RX1) (T := TX1) (N := 8) hx hb hts inX1 hown hK hP 0 rfl rfl 1 (by decide) (hts _ tw_236) (fun _ h9 => h9) rfl dX1_mendingPrice_42 ?_
    refine lv_iload hx hb dX1_mendingPrice_45 (lv_at hl 0 rfl) ?_
    refine lv_iconst (v := 0) hx hb dX1_mendingPrice_47 (by decide) ?_
    refine va_iast hx hb hK hP hD hS 1 1 rfl rfl (by unfold vp_in; decide) dX1_mendingPrice_48 (fun H locs hP hD hS => ?_)
    replace hP : va_P D classes [(z0, .inr (1, (fX1 c0 z1 z2 z3 (nI pn) (nI pf) p0 (nI ((10 * pp_1) * 1000))))), (aI k z1 4 (upd (nF d_8) (Int32.toNatClampNeg 3) 0)), (aI k z2 100 pco), (c0, .inr (4, (fX4 c1 c2 (nI cc) (nI rz) ro sd)))] H := hP
    replace hD : va_D A [(z0, .inr (1, (fX1 c0 z1 z2 z3 (nI pn) (nI pf) p0 (nI ((10 * pp_1) * 1000))))), (aI k z1 4 (upd (nF d_8) (Int32.toNatClampNeg 3) 0)), (aI k z2 100 pco), (c0, .inr (4, (fX4 c1 c2 (nI cc) (nI rz) ro sd)))] := hD
    rw [show upd (nF d_8) (Int32.toNatClampNeg 3) 0 = nF (fun j => if j = 3 then 0 else d_8 j) from nF_upd _ _ _] at hP hD
    obtain ⟨d_10, hd_10⟩ : ∃ z : Nat → Nat, z = (fun j => if j = 3 then 0 else d_8 j) := ⟨_, rfl⟩
    rw [← hd_10] at hP hD
    have hbb_10 : ∀ j, d_10 j ≤ 24 := by rw [hd_10]; exact up_le hbb_8 (by omega)
    refine lv_iinc (v := 4) (lv' := [(5, .int 4), (4, .int (nI pp_1)), (3, .int le_1), (2, .int (nI me_1)), (0, .ref z0), (1, .int p0)]) hx hb dX1_mendingPrice_49 hl (k := 0) rfl (by decide) (by decide) rfl (fun ls hl => ?_)
    refine lv_goto (tgt := 35) hx hb dX1_mendingPrice_52 (by decide) ?_
    refine lv_iload hx hb dX1_mendingPrice_35 (lv_at hl 0 rfl) ?_
    refine lv_iconst (v := 4) hx hb dX1_mendingPrice_37 (by decide) ?_
    refine lv_icmp_ge (tgt := 55) hx hb dX1_mendingPrice_38 (by decide) (fun _ => ?_) (fun h => absurd (by decide) h)
    have hz4_11 : eq4 d_10 (fun _ => 0) := by intro j hj; rcases (show j = 0 ∨ j = 1 ∨ j = 2 ∨ j = 3 by omega) with e | e | e | e <;> rw [e, hd_10, hd_8, hd_6, hd_4] <;> rfl
    have hzl_11 : le4 pn d_10 := fun j hj => by rw [hz4_11 j hj]; exact Nat.zero_le _
    refine lv_aload_n hx hb dX1_mendingPrice_55 rfl (lv_at hl 4 rfl) ?_
    refine rw_i (D := D) (wr := []) (va_runV (As := []) (rest := []) ⟨hx, hb, hml, hown, hts⟩ ((y_goByTurns l D k st lo c0 z0 z1 z2 z3 pn pf p0 (nI ((10 * pp_1) * 1000)) d_10 pco c1 c2 cc rz ro sd (by first | assumption | omega) (by first | assumption | omega) hbb_10 (by first | assumption | omega) hzl_11) H.size) (cwV 0 hts (gV tw_918 tw_872 tw_873 tw_84 tw_874) rfl rfl rfl (by decide +kernel) ⟨Nat.le_of_ble_eq_true rfl, Nat.le_of_ble_eq_true rfl⟩) (pV hS hAlo hlo hP hK (va_Dlo hD hAlo) hZ [0, 1, 2, 3] (by decide) rfl (ci := 1) (q := (RX1, TX1, 8)) (q0 := 0) rfl rfl) rfl rfl hl.1 rfl (lv_room (Nat.le_of_ble_eq_true rfl)) dX1_mendingPrice_56 ⟨Nat.le_of_ble_eq_true rfl, Nat.le_of_ble_eq_true rfl⟩) hS hA hP hD [0, 1, 2, 3] [] rfl rfl (by decide) (by decide) (fun r_12 u H locs hw_12 hP hD hS => ?_)
    obtain ⟨pb__12, rfl⟩ : ∃ z, z = u := ⟨_, rfl⟩
    replace hP : va_P D classes [(z0, .inr (1, (fX1 c0 z1 z2 z3 (nI pn) (nI pf) p0 (nI ((10 * pp_1) * 1000))))), (aI k z1 4 (nF pb__12)), (aI k z2 100 pco), (c0, .inr (4, (fX4 c1 c2 (nI cc) (nI rz) ro sd)))] H := hP
    replace hD : va_D A [(z0, .inr (1, (fX1 c0 z1 z2 z3 (nI pn) (nI pf) p0 (nI ((10 * pp_1) * 1000))))), (aI k z1 4 (nF pb__12)), (aI k z2 100 pco), (c0, .inr (4, (fX4 c1 c2 (nI cc) (nI rz) ro sd)))] := hD
    try dsimp only at hw_12
    obtain ⟨hgt_13, hgb_13, hg4_13⟩ := hw_12
    refine lv_pop hx hb dX1_mendingPrice_59 rfl ?_
    refine lv_aload_n hx hb dX1_mendingPrice_60 rfl (lv_at hl 4 rfl) ?_
    refine ro_i (D := D) (va_runV (As := []) (rest := []) ⟨hx, hb, hml, hown, hts⟩ ((y_costOfAll l D k st lo c0 z0 z1 z2 z3 pn pf p0 (nI ((10 * pp_1) * 1000)) pb__12 pco c1 c2 cc rz ro sd (by first | assumption | omega) (by first | assumption | omega) hgb_13 (by first | assumption | omega)) H.size) (cwV 0 hts (gV tw_919 tw_898 tw_899 tw_84 tw_900) rfl rfl rfl (by decide +kernel) ⟨Nat.le_of_ble_eq_true rfl, Nat.le_of_ble_eq_true rfl⟩) (pV hS hAlo hlo hP hK (va_Dlo hD hAlo) hZ [0, 1, 2, 3] (by decide) rfl (ci := 1) (q := (RX1, TX1, 8)) (q0 := 0) rfl rfl) rfl rfl hl.1 rfl (lv_room (Nat.le_of_ble_eq_true rfl)) dX1_mendingPrice_61 ⟨Nat.le_of_ble_eq_true rfl, Nat.le_of_ble_eq_true rfl⟩) hS hA hP (fun r_14 H locs hw_14 hP hS => ?_)
    try dsimp only at hw_14
    have hal_15 : alP pn pf cc (kx pco p0 (nI (10 * pp_1 * 1000)) pn) (fun c i => pco (c * 25 + i)) r_14 := ⟨pb__12, gtP_e (tnT_le hcc) (tnT_e hcc (fun _ _ _ _ => rfl)) 50 d_10 (fun _ => 0) pb__12 hzl_11 hz4_11 hgt_13, hw_14⟩
    refine lv_istore (lv' := [(5, .int r_14), (4, .int (nI pp_1)), (3, .int le_1), (2, .int (nI me_1)), (0, .ref z0), (1, .int p0)]) hx hb dX1_mendingPrice_64 hl (by decide) rfl (fun ls hl => ?_)
    refine lv_iload hx hb dX1_mendingPrice_66 (lv_at hl 1 rfl) ?_
    refine lv_if_eq (tgt := 77) hx hb dX1_mendingPrice_68 (by decide) (fun c_16 => ?_) (fun c_16 => ?_)
    · have c_16 := (nI_eq (a := pp_1) (b := 0) (by omega) (by omega)).mp c_16
      refine lv_iload hx hb dX1_mendingPrice_77 (lv_at hl 0 rfl) ?_
      refine lv_istore_n (lv' := [(3, .int r_14), (5, .int r_14), (4, .int (nI pp_1)), (2, .int (nI me_1)), (0, .ref z0), (1, .int p0)]) hx hb dX1_mendingPrice_79 rfl hl (by decide) rfl (fun ls hl => ?_)
      refine lv_iload hx hb dX1_mendingPrice_80 (lv_at hl 2 rfl) ?_
      refine lv_istore_n (lv' := [(2, .int (nI pp_1)), (3, .int r_14), (5, .int r_14), (4, .int (nI pp_1)), (0, .ref z0), (1, .int p0)]) hx hb dX1_mendingPrice_82 rfl hl (by decide) rfl (fun ls hl => ?_)
      refine lv_iinc (v := (nI (pp_1 + 1))) (lv' := [(4, .int (nI (pp_1 + 1))), (2, .int (nI pp_1)), (3, .int r_14), (5, .int r_14), (0, .ref z0), (1, .int p0)]) hx hb dX1_mendingPrice_83 hl (k := 3) rfl (nI_add pp_1 1) (by decide) rfl (fun ls hl => ?_)
      refine lv_goto (tgt := 12) hx hb dX1_mendingPrice_86 (by decide) ?_
      exact ih_1 _ (pp_1 + 1, pp_1, r_14, (nI ((10 * pp_1) * 1000)), pb__12) _ _ _ (by omega) ⟨rfl, ⟨by omega, md_y hv_1.2.1 hal_15 (.inl (by omega)), hgb_13⟩, hP, hD, hS, (lv_sub hl [0, 2, 1, 4, 5] rfl)⟩
    · have c_16 : ¬ (pp_1 = 0) := fun h => c_16 ((nI_eq (a := pp_1) (b := 0) (by omega) (by omega)).mpr h)
      refine lv_iload hx hb dX1_mendingPrice_71 (lv_at hl 0 rfl) ?_
      refine lv_iload_n hx hb dX1_mendingPrice_73 rfl (lv_at hl 2 rfl) ?_
      refine lv_icmp_ge (tgt := 83) hx hb dX1_mendingPrice_74 (by decide) (fun c_17 => ?_) (fun c_17 => ?_)
      · refine lv_iinc (v := (nI (pp_1 + 1))) (lv' := [(4, .int (nI (pp_1 + 1))), (5, .int r_14), (3, .int le_1), (2, .int (nI me_1)), (0, .ref z0), (1, .int p0)]) hx hb dX1_mendingPrice_83 hl (k := 1) rfl (nI_add pp_1 1) (by decide) rfl (fun ls hl => ?_)
        refine lv_goto (tgt := 12) hx hb dX1_mendingPrice_86 (by decide) ?_
        exact ih_1 _ (pp_1 + 1, me_1, le_1, (nI ((10 * pp_1) * 1000)), pb__12) _ _ _ (by omega) ⟨rfl, ⟨by omega, md_n hv_1.2.1 hal_15 (by omega) c_17, hgb_13⟩, hP, hD, hS, (lv_sub hl [0, 2, 3, 4, 5] rfl)⟩
      · refine lv_iload hx hb dX1_mendingPrice_77 (lv_at hl 0 rfl) ?_
        refine lv_istore_n (lv' := [(3, .int r_14), (5, .int r_14), (4, .int (nI pp_1)), (2, .int (nI me_1)), (0, .ref z0), (1, .int p0)]) hx hb dX1_mendingPrice_79 rfl hl (by decide) rfl (fun ls hl => ?_)
        refine lv_iload hx hb dX1_mendingPrice_80 (lv_at hl 2 rfl) ?_
        refine lv_istore_n (lv' := [(2, .int (nI pp_1)), (3, .int r_14), (5, .int r_14), (4, .int (nI pp_1)), (0, .ref z0), (1, .int p0)]) hx hb dX1_mendingPrice_82 rfl hl (by decide) rfl (fun ls hl => ?_)
        refine lv_iinc (v := (nI (pp_1 + 1))) (lv' := [(4, .int (nI (pp_1 + 1))), (2, .int (nI pp_1)), (3, .int r_14), (5, .int r_14), (0, .ref z0), (1, .int p0)]) hx hb dX1_mendingPrice_83 hl (k := 3) rfl (nI_add pp_1 1) (by decide) rfl (fun ls hl => ?_)
        refine lv_goto (tgt := 12) hx hb dX1_mendingPrice_86 (by decide) ?_
        exact ih_1 _ (pp_1 + 1, pp_1, r_14, (nI ((10 * pp_1) * 1000)), pb__12) _ _ _ (by omega) ⟨rfl, ⟨by omega, md_y hv_1.2.1 hal_15 (.inr (Int32.not_le.mp c_17)), hgb_13⟩, hP, hD, hS, (lv_sub hl [0, 2, 1, 4, 5] rfl)⟩


theorem f_glueP26 : True := trivial
/-! what was seen, bit by bit -/
theorem rowN_split (f : Nat → Int32) (a : Nat) : ∀ b, rowN f (a + b) = rowN f a + 2 ^ a * rowN (fun k => f (a + k)) b := by
  intro b
  induction b with
  | zero =>
    show rowN f a = rowN f a + 2 ^ a * 0
    rw [Nat.mul_zero, Nat.add_zero]
  | succ b ih =>
    show rowN f (a + b) + (if f (a + b) = 1 then 2 ^ (a + b) else 0) = rowN f a + 2 ^ a * (rowN (fun k => f (a + k)) b + (if f (a + b) = 1 then 2 ^ b else 0))
    by_cases h : f (a + b) = 1
    · rw [if_pos h, if_pos h, ih, Nat.mul_add, Nat.pow_add, Nat.add_assoc]
    · rw [if_neg h, if_neg h, ih, Nat.add_zero, Nat.add_zero]
theorem rowN_mid {f : Nat → Int32} {z i q : Nat} (h : i + q ≤ z) : rowN f z / 2 ^ i % 2 ^ q = rowN (fun k => f (i + k)) q := by
  obtain ⟨m, rfl⟩ := Nat.exists_eq_add_of_le h
  rw [Nat.add_assoc i q m, rowN_split f i (q + m), rowN_split (fun k => f (i + k)) q m]
  rw [Nat.add_mul_div_left _ _ (Nat.two_pow_pos i), Nat.div_eq_of_lt (rowN_lt f i), Nat.zero_add, Nat.add_mul_mod_self_left, Nat.mod_eq_of_lt (rowN_lt _ q)]
theorem rowN_bit {f : Nat → Int32} {z i : Nat} (h : i < z) : rowN f z / 2 ^ i % 2 = if f i = 1 then 1 else 0 := by
  have e := rowN_mid (f := f) (q := 1) (show i + 1 ≤ z from h)
  rw [Nat.pow_one] at e
  rw [e]
  show 0 + (if f (i + 0) = 1 then 2 ^ 0 else 0) = _
  rw [Nat.zero_add]
  rfl
theorem rowN_odd {f : Nat → Int32} {q : Nat} (hq : 1 ≤ q) (h : f 0 = 1) : rowN f q % 2 = 1 := by
  have e := rowN_bit (f := f) (i := 0) (z := q) (by omega)
  rw [Nat.pow_zero, Nat.div_one, if_pos h] at e
  exact e
theorem rowN_24 {f : Nat → Int32} {z : Nat} (h : z ≤ 24) : rowN f z < 16777216 := Nat.lt_of_lt_of_le (rowN_lt f z) (Nat.pow_le_pow_right (n := 2) (by omega) h)
theorem smod24 : ∀ i, i < 24 → ((nI i &&& 31).toBitVec.smod 32).toNat = i := by decide
theorem shr24 {V i : Nat} (hV : V < 16777216) (hi : i < 24) : nI V >>> (nI i &&& 31) = nI (V / 2 ^ i) := pk_shrN (by omega) _ i (smod24 i hi)
theorem and_1 {a : Nat} : nI a &&& 1 = nI (a % 2) := by
  show nI a &&& nI 1 = _
  rw [nI_and, Nat.and_one_is_mod]
theorem sgt_and {f : Nat → Int32} {z i q : Nat} (hq : q ≤ 3) (h : i + q ≤ z) : nI (rowN f z / 2 ^ i) &&& (nI (2 ^ q) - 1) = nI (rowN (fun k => f (i + k)) q) := by
  have h8 := p8 hq
  show _ &&& (nI (2 ^ q) - nI 1) = _
  rw [pk_sub (by omega), nI_and, Nat.and_two_pow_sub_one_eq_mod, rowN_mid h]
theorem or_nb {g k : Nat} (hk : k < 24) (hg : g < 2 ^ k) : nI g ||| nI (2 ^ k) = nI (g + 2 ^ k) := by
  rw [← shl24 k hk]
  exact or24 hk hg
/-! the first door at which a drive was wrong -/
def wrg (d : SDt) (rn : Nat) (f : Nat → Int32) (z : Nat) (t : Int32) (i : Nat) : Prop := f i = 1 ∧ i + sqN (seD d) d.1 i ≤ z ∧ ¬ (pTake d rn i ≤ wayO d rn i (rowN (fun k => f (i + k)) (sqN (seD d) d.1 i)) ↔ (¬ t = 0 ∧ i + 1 = z))
def jdX (d : SDt) (rn : Nat) (f : Nat → Int32) (z : Nat) (t r : Int32) : Prop := ∃ i, i ≤ z ∧ (∀ j, j < i → ¬ wrg d rn f z t j) ∧ ((i < z ∧ wrg d rn f z t i ∧ r = nI i) ∨ (i = z ∧ r = -1))
theorem jdX_fun {d : SDt} {rn : Nat} {f : Nat → Int32} {z : Nat} {t x y : Int32} (h : jdX d rn f z t x) (g : jdX d rn f z t y) : x = y := by
  obtain ⟨i, i1, i2, i3⟩ := h
  obtain ⟨j, j1, j2, j3⟩ := g
  rcases Nat.lt_trichotomy i j with c | c | c
  · rcases i3 with ⟨_, w, _⟩ | ⟨e, _⟩
    · exact absurd w (j2 i c)
    · omega
  · subst c
    rcases i3 with ⟨a1, _, e1⟩ | ⟨a1, e1⟩
    · rcases j3 with ⟨_, _, e2⟩ | ⟨b1, _⟩
      · exact e1.trans e2.symm
      · omega
    · rcases j3 with ⟨b1, _, _⟩ | ⟨_, e2⟩
      · omega
      · exact e1.trans e2.symm
  · rcases j3 with ⟨_, w, _⟩ | ⟨e, _⟩
    · exact absurd w (i2 j c)
    · omega
def jdN (d : SDt) (f : Nat → Int32) (z : Nat) (t : Int32) : Prop := z = 0 ∨ d.1 < z ∨ (¬ t = 0 ∧ ¬ f (z - 1) = 1)
def jdA (p1 t : Int32) (f : Nat → Int32) (z : Nat) (d : SDt) (r : Int32) : Prop := (¬ inB p1 0 (d.2.1 8) → r = -1002) ∧ ∀ k : Nat, k < 2 ^ 31 → p1 = nI k → inB p1 0 (d.2.1 8) → (jdN d f z t → r = -1003) ∧ (¬ jdN d f z t → jdX d k f z t r)
theorem jdA_fun {p1 t : Int32} {f : Nat → Int32} {z : Nat} (d : SDt) (x y : Int32) (h : jdA p1 t f z d x) (g : jdA p1 t f z d y) : x = y := by
  rcases Classical.em (inB p1 0 (d.2.1 8)) with c | c
  · obtain ⟨k, h2, e⟩ := nI_of (Int32.not_lt.mpr c.1)
    rcases Classical.em (jdN d f z t) with q | q
    · exact ((h.2 k h2 e c).1 q).trans ((g.2 k h2 e c).1 q).symm
    · exact jdX_fun ((h.2 k h2 e c).2 q) ((g.2 k h2 e c).2 q)
  · exact (h.1 c).trans (g.1 c).symm
theorem jd_o {p1 t : Int32} {f : Nat → Int32} {z : Nat} {d : SDt} (h : ¬ inB p1 0 (d.2.1 8)) : jdA p1 t f z d (-1002) := ⟨fun _ => rfl, fun _ _ _ c => absurd c h⟩
theorem jd_n {k z : Nat} {t : Int32} {f : Nat → Int32} {d : SDt} (hi : inB (nI k) 0 (d.2.1 8)) (h : jdN d f z t) : jdA (nI k) t f z d (-1003) := ⟨fun c => absurd hi c, fun _ _ _ _ => ⟨fun _ => rfl, fun q => absurd h q⟩⟩
theorem jd_i {k z : Nat} {t r : Int32} {f : Nat → Int32} {d : SDt} (hk : k ≤ 3) (hi : inB (nI k) 0 (d.2.1 8)) (h : ¬ jdN d f z t) (g : jdX d k f z t r) : jdA (nI k) t f z d r := by
  refine ⟨fun c => absurd hi c, fun q hq e _ => ⟨fun c => absurd c h, fun _ => ?_⟩⟩
  have := nI_inj (by omega) hq e
  subst this
  exact g
theorem not3 {a b c : Prop} (h1 : ¬ a) (h2 : ¬ b) (h3 : ¬ c) : ¬ (a ∨ b ∨ c) := fun q => q.elim h1 (fun q => q.elim h2 h3)
theorem la_all {P : Nat → Prop} {k : Nat} (h : ∀ j, j < k → ¬ P j) (hk : ¬ P k) : ∀ j, j < k + 1 → ¬ P j := by
  intro j hj
  rcases (show j = k ∨ j < k by omega) with e | e
  · rw [e]
    exact hk
  · exact h j e


set_option maxHeartbeats 4000000 in
set_option maxRecDepth 100000 in
theorem y_sawFree (l : Launch) (D : va_G) (k : Nat → ClassId) (st : Nat → Nat) (lo : Nat) (c0 : Nat) (c1 : Nat) (c2 : Nat) (cc : Nat) (rz : Nat) (ro : Int32) (sd : Int32) (i : Nat) (fr : Nat → Int32) (hro : ro = nI (rowN fr rz)) (hrz : rz ≤ 24) (hi : i < rz) : CRi l D k st lo yX4_sawFree cX4_sawFree 2 (some .boolean) ({ frames := 0, cells := 0, slots := 0, locals := 0 }) [.ref c0, .int (nI i)] [(c0, .inr (4, (fX4 c1 c2 (nI cc) (nI rz) ro sd)))] (fun r => (r = 1 ∧ fr i = 1) ∨ (r = 0 ∧ ¬ fr i = 1)) := by
  intro sz
  refine Met.ofW (cc := cX4_sawFree) (maxL := 2) (ret := (some .boolean)) (by decide) rfl ?_
  intro p e s m args below meth c s₁ B hml hv
  obtain ⟨rfl, hsz, hlo, hP, hK, hDL, hZ⟩ := hv
  have hx := B.exec
  have hb := B.bytes
  have hr := B.returns
  have hts := WS_ts B.pre
  have hown : s.vm.findClass RX4 = some m.cls := findClass_of_methodNamed B.named
  have hlocks := B.notSynchronized
  subst hsz
  have hA : ∀ q : Nat, s.heap.size ≤ q → (fun q : Nat => s.heap.size ≤ q) q := fun _ h => h
  have hAlo : ∀ q : Nat, (fun q : Nat => s.heap.size ≤ q) q → lo ≤ q := fun q h => Nat.le_trans hlo h
  have hS : va_S (fun q : Nat => s.heap.size ≤ q) s.heap s.heap [] := va_S.rf
  have hl := lv_entry ([.ref c0, .int (nI i)]) (n := 2) (Nat.le_of_ble_eq_true rfl)
  rw [lg_entry_eq]
  generalize (lg_sl ([.ref c0, .int (nI i)]) ++ List.replicate (2 - (lg_sl ([.ref c0, .int (nI i)])).length) Slot.unset).toArray = ls at hl ⊢
  have hl : lv_has ls 2 [(0, .ref c0), (1, .int (nI i))] := hl
  refine lv_aload_n hx hb dX4_sawFree_0 rfl (lv_at hl 0 rfl) ?_
  refine va_get (D := D) (ci := 4) (v := .int ro) (C := RX4) (T := TX4) (N := 6) hx hb hts inX4 hown hK hP 0 rfl rfl 4 (by decide) (hts _ tw_185) (fun _ h9 => h9) rfl dX4_sawFree_1 ?_
  refine lv_iload_n hx hb dX4_sawFree_4 rfl (lv_at hl 1 rfl) ?_
  refine lv_ishr hx hb dX4_sawFree_5 ?_
  refine lv_ti (y := (nI (rowN fr rz / 2 ^ i))) (by rw [hro]; exact shr24 (rowN_24 hrz) (by omega)) ?_
  refine lv_iconst (v := 1) hx hb dX4_sawFree_6 (by decide) ?_
  refine lv_iand hx hb dX4_sawFree_7 ?_
  refine lv_ti (y := (nI ((rowN fr rz / 2 ^ i) % 2))) and_1 ?_
  refine lv_if_eq (tgt := 15) hx hb dX4_sawFree_8 (by decide) (fun c_1 => ?_) (fun c_1 => ?_)
  · have c_1 := (nI_eq (a := ((rowN fr rz / 2 ^ i) % 2)) (b := 0) (by omega) (by omega)).mp c_1
    refine lv_iconst (v := 0) hx hb dX4_sawFree_15 (by decide) ?_
    exact W.zret (v := 0) (ty := .boolean) hx hb hr rfl (fun t ht hW => ⟨⟨0, (), rfl, .inr ⟨rfl, fun q => by have h9 := rowN_bit (f := fr) hi; rw [if_pos q] at h9; omega⟩, trivial⟩, hS.F ht⟩) hS.2.2 dX4_sawFree_16
  · have c_1 : ¬ (((rowN fr rz / 2 ^ i) % 2) = 0) := fun h => c_1 ((nI_eq (a := ((rowN fr rz / 2 ^ i) % 2)) (b := 0) (by omega) (by omega)).mpr h)
    refine lv_iconst (v := 1) hx hb dX4_sawFree_11 (by decide) ?_
    refine lv_goto (tgt := 16) hx hb dX4_sawFree_12 (by decide) ?_
    exact W.zret (v := 1) (ty := .boolean) hx hb hr rfl (fun t ht hW => ⟨⟨1, (), rfl, .inl ⟨rfl, by have h9 := rowN_bit (f := fr) hi; rcases Classical.em (fr i = 1) with q | q; exact q; rw [if_neg q] at h9; omega⟩, trivial⟩, hS.F ht⟩) hS.2.2 dX4_sawFree_16


set_option maxHeartbeats 4000000 in
set_option maxRecDepth 100000 in
theorem y_firstWrong (l : Launch) (D : va_G) (k : Nat → ClassId) (st : Nat → Nat) (lo : Nat) (h0 : Nat) (h1 : Nat) (h2 : Nat) (h3 : Nat) (h4 : Nat) (n : Nat) (see : Nat) (tm : Nat) (g : Nat → Int32) (ff : Nat → Int32) (fp : Nat → Int32) (fl : Nat → Int32) (w0 : Nat) (w1 : Nat) (w2 : Nat) (w3 : Nat) (w4 : Nat) (on : Nat → Int32) (c0 : Nat) (c1 : Nat) (c2 : Nat) (cc : Nat) (rz : Nat) (ro : Int32) (sd : Int32) (rn : Nat) (p2 : Int32) (fr : Nat → Int32) (hn : n ≤ 24) (hsee : see ≤ 2) (hrn : rn ≤ 3) (hro : ro = nI (rowN fr rz)) (hrz : rz ≤ 24) (hzn : rz ≤ n) (hl9 : ∀ r, r < 4 → fl r = pLate (sdX n see tm g ff fp) r) (hon9 : ∀ i, i < n → ∀ gq, gq < 2 ^ sqN see n i → on (slN rn i gq) = wayO (sdX n see tm g ff fp) rn i gq) : CRi l D k st lo yX0_firstWrong cX0_firstWrong 9 (some .int) ({ frames := 3, cells := 0, slots := 0, locals := 81 }) [.ref w0, .int (nI rn), .ref c0, .int p2] [(h0, .inr (5, (fX5 h1 h2 h3 h4))), (aI k h1 10 (vv n see tm g)), (aI k h2 24 ff), (aI k h3 24 fp), (aI k h4 4 fl), (w0, .inr (0, (fX0 h0 w1 w2 w3 w4))), (aI k w1 768 on), (c0, .inr (4, (fX4 c1 c2 (nI cc) (nI rz) ro sd)))] (fun r => jdX (sdX n see tm g ff fp) rn fr rz p2 r) := by
  intro sz
  refine Met.ofW (cc := cX0_firstWrong) (maxL := 9) (ret := (some .int)) (by decide) rfl ?_
  intro p e s m args below meth c s₁ B hml hv
  obtain ⟨rfl, hsz, hlo, hP, hK, hDL, hZ⟩ := hv
  have hx := B.exec
  have hb := B.bytes
  have hr := B.returns
  have hts := WS_ts B.pre
  have hown : s.vm.findClass RX0 = some m.cls := findClass_of_methodNamed B.named
  have hlocks := B.notSynchronized
  subst hsz
  have hA : ∀ q : Nat, s.heap.size ≤ q → (fun q : Nat => s.heap.size ≤ q) q := fun _ h => h
  have hAlo : ∀ q : Nat, (fun q : Nat => s.heap.size ≤ q) q → lo ≤ q := fun q h => Nat.le_trans hlo h
  have hS : va_S (fun q : Nat => s.heap.size ≤ q) s.heap s.heap [] := va_S.rf
  have hl := lv_entry ([.ref w0, .int (nI rn), .ref c0, .int p2]) (n := 9) (Nat.le_of_ble_eq_true rfl)
  rw [lg_entry_eq]
  generalize (lg_sl ([.ref w0, .int (nI rn), .ref c0, .int p2]) ++ List.replicate (9 - (lg_sl ([.ref w0, .int (nI rn), .ref c0, .int p2])).length) Slot.unset).toArray = ls at hl ⊢
  have hl : lv_has ls 9 [(0, .ref w0), (1, .int (nI rn)), (2, .ref c0), (3, .int p2)] := hl
  refine lv_aload_n hx hb dX0_firstWrong_0 rfl (lv_at hl 2 rfl) ?_
  refine va_get (D := D) (ci := 4) (v := .int (nI rz)) (C := RX4) (T := TX4) (N := 6) hx hb hts inX4 hown hK hP 7 rfl rfl 3 (by decide) (hts _ tw_183) (fun _ h9 => h9) rfl dX0_firstWrong_1 ?_
  refine lv_aload_n hx hb dX0_firstWrong_4 rfl (lv_at hl 0 rfl) ?_
  refine va_get (D := D) (ci := 0) (v := .ref h0) (C := RX0) (T := TX0) (N := 5) hx hb hts inX0 hown hK hP 5 rfl rfl 0 (by decide) (hts _ tw_266) (fun _ h9 => h9) rfl dX0_firstWrong_5 ?_
  refine ro_i (D := D) (va_runV (As := []) (rest := [.int (nI rz)]) ⟨hx, hb, hml, hown, hts⟩ ((x_doors l D k st lo h0 h1 h2 h3 h4 n see tm g) s.heap.size) (cwV 0 hts (gV tw_531 tw_478 tw_479 tw_81 tw_480) rfl rfl rfl (by decide +kernel) ⟨Nat.le_of_ble_eq_true rfl, Nat.le_of_ble_eq_true rfl⟩) (pV hS hAlo hlo hP hK hDL hZ [0, 1] (by decide) rfl (ci := 5) (q := (RX5, TX5, 4)) (q0 := 0) rfl rfl) rfl rfl hl.1 rfl (lv_room (Nat.le_of_ble_eq_true rfl)) dX0_firstWrong_8 ⟨Nat.le_of_ble_eq_true rfl, Nat.le_of_ble_eq_true rfl⟩) hS hA hP (fun r_1 H locs hw_1 hP hS => ?_)
  try dsimp only at hw_1
  subst hw_1
  refine va_mmin hx hb (by rw [hml]; exact hl.1.symm) hown (hts _ tw_528) (hts _ tw_529) (hts _ tw_93) (hts _ tw_530) (Nat.le_of_ble_eq_true rfl) (Nat.le_of_ble_eq_true rfl) (Nat.le_of_ble_eq_true rfl) (Nat.le_of_ble_eq_true rfl) dX0_firstWrong_11 ?_
  refine lv_ti (y := (nI (min rz n))) (mminN (by omega) (by omega)) ?_
  refine lv_istore (lv' := [(4, .int (nI (min rz n))), (0, .ref w0), (1, .int (nI rn)), (2, .ref c0), (3, .int p2)]) hx hb dX0_firstWrong_14 hl (by decide) rfl (fun ls hl => ?_)
  refine lv_iconst (v := 0) hx hb dX0_firstWrong_16 (by decide) ?_
  refine lv_istore (lv' := [(5, .int 0), (4, .int (nI (min rz n))), (0, .ref w0), (1, .int (nI rn)), (2, .ref c0), (3, .int p2)]) hx hb dX0_firstWrong_17 hl (by decide) rfl (fun ls hl => ?_)
  refine W_loop (σ := Nat) (fun (n_ : Nat) (ii_3 : Nat) (H : Heap) (locs : List Loc) (ls : Array Slot) => n_ = 25 - ii_3 ∧ (ii_3 ≤ rz ∧ ∀ j, j < ii_3 → ¬ wrg (sdX n see tm g ff fp) rn fr rz p2 j) ∧ va_P D classes [(h0, .inr (5, (fX5 h1 h2 h3 h4))), (aI k h1 10 (vv n see tm g)), (aI k h2 24 ff), (aI k h3 24 fp), (aI k h4 4 fl), (w0, .inr (0, (fX0 h0 w1 w2 w3 w4))), (aI k w1 768 on), (c0, .inr (4, (fX4 c1 c2 (nI cc) (nI rz) ro sd)))] H ∧ va_S (fun q : Nat => s.heap.size ≤ q) s.heap H locs ∧ lv_has ls 9 [(5, .int (nI ii_3)), (4, .int (nI (min rz n))), (0, .ref w0), (1, .int (nI rn)), (2, .ref c0), (3, .int p2)]) (fun n_3 x_3 H locs ls hI ih_3 => ?_) _ 0 ⟨rfl, ⟨by omega, fun j h => absurd h (Nat.not_lt_zero j)⟩, hP, hS, (lv_sub hl [0, 1, 2, 3, 4, 5] rfl)⟩
  obtain ⟨ii_3, rfl⟩ : ∃ z, z = x_3 := ⟨_, rfl⟩
  obtain ⟨hm_3, hv_3, hP, hS, hl⟩ := hI
  subst hm_3
  refine lv_iload hx hb dX0_firstWrong_19 (lv_at hl 0 rfl) ?_
  refine lv_iload hx hb dX0_firstWrong_21 (lv_at hl 1 rfl) ?_
  refine lv_icmp_ge (tgt := 133) hx hb dX0_firstWrong_23 (by decide) (fun c_4 => ?_) (fun c_4 => ?_)
  · have c_4 := (nI_leI (a := (min rz n)) (b := ii_3) (by omega) (by omega)).mp c_4
    refine lv_iconst (v := (-1)) hx hb dX0_firstWrong_133 (by decide) ?_
    exact W.iret (v := (-1)) hx hb hr (fun t ht hW => ⟨⟨(-1), (), rfl, ⟨ii_3, by omega, hv_3.2, .inr ⟨by omega, rfl⟩⟩, trivial⟩, hS.F ht⟩) hS.2.2 dX0_firstWrong_134
  · have c_4 : ¬ ((min rz n) ≤ ii_3) := fun h => c_4 ((nI_leI (a := (min rz n)) (b := ii_3) (by omega) (by omega)).mpr h)
    refine lv_iload hx hb dX0_firstWrong_26 (lv_at hl 0 rfl) ?_
    refine lv_aload_n hx hb dX0_firstWrong_28 rfl (lv_at hl 2 rfl) ?_
    refine va_get (D := D) (ci := 0) (v := .ref h0) (C := RX0) (T := TX0) (N := 5) hx hb hts inX0 hown hK hP 5 rfl rfl 0 (by decide) (hts _ tw_266) (fun _ h9 => h9) rfl dX0_firstWrong_29 ?_
    refine va_get (D := D) (ci := 5) (v := .ref h1) (C := RX5) (T := TX5) (N := 4) hx hb hts inX5 hown hK hP 0 rfl rfl 0 (by decide) (hts _ tw_147) (fun _ h9 => h9) rfl dX0_firstWrong_32 ?_
    refine lv_bipush (v := 6) hx hb dX0_firstWrong_35 (by decide) ?_
    refine va_iald hx hb hK hP 1 1 rfl rfl (by unfold vp_in; decide) dX0_firstWrong_37 ?_
    refine lv_ti (y := (nI see)) (by rfl) ?_
    refine lv_iadd hx hb dX0_firstWrong_38 ?_
    refine lv_ti (y := (nI (ii_3 + see))) (nI_add ii_3 see) ?_
    refine lv_iconst (v := 1) hx hb dX0_firstWrong_39 (by decide) ?_
    refine lv_iadd hx hb dX0_firstWrong_40 ?_
    refine lv_ti (y := (nI (ii_3 + see + 1))) (nI_add (ii_3 + see) 1) ?_
    refine lv_aload_n hx hb dX0_firstWrong_41 rfl (lv_at hl 2 rfl) ?_
    refine va_get (D := D) (ci := 0) (v := .ref h0) (C := RX0) (T := TX0) (N := 5) hx hb hts inX0 hown hK hP 5 rfl rfl 0 (by decide) (hts _ tw_266) (fun _ h9 => h9) rfl dX0_firstWrong_42 ?_
    refine ro_i (D := D) (va_runV (As := []) (rest := [.int (nI (ii_3 + see + 1))]) ⟨hx, hb, hml, hown, hts⟩ ((x_doors l D k st lo h0 h1 h2 h3 h4 n see tm g) H.size) (cwV 0 hts (gV tw_531 tw_478 tw_479 tw_81 tw_480) rfl rfl rfl (by decide +kernel) ⟨Nat.le_of_ble_eq_true rfl, Nat.le_of_ble_eq_true rfl⟩) (pV hS hAlo hlo hP hK hDL hZ [0, 1] (by decide) rfl (ci := 5) (q := (RX5, TX5, 4)) (q0 := 0) rfl rfl) rfl rfl hl.1 rfl (lv_room (Nat.le_of_ble_eq_true rfl)) dX0_firstWrong_45 ⟨Nat.le_of_ble_eq_true rfl, Nat.le_of_ble_eq_true rfl⟩) hS hA hP (fun r_5 H locs hw_5 hP hS => ?_)
    try dsimp only at hw_5
    subst hw_5
    refine va_mmin hx hb (by rw [hml]; exact hl.1.symm) hown (hts _ tw_528) (hts _ tw_529) (hts _ tw_93) (hts _ tw_530) (Nat.le_of_ble_eq_true rfl) (Nat.le_of_ble_eq_true rfl) (Nat.le_of_ble_eq_true rfl) (Nat.le_of_ble_eq_true rfl) dX0_firstWrong_48 ?_
    refine lv_ti (y := (nI (min (ii_3 + see + 1) n))) (mminN (by omega) (by omega)) ?_
    refine lv_istore (lv' := [(6, .int (nI (min (ii_3 + see + 1) n))), (5, .int (nI ii_3)), (4, .int (nI (min rz n))), (0, .ref w0), (1, .int (nI rn)), (2, .ref c0), (3, .int p2)]) hx hb dX0_firstWrong_51 hl (by decide) rfl (fun ls hl => ?_)
    refine lv_iload hx hb dX0_firstWrong_53 (lv_at hl 0 rfl) ?_
    refine lv_iload hx hb dX0_firstWrong_55 (lv_at hl 2 rfl) ?_
    refine lv_icmp_gt (tgt := 127) hx hb dX0_firstWrong_57 (by decide) (fun c_7 => ?_) (fun c_7 => ?_)
    · have c_7 := (nI_ltI (a := (min rz n)) (b := (min (ii_3 + see + 1) n)) (by omega) (by omega)).mp c_7
      refine lv_iinc (v := (nI (ii_3 + 1))) (lv' := [(5, .int (nI (ii_3 + 1))), (6, .int (nI (min (ii_3 + see + 1) n))), (4, .int (nI (min rz n))), (0, .ref w0), (1, .int (nI rn)), (2, .ref c0), (3, .int p2)]) hx hb dX0_firstWrong_127 hl (k := 1) rfl (nI_add ii_3 1) (by decide) rfl (fun ls hl => ?_)
      refine lv_goto (tgt := 19) hx hb dX0_firstWrong_130 (by decide) ?_
      exact ih_3 _ (ii_3 + 1) _ _ _ (by omega) ⟨rfl, ⟨by omega, la_all (P := fun j => wrg (sdX n see tm g ff fp) rn fr rz p2 j) hv_3.2 (fun h => absurd (show ii_3 + sqN (seD (sdX n see tm g ff fp)) (sdX n see tm g ff fp).1 ii_3 ≤ rz from h.2.1) (by rw [seX (by omega)]; show ¬ ii_3 + sqN see n ii_3 ≤ rz; unfold sqN; omega))⟩, hP, hS, (lv_sub hl [0, 2, 3, 4, 5, 6] rfl)⟩
    · have c_7 : ¬ ((min rz n) < (min (ii_3 + see + 1) n)) := fun h => c_7 ((nI_ltI (a := (min rz n)) (b := (min (ii_3 + see + 1) n)) (by omega) (by omega)).mpr h)
      refine lv_aload_n hx hb dX0_firstWrong_60 rfl (lv_at hl 5 rfl) ?_
      refine lv_iload hx hb dX0_firstWrong_61 (lv_at hl 1 rfl) ?_
      refine ro_i (D := D) (va_runV (As := [.int (nI ii_3)]) (rest := []) ⟨hx, hb, hml, hown, hts⟩ ((y_sawFree l D k st lo c0 c1 c2 cc rz ro sd ii_3 fr hro (by first | assumption | omega) (by first | assumption | omega)) H.size) (cwV 1 hts (gV tw_760 tw_753 tw_754 tw_82 tw_755) rfl rfl rfl (by decide +kernel) ⟨Nat.le_of_ble_eq_true rfl, Nat.le_of_ble_eq_true rfl⟩) (pV hS hAlo hlo hP hK hDL hZ [7] (by decide) rfl (ci := 4) (q := (RX4, TX4, 6)) (q0 := 0) rfl rfl) rfl rfl hl.1 rfl (lv_room (Nat.le_of_ble_eq_true rfl)) dX0_firstWrong_63 ⟨Nat.le_of_ble_eq_true rfl, Nat.le_of_ble_eq_true rfl⟩) hS hA hP (fun r_8 H locs hw_8 hP hS => ?_)
      try dsimp only at hw_8
      rcases hw_8 with ⟨rfl, hw_8⟩ | ⟨rfl, hw_8⟩
      · refine lv_if_eq (tgt := 127) hx hb dX0_firstWrong_66 (by decide) (fun h => absurd h (by decide)) (fun _ => ?_)
        refine lv_aload_n hx hb dX0_firstWrong_69 rfl (lv_at hl 5 rfl) ?_
        refine va_get (D := D) (ci := 4) (v := .int ro) (C := RX4) (T := TX4) (N := 6) hx hb hts inX4 hown hK hP 7 rfl rfl 4 (by decide) (hts _ tw_186) (fun _ h9 => h9) rfl dX0_firstWrong_70 ?_
        refine lv_iload hx hb dX0_firstWrong_73 (lv_at hl 1 rfl) ?_
        refine lv_ishr hx hb dX0_firstWrong_75 ?_
        refine lv_ti (y := (nI (rowN fr rz / 2 ^ ii_3))) (by rw [hro]; exact shr24 (rowN_24 hrz) (by omega)) ?_
        refine lv_aload_n hx hb dX0_firstWrong_76 rfl (lv_at hl 3 rfl) ?_
        refine va_get (D := D) (ci := 0) (v := .ref h0) (C := RX0) (T := TX0) (N := 5) hx hb hts inX0 hown hK hP 5 rfl rfl 0 (by decide) (hts _ tw_266) (fun _ h9 => h9) rfl dX0_firstWrong_77 ?_
        refine lv_iload hx hb dX0_firstWrong_80 (lv_at hl 1 rfl) ?_
        refine ro_i (D := D) (va_runV (As := [.int (nI ii_3)]) (rest := [.int (nI (rowN fr rz / 2 ^ ii_3))]) ⟨hx, hb, hml, hown, hts⟩ ((y_sightsAt l D k st lo h0 h1 h2 h3 h4 n see tm g ii_3 (by first | assumption | omega) (by first | assumption | omega) (by first | assumption | omega)) H.size) (cwV 1 hts (gV tw_536 tw_537 tw_538 tw_81 tw_539) rfl rfl rfl (by decide +kernel) ⟨Nat.le_of_ble_eq_true rfl, Nat.le_of_ble_eq_true rfl⟩) (pV hS hAlo hlo hP hK hDL hZ [0, 1] (by decide) rfl (ci := 5) (q := (RX5, TX5, 4)) (q0 := 0) rfl rfl) rfl rfl hl.1 rfl (lv_room (Nat.le_of_ble_eq_true rfl)) dX0_firstWrong_82 ⟨Nat.le_of_ble_eq_true rfl, Nat.le_of_ble_eq_true rfl⟩) hS hA hP (fun r_9 H locs hw_9 hP hS => ?_)
        try dsimp only at hw_9
        obtain ⟨zs_10, ezs_10⟩ : ∃ z : Nat, z = 2 ^ sqN see n ii_3 := ⟨_, rfl⟩
        rw [← ezs_10] at hw_9
        subst hw_9
        have hzs_10 : 1 ≤ zs_10 ∧ zs_10 ≤ 8 := by rw [ezs_10]; exact p8 (sq_le (by omega))
        refine lv_iconst (v := 1) hx hb dX0_firstWrong_85 (by decide) ?_
        refine lv_isub hx hb dX0_firstWrong_86 ?_
        refine lv_ti (y := (nI zs_10 - 1)) rfl ?_
        obtain ⟨gg_11, egg_11⟩ : ∃ z : Nat, z = rowN (fun k => fr (ii_3 + k)) (sqN see n ii_3) := ⟨_, rfl⟩
        have hsq_11 : sqN see n ii_3 ≤ 3 ∧ 1 ≤ sqN see n ii_3 ∧ ii_3 + sqN see n ii_3 ≤ rz := by unfold sqN; omega
        have hgq_11 : gg_11 < 2 ^ sqN see n ii_3 := by rw [egg_11]; exact rowN_lt _ _
        have hgp_11 := p8 hsq_11.1
        have hg8_11 : gg_11 < 8 := by omega
        have hgo_11 : gg_11 % 2 = 1 := by rw [egg_11]; exact rowN_odd hsq_11.2.1 hw_8
        refine lv_iand hx hb dX0_firstWrong_87 ?_
        refine lv_ti (y := (nI gg_11)) (by rw [ezs_10, egg_11]; exact sgt_and hsq_11.1 hsq_11.2.2) ?_
        refine lv_istore (lv' := [(7, .int (nI gg_11)), (6, .int (nI (min (ii_3 + see + 1) n))), (5, .int (nI ii_3)), (4, .int (nI (min rz n))), (0, .ref w0), (1, .int (nI rn)), (2, .ref c0), (3, .int p2)]) hx hb dX0_firstWrong_88 hl (by decide) rfl (fun ls hl => ?_)
        refine lv_iload_n hx hb dX0_firstWrong_90 rfl (lv_at hl 7 rfl) ?_
        refine lv_if_eq (tgt := 107) hx hb dX0_firstWrong_91 (by decide) (fun c_12 => ?_) (fun c_12 => ?_)
        · refine lv_iconst (v := 0) hx hb dX0_firstWrong_107 (by decide) ?_
          refine lv_istore (lv' := [(8, .int 0), (7, .int (nI gg_11)), (6, .int (nI (min (ii_3 + see + 1) n))), (5, .int (nI ii_3)), (4, .int (nI (min rz n))), (0, .ref w0), (1, .int (nI rn)), (2, .ref c0), (3, .int p2)]) hx hb dX0_firstWrong_108 hl (by decide) rfl (fun ls hl => ?_)
          have hT_11 : fX_taking n g fp fl rn ii_3 ≤ on (slN rn ii_3 gg_11) ↔ pTake (sdX n see tm g ff fp) rn ii_3 ≤ wayO (sdX n see tm g ff fp) rn ii_3 (rowN (fun k => fr (ii_3 + k)) (sqN (seD (sdX n see tm g ff fp)) (sdX n see tm g ff fp).1 ii_3)) := by rw [seX (by omega), xTake (see := see) (tm := tm) (ff := ff) (show ii_3 < n by omega) (hl9 rn (by omega)), hon9 ii_3 (by omega) gg_11 hgq_11, egg_11]; exact Iff.rfl
          refine lv_aload_n hx hb dX0_firstWrong_110 rfl (lv_at hl 5 rfl) ?_
          refine lv_iload_n hx hb dX0_firstWrong_111 rfl (lv_at hl 6 rfl) ?_
          refine lv_iload hx hb dX0_firstWrong_112 (lv_at hl 3 rfl) ?_
          refine lv_iload hx hb dX0_firstWrong_114 (lv_at hl 1 rfl) ?_
          refine ro_i (D := D) (va_runV (As := [.int (nI rn), .int (nI ii_3), .int (nI gg_11)]) (rest := []) ⟨hx, hb, hml, hown, hts⟩ ((y_isTaken l D k st lo h0 h1 h2 h3 h4 n see tm g ff fp fl w0 w1 w2 w3 w4 on rn ii_3 gg_11 (by first | assumption | omega) (by first | assumption | omega) (by first | assumption | omega) (by first | assumption | omega)) H.size) (cwV 3 hts (gV tw_662 tw_638 tw_639 tw_85 tw_640) rfl rfl rfl (by decide +kernel) ⟨Nat.le_of_ble_eq_true rfl, Nat.le_of_ble_eq_true rfl⟩) (pV hS hAlo hlo hP hK hDL hZ [0, 1, 2, 3, 4, 5, 6] (by decide) rfl (ci := 0) (q := (RX0, TX0, 5)) (q0 := 5) rfl rfl) rfl rfl hl.1 rfl (lv_room (Nat.le_of_ble_eq_true rfl)) dX0_firstWrong_116 ⟨Nat.le_of_ble_eq_true rfl, Nat.le_of_ble_eq_true rfl⟩) hS hA hP (fun r_13 H locs hw_13 hP hS => ?_)
          try dsimp only at hw_13
          rcases hw_13 with ⟨rfl, hw_13⟩ | ⟨rfl, hw_13⟩
          · refine lv_iload hx hb dX0_firstWrong_119 (lv_at hl 0 rfl) ?_
            refine lv_icmp_eq (tgt := 127) hx hb dX0_firstWrong_121 (by decide) (fun h => absurd h (by decide)) (fun _ => ?_)
            refine lv_iload hx hb dX0_firstWrong_124 (lv_at hl 3 rfl) ?_
            exact W.iret (v := (nI ii_3)) hx hb hr (fun t ht hW => ⟨⟨(nI ii_3), (), rfl, ⟨ii_3, by omega, hv_3.2, .inl ⟨by omega, ⟨hw_8, (show ii_3 + sqN (seD (sdX n see tm g ff fp)) (sdX n see tm g ff fp).1 ii_3 ≤ rz by rw [seX (by omega)]; exact hsq_11.2.2), (fun q => (fun q => q.1 c_12) (q.mp (hT_11.mp hw_13.2)))⟩, rfl⟩⟩, trivial⟩, hS.F ht⟩) hS.2.2 dX0_firstWrong_126
          · refine lv_iload hx hb dX0_firstWrong_119 (lv_at hl 0 rfl) ?_
            refine lv_icmp_eq (tgt := 127) hx hb dX0_firstWrong_121 (by decide) (fun _ => ?_) (fun h => absurd (by decide) h)
            refine lv_iinc (v := (nI (ii_3 + 1))) (lv' := [(5, .int (nI (ii_3 + 1))), (8, .int 0), (7, .int (nI gg_11)), (6, .int (nI (min (ii_3 + see + 1) n))), (4, .int (nI (min rz n))), (0, .ref w0), (1, .int (nI rn)), (2, .ref c0), (3, .int p2)]) hx hb dX0_firstWrong_127 hl (k := 3) rfl (nI_add ii_3 1) (by decide) rfl (fun ls hl => ?_)
            refine lv_goto (tgt := 19) hx hb dX0_firstWrong_130 (by decide) ?_
            exact ih_3 _ (ii_3 + 1) _ _ _ (by omega) ⟨rfl, ⟨by omega, la_all (P := fun j => wrg (sdX n see tm g ff fp) rn fr rz p2 j) hv_3.2 (fun h => h.2.2 ⟨fun q => absurd q (fun q => hw_13 ⟨hgo_11, hT_11.mpr q⟩), fun q => absurd q (fun q => q.1 c_12)⟩)⟩, hP, hS, (lv_sub hl [0, 4, 5, 6, 7, 8] rfl)⟩
        · refine lv_iload hx hb dX0_firstWrong_94 (lv_at hl 2 rfl) ?_
          refine lv_iload hx hb dX0_firstWrong_96 (lv_at hl 3 rfl) ?_
          refine lv_iconst (v := 1) hx hb dX0_firstWrong_98 (by decide) ?_
          refine lv_isub hx hb dX0_firstWrong_99 ?_
          refine lv_ti (y := (nI ((min rz n) - 1))) (pk_sub (a := (min rz n)) (b := 1) (by omega)) ?_
          refine lv_icmp_ne (tgt := 107) hx hb dX0_firstWrong_100 (by decide) (fun c_14 => ?_) (fun c_14 => ?_)
          · have c_14 : ¬ (ii_3 = ((min rz n) - 1)) := fun h => c_14 ((nI_eq (a := ii_3) (b := ((min rz n) - 1)) (by omega) (by omega)).mpr h)
            refine lv_iconst (v := 0) hx hb dX0_firstWrong_107 (by decide) ?_
            refine lv_istore (lv' := [(8, .int 0), (7, .int (nI gg_11)), (6, .int (nI (min (ii_3 + see + 1) n))), (5, .int (nI ii_3)), (4, .int (nI (min rz n))), (0, .ref w0), (1, .int (nI rn)), (2, .ref c0), (3, .int p2)]) hx hb dX0_firstWrong_108 hl (by decide) rfl (fun ls hl => ?_)
            have hT_11 : fX_taking n g fp fl rn ii_3 ≤ on (slN rn ii_3 gg_11) ↔ pTake (sdX n see tm g ff fp) rn ii_3 ≤ wayO (sdX n see tm g ff fp) rn ii_3 (rowN (fun k => fr (ii_3 + k)) (sqN (seD (sdX n see tm g ff fp)) (sdX n see tm g ff fp).1 ii_3)) := by rw [seX (by omega), xTake (see := see) (tm := tm) (ff := ff) (show ii_3 < n by omega) (hl9 rn (by omega)), hon9 ii_3 (by omega) gg_11 hgq_11, egg_11]; exact Iff.rfl
            refine lv_aload_n hx hb dX0_firstWrong_110 rfl (lv_at hl 5 rfl) ?_
            refine lv_iload_n hx hb dX0_firstWrong_111 rfl (lv_at hl 6 rfl) ?_
            refine lv_iload hx hb dX0_firstWrong_112 (lv_at hl 3 rfl) ?_
            refine lv_iload hx hb dX0_firstWrong_114 (lv_at hl 1 rfl) ?_
            refine ro_i (D := D) (va_runV (As := [.int (nI rn), .int (nI ii_3), .int (nI gg_11)]) (rest := []) ⟨hx, hb, hml, hown, hts⟩ ((y_isTaken l D k st lo h0 h1 h2 h3 h4 n see tm g ff fp fl w0 w1 w2 w3 w4 on rn ii_3 gg_11 (by first | assumption | omega) (by first | assumption | omega) (by first | assumption | omega) (by first | assumption | omega)) H.size) (cwV 3 hts (gV tw_662 tw_638 tw_639 tw_85 tw_640) rfl rfl rfl (by decide +kernel) ⟨Nat.le_of_ble_eq_true rfl, Nat.le_of_ble_eq_true rfl⟩) (pV hS hAlo hlo hP hK hDL hZ [0, 1, 2, 3, 4, 5, 6] (by decide) rfl (ci := 0) (q := (RX0, TX0, 5)) (q0 := 5) rfl rfl) rfl rfl hl.1 rfl (lv_room (Nat.le_of_ble_eq_true rfl)) dX0_firstWrong_116 ⟨Nat.le_of_ble_eq_true rfl, Nat.le_of_ble_eq_true rfl⟩) hS hA hP (fun r_15 H locs hw_15 hP hS => ?_)
            try dsimp only at hw_15
            rcases hw_15 with ⟨rfl, hw_15⟩ | ⟨rfl, hw_15⟩
            · refine lv_iload hx hb dX0_firstWrong_119 (lv_at hl 0 rfl) ?_
              refine lv_icmp_eq (tgt := 127) hx hb dX0_firstWrong_121 (by decide) (fun h => absurd h (by decide)) (fun _ => ?_)
              refine lv_iload hx hb dX0_firstWrong_124 (lv_at hl 3 rfl) ?_
              exact W.iret (v := (nI ii_3)) hx hb hr (fun t ht hW => ⟨⟨(nI ii_3), (), rfl, ⟨ii_3, by omega, hv_3.2, .inl ⟨by omega, ⟨hw_8, (show ii_3 + sqN (seD (sdX n see tm g ff fp)) (sdX n see tm g ff fp).1 ii_3 ≤ rz by rw [seX (by omega)]; exact hsq_11.2.2), (fun q => (fun q => absurd q.2 (by omega)) (q.mp (hT_11.mp hw_15.2)))⟩, rfl⟩⟩, trivial⟩, hS.F ht⟩) hS.2.2 dX0_firstWrong_126
            · refine lv_iload hx hb dX0_firstWrong_119 (lv_at hl 0 rfl) ?_
              refine lv_icmp_eq (tgt := 127) hx hb dX0_firstWrong_121 (by decide) (fun _ => ?_) (fun h => absurd (by decide) h)
              refine lv_iinc (v := (nI (ii_3 + 1))) (lv' := [(5, .int (nI (ii_3 + 1))), (8, .int 0), (7, .int (nI gg_11)), (6, .int (nI (min (ii_3 + see + 1) n))), (4, .int (nI (min rz n))), (0, .ref w0), (1, .int (nI rn)), (2, .ref c0), (3, .int p2)]) hx hb dX0_firstWrong_127 hl (k := 3) rfl (nI_add ii_3 1) (by decide) rfl (fun ls hl => ?_)
              refine lv_goto (tgt := 19) hx hb dX0_firstWrong_130 (by decide) ?_
              exact ih_3 _ (ii_3 + 1) _ _ _ (by omega) ⟨rfl, ⟨by omega, la_all (P := fun j => wrg (sdX n see tm g ff fp) rn fr rz p2 j) hv_3.2 (fun h => h.2.2 ⟨fun q => absurd q (fun q => hw_15 ⟨hgo_11, hT_11.mpr q⟩), fun q => absurd q (fun q => absurd q.2 (by omega))⟩)⟩, hP, hS, (lv_sub hl [0, 4, 5, 6, 7, 8] rfl)⟩
          · have c_14 := (nI_eq (a := ii_3) (b := ((min rz n) - 1)) (by omega) (by omega)).mp c_14
            refine lv_iconst (v := 1) hx hb dX0_firstWrong_103 (by decide) ?_
            refine lv_goto (tgt := 108) hx hb dX0_firstWrong_104 (by decide) ?_
            refine lv_istore (lv' := [(8, .int 1), (7, .int (nI gg_11)), (6, .int (nI (min (ii_3 + see + 1) n))), (5, .int (nI ii_3)), (4, .int (nI (min rz n))), (0, .ref w0), (1, .int (nI rn)), (2, .ref c0), (3, .int p2)]) hx hb dX0_firstWrong_108 hl (by decide) rfl (fun ls hl => ?_)
            have hT_11 : fX_taking n g fp fl rn ii_3 ≤ on (slN rn ii_3 gg_11) ↔ pTake (sdX n see tm g ff fp) rn ii_3 ≤ wayO (sdX n see tm g ff fp) rn ii_3 (rowN (fun k => fr (ii_3 + k)) (sqN (seD (sdX n see tm g ff fp)) (sdX n see tm g ff fp).1 ii_3)) := by rw [seX (by omega), xTake (see := see) (tm := tm) (ff := ff) (show ii_3 < n by omega) (hl9 rn (by omega)), hon9 ii_3 (by omega) gg_11 hgq_11, egg_11]; exact Iff.rfl
            refine lv_aload_n hx hb dX0_firstWrong_110 rfl (lv_at hl 5 rfl) ?_
            refine lv_iload_n hx hb dX0_firstWrong_111 rfl (lv_at hl 6 rfl) ?_
            refine lv_iload hx hb dX0_firstWrong_112 (lv_at hl 3 rfl) ?_
            refine lv_iload hx hb dX0_firstWrong_114 (lv_at hl 1 rfl) ?_
            refine ro_i (D := D) (va_runV (As := [.int (nI rn), .int (nI ii_3), .int (nI gg_11)]) (rest := []) ⟨hx, hb, hml, hown, hts⟩ ((y_isTaken l D k st lo h0 h1 h2 h3 h4 n see tm g ff fp fl w0 w1 w2 w3 w4 on rn ii_3 gg_11 (by first | assumption | omega) (by first | assumption | omega) (by first | assumption | omega) (by first | assumption | omega)) H.size) (cwV 3 hts (gV tw_662 tw_638 tw_639 tw_85 tw_640) rfl rfl rfl (by decide +kernel) ⟨Nat.le_of_ble_eq_true rfl, Nat.le_of_ble_eq_true rfl⟩) (pV hS hAlo hlo hP hK hDL hZ [0, 1, 2, 3, 4, 5, 6] (by decide) rfl (ci := 0) (q := (RX0, TX0, 5)) (q0 := 5) rfl rfl) rfl rfl hl.1 rfl (lv_room (Nat.le_of_ble_eq_true rfl)) dX0_firstWrong_116 ⟨Nat.le_of_ble_eq_true rfl, Nat.le_of_ble_eq_true rfl⟩) hS hA hP (fun r_16 H locs hw_16 hP hS => ?_)
            try dsimp only at hw_16
            rcases hw_16 with ⟨rfl, hw_16⟩ | ⟨rfl, hw_16⟩
            · refine lv_iload hx hb dX0_firstWrong_119 (lv_at hl 0 rfl) ?_
              refine lv_icmp_eq (tgt := 127) hx hb dX0_firstWrong_121 (by decide) (fun _ => ?_) (fun h => absurd (by decide) h)
              refine lv_iinc (v := (nI (ii_3 + 1))) (lv' := [(5, .int (nI (ii_3 + 1))), (8, .int 1), (7, .int (nI gg_11)), (6, .int (nI (min (ii_3 + see + 1) n))), (4, .int (nI (min rz n))), (0, .ref w0), (1, .int (nI rn)), (2, .ref c0), (3, .int p2)]) hx hb dX0_firstWrong_127 hl (k := 3) rfl (nI_add ii_3 1) (by decide) rfl (fun ls hl => ?_)
              refine lv_goto (tgt := 19) hx hb dX0_firstWrong_130 (by decide) ?_
              exact ih_3 _ (ii_3 + 1) _ _ _ (by omega) ⟨rfl, ⟨by omega, la_all (P := fun j => wrg (sdX n see tm g ff fp) rn fr rz p2 j) hv_3.2 (fun h => h.2.2 ⟨fun _ => ⟨c_12, by omega⟩, fun _ => hT_11.mp hw_16.2⟩)⟩, hP, hS, (lv_sub hl [0, 4, 5, 6, 7, 8] rfl)⟩
            · refine lv_iload hx hb dX0_firstWrong_119 (lv_at hl 0 rfl) ?_
              refine lv_icmp_eq (tgt := 127) hx hb dX0_firstWrong_121 (by decide) (fun h => absurd h (by decide)) (fun _ => ?_)
              refine lv_iload hx hb dX0_firstWrong_124 (lv_at hl 3 rfl) ?_
              exact W.iret (v := (nI ii_3)) hx hb hr (fun t ht hW => ⟨⟨(nI ii_3), (), rfl, ⟨ii_3, by omega, hv_3.2, .inl ⟨by omega, ⟨hw_8, (show ii_3 + sqN (seD (sdX n see tm g ff fp)) (sdX n see tm g ff fp).1 ii_3 ≤ rz by rw [seX (by omega)]; exact hsq_11.2.2), (fun q => (fun q => hw_16 ⟨hgo_11, hT_11.mpr q⟩) (q.mpr ⟨c_12, by omega⟩))⟩, rfl⟩⟩, trivial⟩, hS.F ht⟩) hS.2.2 dX0_firstWrong_126
      · refine lv_if_eq (tgt := 127) hx hb dX0_firstWrong_66 (by decide) (fun _ => ?_) (fun h => absurd (by decide) h)
        refine lv_iinc (v := (nI (ii_3 + 1))) (lv' := [(5, .int (nI (ii_3 + 1))), (6, .int (nI (min (ii_3 + see + 1) n))), (4, .int (nI (min rz n))), (0, .ref w0), (1, .int (nI rn)), (2, .ref c0), (3, .int p2)]) hx hb dX0_firstWrong_127 hl (k := 1) rfl (nI_add ii_3 1) (by decide) rfl (fun ls hl => ?_)
        refine lv_goto (tgt := 19) hx hb dX0_firstWrong_130 (by decide) ?_
        exact ih_3 _ (ii_3 + 1) _ _ _ (by omega) ⟨rfl, ⟨by omega, la_all (P := fun j => wrg (sdX n see tm g ff fp) rn fr rz p2 j) hv_3.2 (fun h => hw_8 h.1)⟩, hP, hS, (lv_sub hl [0, 2, 3, 4, 5, 6] rfl)⟩


set_option maxHeartbeats 4000000 in
set_option maxRecDepth 100000 in
theorem y_judge (l : Launch) (D : va_G) (k : Nat → ClassId) (st : Nat → Nat) (lo : Nat) (a : Nat → Nat) (rk : Nat) (lfa : Int32) (n0 : Nat) (see0 : Nat) (tm0 : Nat) (g0 : Nat → Int32) (ff0 : Nat → Int32) (fp0 : Nat → Int32) (fl0 : Nat → Int32) (n1 : Nat) (see1 : Nat) (tm1 : Nat) (g1 : Nat → Int32) (ff1 : Nat → Int32) (fp1 : Nat → Int32) (fl1 : Nat → Int32) (n2 : Nat) (see2 : Nat) (tm2 : Nat) (g2 : Nat → Int32) (ff2 : Nat → Int32) (fp2 : Nat → Int32) (fl2 : Nat → Int32) (on0 : Nat → Int32) (sr0 : Nat → Int32) (en0 : Nat → Int32) (on1 : Nat → Int32) (sr1 : Nat → Int32) (en1 : Nat → Int32) (on2 : Nat → Int32) (sr2 : Nat → Int32) (en2 : Nat → Int32) (cc : Nat) (rz : Nat) (ro : Int32) (sd : Int32) (p0 : Int32) (p1 : Int32) (p2 : Int32) (fr : Nat → Int32) (hn0 : n0 ≤ 24) (hse0 : see0 ≤ 2) (htm0 : tm0 ≤ 3) (hn1 : n1 ≤ 24) (hse1 : see1 ≤ 2) (htm1 : tm1 ≤ 3) (hn2 : n2 ≤ 24) (hse2 : see2 ≤ 2) (htm2 : tm2 ≤ 3) (hlt : ltP (d3 fl0 fl1 fl2) (d3 (sdX n0 see0 tm0 g0 ff0 fp0) (sdX n1 see1 tm1 g1 ff1 fp1) (sdX n2 see2 tm2 g2 ff2 fp2))) (hwy : wy3 (d3 (sdX n0 see0 tm0 g0 ff0 fp0) (sdX n1 see1 tm1 g1 ff1 fp1) (sdX n2 see2 tm2 g2 ff2 fp2)) (d3 on0 on1 on2) (d3 sr0 sr1 sr2) (d3 en0 en1 en2)) (hrz : rz ≤ 24) (hro : ro = nI (rowN fr rz)) : CRi l D k st lo yX7_judge cX7_judge 5 (some .int) ({ frames := 4, cells := 0, slots := 0, locals := 109 }) [.ref (a 0), .int p0, .int p1, .int p2] [((a 0), .inr (7, (fX7 (a 1) (a 3) (a 19) (a 35) (a 40) (nI rk) lfa (a 53) (a 56) (a 63) (a 64) (a 68)))), ((a 3), .inl (k 3, 3, .inr (.inr (.inr (.inr (a3 (a 4) (a 9) (a 14))))))), ((a 19), .inl (k 4, 3, .inr (.inr (.inr (.inr (a3 (a 20) (a 25) (a 30))))))), ((a 4), .inr (5, (fX5 (a 5) (a 6) (a 7) (a 8)))), (aI k (a 5) 10 (vv n0 see0 tm0 g0)), (aI k (a 6) 24 ff0), (aI k (a 7) 24 fp0), (aI k (a 8) 4 fl0), ((a 9), .inr (5, (fX5 (a 10) (a 11) (a 12) (a 13)))), (aI k (a 10) 10 (vv n1 see1 tm1 g1)), (aI k (a 11) 24 ff1), (aI k (a 12) 24 fp1), (aI k (a 13) 4 fl1), ((a 14), .inr (5, (fX5 (a 15) (a 16) (a 17) (a 18)))), (aI k (a 15) 10 (vv n2 see2 tm2 g2)), (aI k (a 16) 24 ff2), (aI k (a 17) 24 fp2), (aI k (a 18) 4 fl2), ((a 20), .inr (0, (fX0 (a 4) (a 21) (a 22) (a 23) (a 24)))), (aI k (a 21) 768 on0), (aI k (a 22) 4 sr0), (aI k (a 23) 4 en0), ((a 25), .inr (0, (fX0 (a 9) (a 26) (a 27) (a 28) (a 29)))), (aI k (a 26) 768 on1), (aI k (a 27) 4 sr1), (aI k (a 28) 4 en1), ((a 30), .inr (0, (fX0 (a 14) (a 31) (a 32) (a 33) (a 34)))), (aI k (a 31) 768 on2), (aI k (a 32) 4 sr2), (aI k (a 33) 4 en2), ((a 53), .inr (4, (fX4 (a 54) (a 55) (nI cc) (nI rz) ro sd)))] (fun r => tqP (d3 (sdX n0 see0 tm0 g0 ff0 fp0) (sdX n1 see1 tm1 g1 ff1 fp1) (sdX n2 see2 tm2 g2 ff2 fp2)) p0 (jdA p1 p2 fr rz) r) := by
  intro sz
  refine Met.ofW (cc := cX7_judge) (maxL := 5) (ret := (some .int)) (by decide) rfl ?_
  intro p e s m args below meth c s₁ B hml hv
  obtain ⟨rfl, hsz, hlo, hP, hK, hDL, hZ⟩ := hv
  have hx := B.exec
  have hb := B.bytes
  have hr := B.returns
  have hts := WS_ts B.pre
  have hown : s.vm.findClass RX7 = some m.cls := findClass_of_methodNamed B.named
  have hlocks := B.notSynchronized
  subst hsz
  have hA : ∀ q : Nat, s.heap.size ≤ q → (fun q : Nat => s.heap.size ≤ q) q := fun _ h => h
  have hAlo : ∀ q : Nat, (fun q : Nat => s.heap.size ≤ q) q → lo ≤ q := fun q h => Nat.le_trans hlo h
  have hS : va_S (fun q : Nat => s.heap.size ≤ q) s.heap s.heap [] := va_S.rf
  have hl := lv_entry ([.ref (a 0), .int p0, .int p1, .int p2]) (n := 5) (Nat.le_of_ble_eq_true rfl)
  rw [lg_entry_eq]
  generalize (lg_sl ([.ref (a 0), .int p0, .int p1, .int p2]) ++ List.replicate (5 - (lg_sl ([.ref (a 0), .int p0, .int p1, .int p2])).length) Slot.unset).toArray = ls at hl ⊢
  have hl : lv_has ls 5 [(0, .ref (a 0)), (1, .int p0), (2, .int p1), (3, .int p2)] := hl
  refine lv_aload_n hx hb dX7_judge_0 rfl (lv_at hl 0 rfl) ?_
  refine lv_iload_n hx hb dX7_judge_1 rfl (lv_at hl 1 rfl) ?_
  refine ro_i (D := D) (va_runV (As := [.int p0]) (rest := []) ⟨hx, hb, hml, hown, hts⟩ ((y_isStreet l D k st lo a rk lfa n0 see0 tm0 g0 n1 see1 tm1 g1 n2 see2 tm2 g2 p0 (by first | assumption | omega) (by first | assumption | omega) (by first | assumption | omega)) s.heap.size) (cwV 1 hts (gV tw_589 tw_591 tw_8 tw_79 tw_592) rfl rfl rfl (by decide +kernel) ⟨Nat.le_of_ble_eq_true rfl, Nat.le_of_ble_eq_true rfl⟩) (pV hS hAlo hlo hP hK hDL hZ [0, 1, 3, 4, 8, 9, 13, 14] (by decide) rfl (ci := 7) (q := (RX7, TX7, 12)) (q0 := 0) rfl rfl) rfl rfl hl.1 rfl (lv_room (Nat.le_of_ble_eq_true rfl)) dX7_judge_2 ⟨Nat.le_of_ble_eq_true rfl, Nat.le_of_ble_eq_true rfl⟩) hS hA hP (fun r_1 H locs hw_1 hP hS => ?_)
  try dsimp only at hw_1
  rcases hw_1 with ⟨rfl, ⟨rfl, hw_1⟩ | ⟨rfl, hw_1⟩ | ⟨rfl, hw_1⟩⟩ | ⟨rfl, hw_1⟩
  · refine lv_if_ne (tgt := 12) hx hb dX7_judge_5 (by decide) (fun _ => ?_) (fun h => absurd h (by decide))
    refine lv_aload_n hx hb dX7_judge_12 rfl (lv_at hl 0 rfl) ?_
    refine lv_iload_n hx hb dX7_judge_13 rfl (lv_at hl 1 rfl) ?_
    refine lv_iload_n hx hb dX7_judge_14 rfl (lv_at hl 2 rfl) ?_
    refine ro_i (D := D) (va_runV (As := [.int 0, .int p1]) (rest := []) ⟨hx, hb, hml, hown, hts⟩ ((y_isRound_0 l D k st lo a rk lfa n0 see0 tm0 g0 p1 (by first | assumption | omega)) H.size) (cwV 2 hts (gV tw_613 tw_615 tw_10 tw_79 tw_616) rfl rfl rfl (by decide +kernel) ⟨Nat.le_of_ble_eq_true rfl, Nat.le_of_ble_eq_true rfl⟩) (pV hS hAlo hlo hP hK hDL hZ [0, 1, 3, 4] (by decide) rfl (ci := 7) (q := (RX7, TX7, 12)) (q0 := 0) rfl rfl) rfl rfl hl.1 rfl (lv_room (Nat.le_of_ble_eq_true rfl)) dX7_judge_15 ⟨Nat.le_of_ble_eq_true rfl, Nat.le_of_ble_eq_true rfl⟩) hS hA hP (fun r_2 H locs hw_2 hP hS => ?_)
    try dsimp only at hw_2
    rcases hw_2 with ⟨rfl, ir_3, hir_3, rfl⟩ | ⟨rfl, hw_2⟩
    · refine lv_if_ne (tgt := 25) hx hb dX7_judge_18 (by decide) (fun _ => ?_) (fun h => absurd h (by decide))
      rcases Nat.eq_zero_or_pos rz with rfl | hz_9
      · refine lv_aload_n hx hb dX7_judge_25 rfl (lv_at hl 0 rfl) ?_
        refine va_get (D := D) (ci := 7) (v := .ref (a 53)) (C := RX7) (T := TX7) (N := 12) hx hb hts inX7 hown hK hP 0 rfl rfl 7 (by decide) (hts _ tw_312) (fun _ h9 => h9) rfl dX7_judge_26 ?_
        refine va_get (D := D) (ci := 4) (v := .int 0) (C := RX4) (T := TX4) (N := 6) hx hb hts inX4 hown hK hP 30 rfl rfl 3 (by decide) (hts _ tw_184) (fun _ h9 => h9) rfl dX7_judge_29 ?_
        refine lv_iconst (v := 1) hx hb dX7_judge_32 (by decide) ?_
        refine lv_isub hx hb dX7_judge_33 ?_
        refine lv_ti (y := (-1)) (by decide) ?_
        refine lv_istore (lv' := [(4, .int (-1)), (0, .ref (a 0)), (1, .int 0), (2, .int (nI ir_3)), (3, .int p2)]) hx hb dX7_judge_34 hl (by decide) rfl (fun ls hl => ?_)
        refine lv_iload hx hb dX7_judge_36 (lv_at hl 0 rfl) ?_
        refine lv_if_lt (tgt := 71) hx hb dX7_judge_38 (by decide) (fun _ => ?_) (fun h => absurd (by decide) h)
        refine lv_sipush (v := (-1003)) hx hb dX7_judge_71 (by decide) ?_
        exact W.iret (v := (-1003)) hx hb hr (fun t ht hW => ⟨⟨(-1003), (), rfl, tq_at (s := 0) (by omega) (show 0 < n0 by omega) (show jdA (nI ir_3) p2 fr 0 (sdX n0 see0 tm0 g0 ff0 fp0) _ from jd_n (by rw [rdX]; exact inr (by omega) (by omega)) (.inl rfl)), trivial⟩, hS.F ht⟩) hS.2.2 dX7_judge_74
      · refine lv_aload_n hx hb dX7_judge_25 rfl (lv_at hl 0 rfl) ?_
        refine va_get (D := D) (ci := 7) (v := .ref (a 53)) (C := RX7) (T := TX7) (N := 12) hx hb hts inX7 hown hK hP 0 rfl rfl 7 (by decide) (hts _ tw_312) (fun _ h9 => h9) rfl dX7_judge_26 ?_
        refine va_get (D := D) (ci := 4) (v := .int (nI rz)) (C := RX4) (T := TX4) (N := 6) hx hb hts inX4 hown hK hP 30 rfl rfl 3 (by decide) (hts _ tw_184) (fun _ h9 => h9) rfl dX7_judge_29 ?_
        refine lv_iconst (v := 1) hx hb dX7_judge_32 (by decide) ?_
        refine lv_isub hx hb dX7_judge_33 ?_
        refine lv_ti (y := (nI (rz - 1))) (pk_sub (a := rz) (b := 1) (by omega)) ?_
        refine lv_istore (lv' := [(4, .int (nI (rz - 1))), (0, .ref (a 0)), (1, .int 0), (2, .int (nI ir_3)), (3, .int p2)]) hx hb dX7_judge_34 hl (by decide) rfl (fun ls hl => ?_)
        refine lv_iload hx hb dX7_judge_36 (lv_at hl 0 rfl) ?_
        refine lv_if_lt (tgt := 71) hx hb dX7_judge_38 (by decide) (fun h => absurd h (nI_pos0 (by omega))) (fun _ => ?_)
        refine lv_iload hx hb dX7_judge_41 (lv_at hl 0 rfl) ?_
        refine lv_aload_n hx hb dX7_judge_43 rfl (lv_at hl 1 rfl) ?_
        refine va_get (D := D) (ci := 7) (v := .ref (a 3)) (C := RX7) (T := TX7) (N := 12) hx hb hts inX7 hown hK hP 0 rfl rfl 1 (by decide) (hts _ tw_306) (fun _ h9 => h9) rfl dX7_judge_44 ?_
        refine lv_iload_n hx hb dX7_judge_47 rfl (lv_at hl 2 rfl) ?_
        refine va_aldq hx hb hK hP 1 3 rfl rfl (by unfold vp_in; decide) dX7_judge_48 ?_
        refine lv_tr (y := .ref (a 4)) rfl ?_
        refine ro_i (D := D) (va_runV (As := []) (rest := [.int (nI (rz - 1))]) ⟨hx, hb, hml, hown, hts⟩ ((x_doors l D k st lo (a 4) (a 5) (a 6) (a 7) (a 8) n0 see0 tm0 g0) H.size) (cwV 0 hts (gV tw_580 tw_478 tw_479 tw_81 tw_480) rfl rfl rfl (by decide +kernel) ⟨Nat.le_of_ble_eq_true rfl, Nat.le_of_ble_eq_true rfl⟩) (pV hS hAlo hlo hP hK hDL hZ [3, 4] (by decide) rfl (ci := 5) (q := (RX5, TX5, 4)) (q0 := 0) rfl rfl) rfl rfl hl.1 rfl (lv_room (Nat.le_of_ble_eq_true rfl)) dX7_judge_49 ⟨Nat.le_of_ble_eq_true rfl, Nat.le_of_ble_eq_true rfl⟩) hS hA hP (fun r_4 H locs hw_4 hP hS => ?_)
        try dsimp only at hw_4
        subst hw_4
        refine lv_icmp_ge (tgt := 71) hx hb dX7_judge_52 (by decide) (fun c_5 => ?_) (fun c_5 => ?_)
        · have c_5 := (nI_leI (a := n0) (b := (rz - 1)) (by omega) (by omega)).mp c_5
          refine lv_sipush (v := (-1003)) hx hb dX7_judge_71 (by decide) ?_
          exact W.iret (v := (-1003)) hx hb hr (fun t ht hW => ⟨⟨(-1003), (), rfl, tq_at (s := 0) (by omega) (show 0 < n0 by omega) (show jdA (nI ir_3) p2 fr rz (sdX n0 see0 tm0 g0 ff0 fp0) _ from jd_n (by rw [rdX]; exact inr (by omega) (by omega)) (.inr (.inl (show n0 < rz by omega)))), trivial⟩, hS.F ht⟩) hS.2.2 dX7_judge_74
        · have c_5 : ¬ (n0 ≤ (rz - 1)) := fun h => c_5 ((nI_leI (a := n0) (b := (rz - 1)) (by omega) (by omega)).mpr h)
          refine lv_iload_n hx hb dX7_judge_55 rfl (lv_at hl 4 rfl) ?_
          refine lv_if_eq (tgt := 75) hx hb dX7_judge_56 (by decide) (fun c_6 => ?_) (fun c_6 => ?_)
          · refine lv_aload_n hx hb dX7_judge_75 rfl (lv_at hl 1 rfl) ?_
            refine va_get (D := D) (ci := 7) (v := .ref (a 19)) (C := RX7) (T := TX7) (N := 12) hx hb hts inX7 hown hK hP 0 rfl rfl 2 (by decide) (hts _ tw_307) (fun _ h9 => h9) rfl dX7_judge_76 ?_
            refine lv_iload_n hx hb dX7_judge_79 rfl (lv_at hl 2 rfl) ?_
            refine va_aldq hx hb hK hP 2 4 rfl rfl (by unfold vp_in; decide) dX7_judge_80 ?_
            refine lv_tr (y := .ref (a 20)) rfl ?_
            refine lv_iload_n hx hb dX7_judge_81 rfl (lv_at hl 3 rfl) ?_
            refine lv_aload_n hx hb dX7_judge_82 rfl (lv_at hl 1 rfl) ?_
            refine va_get (D := D) (ci := 7) (v := .ref (a 53)) (C := RX7) (T := TX7) (N := 12) hx hb hts inX7 hown hK hP 0 rfl rfl 7 (by decide) (hts _ tw_312) (fun _ h9 => h9) rfl dX7_judge_83 ?_
            refine lv_iload_n hx hb dX7_judge_86 rfl (lv_at hl 4 rfl) ?_
            refine ro_i (D := D) (va_runV (As := [.int (nI ir_3), .ref (a 53), .int p2]) (rest := []) ⟨hx, hb, hml, hown, hts⟩ ((y_firstWrong l D k st lo (a 4) (a 5) (a 6) (a 7) (a 8) n0 see0 tm0 g0 ff0 fp0 fl0 (a 20) (a 21) (a 22) (a 23) (a 24) on0 (a 53) (a 54) (a 55) cc rz ro sd ir_3 p2 fr (by first | assumption | omega) (by first | assumption | omega) (by first | assumption | omega) hro (by first | assumption | omega) (by first | assumption | omega) (hlt 0 (by omega)) (fun i hi g hg => wo_of (d := (sdX n0 see0 tm0 g0 ff0 fp0)) (hwy 0 (by omega) (show 0 < n0 by omega)) (by rw [tmX (by omega)]; omega) (show i < n0 from hi) (by rw [seX (by omega)]; exact hg))) H.size) (cwV 3 hts (gV tw_756 tw_757 tw_758 tw_85 tw_759) rfl rfl rfl (by decide +kernel) ⟨Nat.le_of_ble_eq_true rfl, Nat.le_of_ble_eq_true rfl⟩) (pV hS hAlo hlo hP hK hDL hZ [3, 4, 5, 6, 7, 18, 19, 30] (by decide) rfl (ci := 0) (q := (RX0, TX0, 5)) (q0 := 5) rfl rfl) rfl rfl hl.1 rfl (lv_room (Nat.le_of_ble_eq_true rfl)) dX7_judge_87 ⟨Nat.le_of_ble_eq_true rfl, Nat.le_of_ble_eq_true rfl⟩) hS hA hP (fun r_7 H locs hw_7 hP hS => ?_)
            try dsimp only at hw_7
            exact W.iret (v := r_7) hx hb hr (fun t ht hW => ⟨⟨r_7, (), rfl, tq_at (s := 0) (by omega) (show 0 < n0 by omega) (show jdA (nI ir_3) p2 fr rz (sdX n0 see0 tm0 g0 ff0 fp0) _ from jd_i (by omega) (by rw [rdX]; exact inr (by omega) (by omega)) (not3 (show ¬ rz = 0 by omega) (show ¬ n0 < rz by omega) (fun q => q.1 c_6)) hw_7), trivial⟩, hS.F ht⟩) hS.2.2 dX7_judge_90
          · refine lv_aload_n hx hb dX7_judge_59 rfl (lv_at hl 1 rfl) ?_
            refine va_get (D := D) (ci := 7) (v := .ref (a 53)) (C := RX7) (T := TX7) (N := 12) hx hb hts inX7 hown hK hP 0 rfl rfl 7 (by decide) (hts _ tw_312) (fun _ h9 => h9) rfl dX7_judge_60 ?_
            refine lv_iload hx hb dX7_judge_63 (lv_at hl 0 rfl) ?_
            refine ro_i (D := D) (va_runV (As := [.int (nI (rz - 1))]) (rest := []) ⟨hx, hb, hml, hown, hts⟩ ((y_sawFree l D k st lo (a 53) (a 54) (a 55) cc rz ro sd (rz - 1) fr hro (by first | assumption | omega) (by first | assumption | omega)) H.size) (cwV 1 hts (gV tw_752 tw_753 tw_754 tw_82 tw_755) rfl rfl rfl (by decide +kernel) ⟨Nat.le_of_ble_eq_true rfl, Nat.le_of_ble_eq_true rfl⟩) (pV hS hAlo hlo hP hK hDL hZ [30] (by decide) rfl (ci := 4) (q := (RX4, TX4, 6)) (q0 := 0) rfl rfl) rfl rfl hl.1 rfl (lv_room (Nat.le_of_ble_eq_true rfl)) dX7_judge_65 ⟨Nat.le_of_ble_eq_true rfl, Nat.le_of_ble_eq_true rfl⟩) hS hA hP (fun r_8 H locs hw_8 hP hS => ?_)
            try dsimp only at hw_8
            rcases hw_8 with ⟨rfl, hw_8⟩ | ⟨rfl, hw_8⟩
            · refine lv_if_ne (tgt := 75) hx hb dX7_judge_68 (by decide) (fun _ => ?_) (fun h => absurd h (by decide))
              refine lv_aload_n hx hb dX7_judge_75 rfl (lv_at hl 1 rfl) ?_
              refine va_get (D := D) (ci := 7) (v := .ref (a 19)) (C := RX7) (T := TX7) (N := 12) hx hb hts inX7 hown hK hP 0 rfl rfl 2 (by decide) (hts _ tw_307) (fun _ h9 => h9) rfl dX7_judge_76 ?_
              refine lv_iload_n hx hb dX7_judge_79 rfl (lv_at hl 2 rfl) ?_
              refine va_aldq hx hb hK hP 2 4 rfl rfl (by unfold vp_in; decide) dX7_judge_80 ?_
              refine lv_tr (y := .ref (a 20)) rfl ?_
              refine lv_iload_n hx hb dX7_judge_81 rfl (lv_at hl 3 rfl) ?_
              refine lv_aload_n hx hb dX7_judge_82 rfl (lv_at hl 1 rfl) ?_
              refine va_get (D := D) (ci := 7) (v := .ref (a 53)) (C := RX7) (T := TX7) (N := 12) hx hb hts inX7 hown hK hP 0 rfl rfl 7 (by decide) (hts _ tw_312) (fun _ h9 => h9) rfl dX7_judge_83 ?_
              refine lv_iload_n hx hb dX7_judge_86 rfl (lv_at hl 4 rfl) ?_
              refine ro_i (D := D) (va_runV (As := [.int (nI ir_3), .ref (a 53), .int p2]) (rest := []) ⟨hx, hb, hml, hown, hts⟩ ((y_firstWrong l D k st lo (a 4) (a 5) (a 6) (a 7) (a 8) n0 see0 tm0 g0 ff0 fp0 fl0 (a 20) (a 21) (a 22) (a 23) (a 24) on0 (a 53) (a 54) (a 55) cc rz ro sd ir_3 p2 fr (by first | assumption | omega) (by first | assumption | omega) (by first | assumption | omega) hro (by first | assumption | omega) (by first | assumption | omega) (hlt 0 (by omega)) (fun i hi g hg => wo_of (d := (sdX n0 see0 tm0 g0 ff0 fp0)) (hwy 0 (by omega) (show 0 < n0 by omega)) (by rw [tmX (by omega)]; omega) (show i < n0 from hi) (by rw [seX (by omega)]; exact hg))) H.size) (cwV 3 hts (gV tw_756 tw_757 tw_758 tw_85 tw_759) rfl rfl rfl (by decide +kernel) ⟨Nat.le_of_ble_eq_true rfl, Nat.le_of_ble_eq_true rfl⟩) (pV hS hAlo hlo hP hK hDL hZ [3, 4, 5, 6, 7, 18, 19, 30] (by decide) rfl (ci := 0) (q := (RX0, TX0, 5)) (q0 := 5) rfl rfl) rfl rfl hl.1 rfl (lv_room (Nat.le_of_ble_eq_true rfl)) dX7_judge_87 ⟨Nat.le_of_ble_eq_true rfl, Nat.le_of_ble_eq_true rfl⟩) hS hA hP (fun r_9 H locs hw_9 hP hS => ?_)
              try dsimp only at hw_9
              exact W.iret (v := r_9) hx hb hr (fun t ht hW => ⟨⟨r_9, (), rfl, tq_at (s := 0) (by omega) (show 0 < n0 by omega) (show jdA (nI ir_3) p2 fr rz (sdX n0 see0 tm0 g0 ff0 fp0) _ from jd_i (by omega) (by rw [rdX]; exact inr (by omega) (by omega)) (not3 (show ¬ rz = 0 by omega) (show ¬ n0 < rz by omega) (fun q => q.2 hw_8)) hw_9), trivial⟩, hS.F ht⟩) hS.2.2 dX7_judge_90
            · refine lv_if_ne (tgt := 75) hx hb dX7_judge_68 (by decide) (fun h => absurd (by decide) h) (fun _ => ?_)
              refine lv_sipush (v := (-1003)) hx hb dX7_judge_71 (by decide) ?_
              exact W.iret (v := (-1003)) hx hb hr (fun t ht hW => ⟨⟨(-1003), (), rfl, tq_at (s := 0) (by omega) (show 0 < n0 by omega) (show jdA (nI ir_3) p2 fr rz (sdX n0 see0 tm0 g0 ff0 fp0) _ from jd_n (by rw [rdX]; exact inr (by omega) (by omega)) (.inr (.inr ⟨c_6, hw_8⟩))), trivial⟩, hS.F ht⟩) hS.2.2 dX7_judge_74
    · refine lv_if_ne (tgt := 25) hx hb dX7_judge_18 (by decide) (fun h => absurd (by decide) h) (fun _ => ?_)
      refine lv_sipush (v := (-1002)) hx hb dX7_judge_21 (by decide) ?_
      exact W.iret (v := (-1002)) hx hb hr (fun t ht hW => ⟨⟨(-1002), (), rfl, tq_at (s := 0) (by omega) (show 0 < n0 by omega) (show jdA p1 p2 fr rz (sdX n0 see0 tm0 g0 ff0 fp0) _ from jd_o (by rw [rdX]; exact hw_2)), trivial⟩, hS.F ht⟩) hS.2.2 dX7_judge_24
  · refine lv_if_ne (tgt := 12) hx hb dX7_judge_5 (by decide) (fun _ => ?_) (fun h => absurd h (by decide))
    refine lv_aload_n hx hb dX7_judge_12 rfl (lv_at hl 0 rfl) ?_
    refine lv_iload_n hx hb dX7_judge_13 rfl (lv_at hl 1 rfl) ?_
    refine lv_iload_n hx hb dX7_judge_14 rfl (lv_at hl 2 rfl) ?_
    refine ro_i (D := D) (va_runV (As := [.int 1, .int p1]) (rest := []) ⟨hx, hb, hml, hown, hts⟩ ((y_isRound_1 l D k st lo a rk lfa n1 see1 tm1 g1 p1 (by first | assumption | omega)) H.size) (cwV 2 hts (gV tw_613 tw_615 tw_10 tw_79 tw_616) rfl rfl rfl (by decide +kernel) ⟨Nat.le_of_ble_eq_true rfl, Nat.le_of_ble_eq_true rfl⟩) (pV hS hAlo hlo hP hK hDL hZ [0, 1, 8, 9] (by decide) rfl (ci := 7) (q := (RX7, TX7, 12)) (q0 := 0) rfl rfl) rfl rfl hl.1 rfl (lv_room (Nat.le_of_ble_eq_true rfl)) dX7_judge_15 ⟨Nat.le_of_ble_eq_true rfl, Nat.le_of_ble_eq_true rfl⟩) hS hA hP (fun r_10 H locs hw_10 hP hS => ?_)
    try dsimp only at hw_10
    rcases hw_10 with ⟨rfl, ir_11, hir_11, rfl⟩ | ⟨rfl, hw_10⟩
    · refine lv_if_ne (tgt := 25) hx hb dX7_judge_18 (by decide) (fun _ => ?_) (fun h => absurd h (by decide))
      rcases Nat.eq_zero_or_pos rz with rfl | hz_9
      · refine lv_aload_n hx hb dX7_judge_25 rfl (lv_at hl 0 rfl) ?_
        refine va_get (D := D) (ci := 7) (v := .ref (a 53)) (C := RX7) (T := TX7) (N := 12) hx hb hts inX7 hown hK hP 0 rfl rfl 7 (by decide) (hts _ tw_312) (fun _ h9 => h9) rfl dX7_judge_26 ?_
        refine va_get (D := D) (ci := 4) (v := .int 0) (C := RX4) (T := TX4) (N := 6) hx hb hts inX4 hown hK hP 30 rfl rfl 3 (by decide) (hts _ tw_184) (fun _ h9 => h9) rfl dX7_judge_29 ?_
        refine lv_iconst (v := 1) hx hb dX7_judge_32 (by decide) ?_
        refine lv_isub hx hb dX7_judge_33 ?_
        refine lv_ti (y := (-1)) (by decide) ?_
        refine lv_istore (lv' := [(4, .int (-1)), (0, .ref (a 0)), (1, .int 1), (2, .int (nI ir_11)), (3, .int p2)]) hx hb dX7_judge_34 hl (by decide) rfl (fun ls hl => ?_)
        refine lv_iload hx hb dX7_judge_36 (lv_at hl 0 rfl) ?_
        refine lv_if_lt (tgt := 71) hx hb dX7_judge_38 (by decide) (fun _ => ?_) (fun h => absurd (by decide) h)
        refine lv_sipush (v := (-1003)) hx hb dX7_judge_71 (by decide) ?_
        exact W.iret (v := (-1003)) hx hb hr (fun t ht hW => ⟨⟨(-1003), (), rfl, tq_at (s := 1) (by omega) (show 0 < n1 by omega) (show jdA (nI ir_11) p2 fr 0 (sdX n1 see1 tm1 g1 ff1 fp1) _ from jd_n (by rw [rdX]; exact inr (by omega) (by omega)) (.inl rfl)), trivial⟩, hS.F ht⟩) hS.2.2 dX7_judge_74
      · refine lv_aload_n hx hb dX7_judge_25 rfl (lv_at hl 0 rfl) ?_
        refine va_get (D := D) (ci := 7) (v := .ref (a 53)) (C := RX7) (T := TX7) (N := 12) hx hb hts inX7 hown hK hP 0 rfl rfl 7 (by decide) (hts _ tw_312) (fun _ h9 => h9) rfl dX7_judge_26 ?_
        refine va_get (D := D) (ci := 4) (v := .int (nI rz)) (C := RX4) (T := TX4) (N := 6) hx hb hts inX4 hown hK hP 30 rfl rfl 3 (by decide) (hts _ tw_184) (fun _ h9 => h9) rfl dX7_judge_29 ?_
        refine lv_iconst (v := 1) hx hb dX7_judge_32 (by decide) ?_
        refine lv_isub hx hb dX7_judge_33 ?_
        refine lv_ti (y := (nI (rz - 1))) (pk_sub (a := rz) (b := 1) (by omega)) ?_
        refine lv_istore (lv' := [(4, .int (nI (rz - 1))), (0, .ref (a 0)), (1, .int 1), (2, .int (nI ir_11)), (3, .int p2)]) hx hb dX7_judge_34 hl (by decide) rfl (fun ls hl => ?_)
        refine lv_iload hx hb dX7_judge_36 (lv_at hl 0 rfl) ?_
        refine lv_if_lt (tgt := 71) hx hb dX7_judge_38 (by decide) (fun h => absurd h (nI_pos0 (by omega))) (fun _ => ?_)
        refine lv_iload hx hb dX7_judge_41 (lv_at hl 0 rfl) ?_
        refine lv_aload_n hx hb dX7_judge_43 rfl (lv_at hl 1 rfl) ?_
        refine va_get (D := D) (ci := 7) (v := .ref (a 3)) (C := RX7) (T := TX7) (N := 12) hx hb hts inX7 hown hK hP 0 rfl rfl 1 (by decide) (hts _ tw_306) (fun _ h9 => h9) rfl dX7_judge_44 ?_
        refine lv_iload_n hx hb dX7_judge_47 rfl (lv_at hl 2 rfl) ?_
        refine va_aldq hx hb hK hP 1 3 rfl rfl (by unfold vp_in; decide) dX7_judge_48 ?_
        refine lv_tr (y := .ref (a 9)) rfl ?_
        refine ro_i (D := D) (va_runV (As := []) (rest := [.int (nI (rz - 1))]) ⟨hx, hb, hml, hown, hts⟩ ((x_doors l D k st lo (a 9) (a 10) (a 11) (a 12) (a 13) n1 see1 tm1 g1) H.size) (cwV 0 hts (gV tw_580 tw_478 tw_479 tw_81 tw_480) rfl rfl rfl (by decide +kernel) ⟨Nat.le_of_ble_eq_true rfl, Nat.le_of_ble_eq_true rfl⟩) (pV hS hAlo hlo hP hK hDL hZ [8, 9] (by decide) rfl (ci := 5) (q := (RX5, TX5, 4)) (q0 := 0) rfl rfl) rfl rfl hl.1 rfl (lv_room (Nat.le_of_ble_eq_true rfl)) dX7_judge_49 ⟨Nat.le_of_ble_eq_true rfl, Nat.le_of_ble_eq_true rfl⟩) hS hA hP (fun r_12 H locs hw_12 hP hS => ?_)
        try dsimp only at hw_12
        subst hw_12
        refine lv_icmp_ge (tgt := 71) hx hb dX7_judge_52 (by decide) (fun c_13 => ?_) (fun c_13 => ?_)
        · have c_13 := (nI_leI (a := n1) (b := (rz - 1)) (by omega) (by omega)).mp c_13
          refine lv_sipush (v := (-1003)) hx hb dX7_judge_71 (by decide) ?_
          exact W.iret (v := (-1003)) hx hb hr (fun t ht hW => ⟨⟨(-1003), (), rfl, tq_at (s := 1) (by omega) (show 0 < n1 by omega) (show jdA (nI ir_11) p2 fr rz (sdX n1 see1 tm1 g1 ff1 fp1) _ from jd_n (by rw [rdX]; exact inr (by omega) (by omega)) (.inr (.inl (show n1 < rz by omega)))), trivial⟩, hS.F ht⟩) hS.2.2 dX7_judge_74
        · have c_13 : ¬ (n1 ≤ (rz - 1)) := fun h => c_13 ((nI_leI (a := n1) (b := (rz - 1)) (by omega) (by omega)).mpr h)
          refine lv_iload_n hx hb dX7_judge_55 rfl (lv_at hl 4 rfl) ?_
          refine lv_if_eq (tgt := 75) hx hb dX7_judge_56 (by decide) (fun c_14 => ?_) (fun c_14 => ?_)
          · refine lv_aload_n hx hb dX7_judge_75 rfl (lv_at hl 1 rfl) ?_
            refine va_get (D := D) (ci := 7) (v := .ref (a 19)) (C := RX7) (T := TX7) (N := 12) hx hb hts inX7 hown hK hP 0 rfl rfl 2 (by decide) (hts _ tw_307) (fun _ h9 => h9) rfl dX7_judge_76 ?_
            refine lv_iload_n hx hb dX7_judge_79 rfl (lv_at hl 2 rfl) ?_
            refine va_aldq hx hb hK hP 2 4 rfl rfl (by unfold vp_in; decide) dX7_judge_80 ?_
            refine lv_tr (y := .ref (a 25)) rfl ?_
            refine lv_iload_n hx hb dX7_judge_81 rfl (lv_at hl 3 rfl) ?_
            refine lv_aload_n hx hb dX7_judge_82 rfl (lv_at hl 1 rfl) ?_
            refine va_get (D := D) (ci := 7) (v := .ref (a 53)) (C := RX7) (T := TX7) (N := 12) hx hb hts inX7 hown hK hP 0 rfl rfl 7 (by decide) (hts _ tw_312) (fun _ h9 => h9) rfl dX7_judge_83 ?_
            refine lv_iload_n hx hb dX7_judge_86 rfl (lv_at hl 4 rfl) ?_
            refine ro_i (D := D) (va_runV (As := [.int (nI ir_11), .ref (a 53), .int p2]) (rest := []) ⟨hx, hb, hml, hown, hts⟩ ((y_firstWrong l D k st lo (a 9) (a 10) (a 11) (a 12) (a 13) n1 see1 tm1 g1 ff1 fp1 fl1 (a 25) (a 26) (a 27) (a 28) (a 29) on1 (a 53) (a 54) (a 55) cc rz ro sd ir_11 p2 fr (by first | assumption | omega) (by first | assumption | omega) (by first | assumption | omega) hro (by first | assumption | omega) (by first | assumption | omega) (hlt 1 (by omega)) (fun i hi g hg => wo_of (d := (sdX n1 see1 tm1 g1 ff1 fp1)) (hwy 1 (by omega) (show 0 < n1 by omega)) (by rw [tmX (by omega)]; omega) (show i < n1 from hi) (by rw [seX (by omega)]; exact hg))) H.size) (cwV 3 hts (gV tw_756 tw_757 tw_758 tw_85 tw_759) rfl rfl rfl (by decide +kernel) ⟨Nat.le_of_ble_eq_true rfl, Nat.le_of_ble_eq_true rfl⟩) (pV hS hAlo hlo hP hK hDL hZ [8, 9, 10, 11, 12, 22, 23, 30] (by decide) rfl (ci := 0) (q := (RX0, TX0, 5)) (q0 := 5) rfl rfl) rfl rfl hl.1 rfl (lv_room (Nat.le_of_ble_eq_true rfl)) dX7_judge_87 ⟨Nat.le_of_ble_eq_true rfl, Nat.le_of_ble_eq_true rfl⟩) hS hA hP (fun r_15 H locs hw_15 hP hS => ?_)
            try dsimp only at hw_15
            exact W.iret (v := r_15) hx hb hr (fun t ht hW => ⟨⟨r_15, (), rfl, tq_at (s := 1) (by omega) (show 0 < n1 by omega) (show jdA (nI ir_11) p2 fr rz (sdX n1 see1 tm1 g1 ff1 fp1) _ from jd_i (by omega) (by rw [rdX]; exact inr (by omega) (by omega)) (not3 (show ¬ rz = 0 by omega) (show ¬ n1 < rz by omega) (fun q => q.1 c_14)) hw_15), trivial⟩, hS.F ht⟩) hS.2.2 dX7_judge_90
          · refine lv_aload_n hx hb dX7_judge_59 rfl (lv_at hl 1 rfl) ?_
            refine va_get (D := D) (ci := 7) (v := .ref (a 53)) (C := RX7) (T := TX7) (N := 12) hx hb hts inX7 hown hK hP 0 rfl rfl 7 (by decide) (hts _ tw_312) (fun _ h9 => h9) rfl dX7_judge_60 ?_
            refine lv_iload hx hb dX7_judge_63 (lv_at hl 0 rfl) ?_
            refine ro_i (D := D) (va_runV (As := [.int (nI (rz - 1))]) (rest := []) ⟨hx, hb, hml, hown, hts⟩ ((y_sawFree l D k st lo (a 53) (a 54) (a 55) cc rz ro sd (rz - 1) fr hro (by first | assumption | omega) (by first | assumption | omega)) H.size) (cwV 1 hts (gV tw_752 tw_753 tw_754 tw_82 tw_755) rfl rfl rfl (by decide +kernel) ⟨Nat.le_of_ble_eq_true rfl, Nat.le_of_ble_eq_true rfl⟩) (pV hS hAlo hlo hP hK hDL hZ [30] (by decide) rfl (ci := 4) (q := (RX4, TX4, 6)) (q0 := 0) rfl rfl) rfl rfl hl.1 rfl (lv_room (Nat.le_of_ble_eq_true rfl)) dX7_judge_65 ⟨Nat.le_of_ble_eq_true rfl, Nat.le_of_ble_eq_true rfl⟩) hS hA hP (fun r_16 H locs hw_16 hP hS => ?_)
            try dsimp only at hw_16
            rcases hw_16 with ⟨rfl, hw_16⟩ | ⟨rfl, hw_16⟩
            · refine lv_if_ne (tgt := 75) hx hb dX7_judge_68 (by decide) (fun _ => ?_) (fun h => absurd h (by decide))
              refine lv_aload_n hx hb dX7_judge_75 rfl (lv_at hl 1 rfl) ?_
              refine va_get (D := D) (ci := 7) (v := .ref (a 19)) (C := RX7) (T := TX7) (N := 12) hx hb hts inX7 hown hK hP 0 rfl rfl 2 (by decide) (hts _ tw_307) (fun _ h9 => h9) rfl dX7_judge_76 ?_
              refine lv_iload_n hx hb dX7_judge_79 rfl (lv_at hl 2 rfl) ?_
              refine va_aldq hx hb hK hP 2 4 rfl rfl (by unfold vp_in; decide) dX7_judge_80 ?_
              refine lv_tr (y := .ref (a 25)) rfl ?_
              refine lv_iload_n hx hb dX7_judge_81 rfl (lv_at hl 3 rfl) ?_
              refine lv_aload_n hx hb dX7_judge_82 rfl (lv_at hl 1 rfl) ?_
              refine va_get (D := D) (ci := 7) (v := .ref (a 53)) (C := RX7) (T := TX7) (N := 12) hx hb hts inX7 hown hK hP 0 rfl rfl 7 (by decide) (hts _ tw_312) (fun _ h9 => h9) rfl dX7_judge_83 ?_
              refine lv_iload_n hx hb dX7_judge_86 rfl (lv_at hl 4 rfl) ?_
              refine ro_i (D := D) (va_runV (As := [.int (nI ir_11), .ref (a 53), .int p2]) (rest := []) ⟨hx, hb, hml, hown, hts⟩ ((y_firstWrong l D k st lo (a 9) (a 10) (a 11) (a 12) (a 13) n1 see1 tm1 g1 ff1 fp1 fl1 (a 25) (a 26) (a 27) (a 28) (a 29) on1 (a 53) (a 54) (a 55) cc rz ro sd ir_11 p2 fr (by first | assumption | omega) (by first | assumption | omega) (by first | assumption | omega) hro (by first | assumption | omega) (by first | assumption | omega) (hlt 1 (by omega)) (fun i hi g hg => wo_of (d := (sdX n1 see1 tm1 g1 ff1 fp1)) (hwy 1 (by omega) (show 0 < n1 by omega)) (by rw [tmX (by omega)]; omega) (show i < n1 from hi) (by rw [seX (by omega)]; exact hg))) H.size) (cwV 3 hts (gV tw_756 tw_757 tw_758 tw_85 tw_759) rfl rfl rfl (by decide +kernel) ⟨Nat.le_of_ble_eq_true rfl, Nat.le_of_ble_eq_true rfl⟩) (pV hS hAlo hlo hP hK hDL hZ [8, 9, 10, 11, 12, 22, 23, 30] (by decide) rfl (ci := 0) (q := (RX0, TX0, 5)) (q0 := 5) rfl rfl) rfl rfl hl.1 rfl (lv_room (Nat.le_of_ble_eq_true rfl)) dX7_judge_87 ⟨Nat.le_of_ble_eq_true rfl, Nat.le_of_ble_eq_true rfl⟩) hS hA hP (fun r_17 H locs hw_17 hP hS => ?_)
              try dsimp only at hw_17
              exact W.iret (v := r_17) hx hb hr (fun t ht hW => ⟨⟨r_17, (), rfl, tq_at (s := 1) (by omega) (show 0 < n1 by omega) (show jdA (nI ir_11) p2 fr rz (sdX n1 see1 tm1 g1 ff1 fp1) _ from jd_i (by omega) (by rw [rdX]; exact inr (by omega) (by omega)) (not3 (show ¬ rz = 0 by omega) (show ¬ n1 < rz by omega) (fun q => q.2 hw_16)) hw_17), trivial⟩, hS.F ht⟩) hS.2.2 dX7_judge_90
            · refine lv_if_ne (tgt := 75) hx hb dX7_judge_68 (by decide) (fun h => absurd (by decide) h) (fun _ => ?_)
              refine lv_sipush (v := (-1003)) hx hb dX7_judge_71 (by decide) ?_
              exact W.iret (v := (-1003)) hx hb hr (fun t ht hW => ⟨⟨(-1003), (), rfl, tq_at (s := 1) (by omega) (show 0 < n1 by omega) (show jdA (nI ir_11) p2 fr rz (sdX n1 see1 tm1 g1 ff1 fp1) _ from jd_n (by rw [rdX]; exact inr (by omega) (by omega)) (.inr (.inr ⟨c_14, hw_16⟩))), trivial⟩, hS.F ht⟩) hS.2.2 dX7_judge_74
    · refine lv_if_ne (tgt := 25) hx hb dX7_judge_18 (by decide) (fun h => absurd (by decide) h) (fun _ => ?_)
      refine lv_sipush (v := (-1002)) hx hb dX7_judge_21 (by decide) ?_
      exact W.iret (v := (-1002)) hx hb hr (fun t ht hW => ⟨⟨(-1002), (), rfl, tq_at (s := 1) (by omega) (show 0 < n1 by omega) (show jdA p1 p2 fr rz (sdX n1 see1 tm1 g1 ff1 fp1) _ from jd_o (by rw [rdX]; exact hw_10)), trivial⟩, hS.F ht⟩) hS.2.2 dX7_judge_24
  · refine lv_if_ne (tgt := 12) hx hb dX7_judge_5 (by decide) (fun _ => ?_) (fun h => absurd h (by decide))
    refine lv_aload_n hx hb dX7_judge_12 rfl (lv_at hl 0 rfl) ?_
    refine lv_iload_n hx hb dX7_judge_13 rfl (lv_at hl 1 rfl) ?_
    refine lv_iload_n hx hb dX7_judge_14 rfl (lv_at hl 2 rfl) ?_
    refine ro_i (D := D) (va_runV (As := [.int 2, .int p1]) (rest := []) ⟨hx, hb, hml, hown, hts⟩ ((y_isRound_2 l D k st lo a rk lfa n2 see2 tm2 g2 p1 (by first | assumption | omega)) H.size) (cwV 2 hts (gV tw_613 tw_615 tw_10 tw_79 tw_616) rfl rfl rfl (by decide +kernel) ⟨Nat.le_of_ble_eq_true rfl, Nat.le_of_ble_eq_true rfl⟩) (pV hS hAlo hlo hP hK hDL hZ [0, 1, 13, 14] (by decide) rfl (ci := 7) (q := (RX7, TX7, 12)) (q0 := 0) rfl rfl) rfl rfl hl.1 rfl (lv_room (Nat.le_of_ble_eq_true rfl)) dX7_judge_15 ⟨Nat.le_of_ble_eq_true rfl, Nat.le_of_ble_eq_true rfl⟩) hS hA hP (fun r_18 H locs hw_18 hP hS => ?_)
    try dsimp only at hw_18
    rcases hw_18 with ⟨rfl, ir_19, hir_19, rfl⟩ | ⟨rfl, hw_18⟩
    · refine lv_if_ne (tgt := 25) hx hb dX7_judge_18 (by decide) (fun _ => ?_) (fun h => absurd h (by decide))
      rcases Nat.eq_zero_or_pos rz with rfl | hz_9
      · refine lv_aload_n hx hb dX7_judge_25 rfl (lv_at hl 0 rfl) ?_
        refine va_get (D := D) (ci := 7) (v := .ref (a 53)) (C := RX7) (T := TX7) (N := 12) hx hb hts inX7 hown hK hP 0 rfl rfl 7 (by decide) (hts _ tw_312) (fun _ h9 => h9) rfl dX7_judge_26 ?_
        refine va_get (D := D) (ci := 4) (v := .int 0) (C := RX4) (T := TX4) (N := 6) hx hb hts inX4 hown hK hP 30 rfl rfl 3 (by decide) (hts _ tw_184) (fun _ h9 => h9) rfl dX7_judge_29 ?_
        refine lv_iconst (v := 1) hx hb dX7_judge_32 (by decide) ?_
        refine lv_isub hx hb dX7_judge_33 ?_
        refine lv_ti (y := (-1)) (by decide) ?_
        refine lv_istore (lv' := [(4, .int (-1)), (0, .ref (a 0)), (1, .int 2), (2, .int (nI ir_19)), (3, .int p2)]) hx hb dX7_judge_34 hl (by decide) rfl (fun ls hl => ?_)
        refine lv_iload hx hb dX7_judge_36 (lv_at hl 0 rfl) ?_
        refine lv_if_lt (tgt := 71) hx hb dX7_judge_38 (by decide) (fun _ => ?_) (fun h => absurd (by decide) h)
        refine lv_sipush (v := (-1003)) hx hb dX7_judge_71 (by decide) ?_
        exact W.iret (v := (-1003)) hx hb hr (fun t ht hW => ⟨⟨(-1003), (), rfl, tq_at (s := 2) (by omega) (show 0 < n2 by omega) (show jdA (nI ir_19) p2 fr 0 (sdX n2 see2 tm2 g2 ff2 fp2) _ from jd_n (by rw [rdX]; exact inr (by omega) (by omega)) (.inl rfl)), trivial⟩, hS.F ht⟩) hS.2.2 dX7_judge_74
      · refine lv_aload_n hx hb dX7_judge_25 rfl (lv_at hl 0 rfl) ?_
        refine va_get (D := D) (ci := 7) (v := .ref (a 53)) (C := RX7) (T := TX7) (N := 12) hx hb hts inX7 hown hK hP 0 rfl rfl 7 (by decide) (hts _ tw_312) (fun _ h9 => h9) rfl dX7_judge_26 ?_
        refine va_get (D := D) (ci := 4) (v := .int (nI rz)) (C := RX4) (T := TX4) (N := 6) hx hb hts inX4 hown hK hP 30 rfl rfl 3 (by decide) (hts _ tw_184) (fun _ h9 => h9) rfl dX7_judge_29 ?_
        refine lv_iconst (v := 1) hx hb dX7_judge_32 (by decide) ?_
        refine lv_isub hx hb dX7_judge_33 ?_
        refine lv_ti (y := (nI (rz - 1))) (pk_sub (a := rz) (b := 1) (by omega)) ?_
        refine lv_istore (lv' := [(4, .int (nI (rz - 1))), (0, .ref (a 0)), (1, .int 2), (2, .int (nI ir_19)), (3, .int p2)]) hx hb dX7_judge_34 hl (by decide) rfl (fun ls hl => ?_)
        refine lv_iload hx hb dX7_judge_36 (lv_at hl 0 rfl) ?_
        refine lv_if_lt (tgt := 71) hx hb dX7_judge_38 (by decide) (fun h => absurd h (nI_pos0 (by omega))) (fun _ => ?_)
        refine lv_iload hx hb dX7_judge_41 (lv_at hl 0 rfl) ?_
        refine lv_aload_n hx hb dX7_judge_43 rfl (lv_at hl 1 rfl) ?_
        refine va_get (D := D) (ci := 7) (v := .ref (a 3)) (C := RX7) (T := TX7) (N := 12) hx hb hts inX7 hown hK hP 0 rfl rfl 1 (by decide) (hts _ tw_306) (fun _ h9 => h9) rfl dX7_judge_44 ?_
        refine lv_iload_n hx hb dX7_judge_47 rfl (lv_at hl 2 rfl) ?_
        refine va_aldq hx hb hK hP 1 3 rfl rfl (by unfold vp_in; decide) dX7_judge_48 ?_
        refine lv_tr (y := .ref (a 14)) rfl ?_
        refine ro_i (D := D) (va_runV (As := []) (rest := [.int (nI (rz - 1))]) ⟨hx, hb, hml, hown, hts⟩ ((x_doors l D k st lo (a 14) (a 15) (a 16) (a 17) (a 18) n2 see2 tm2 g2) H.size) (cwV 0 hts (gV tw_580 tw_478 tw_479 tw_81 tw_480) rfl rfl rfl (by decide +kernel) ⟨Nat.le_of_ble_eq_true rfl, Nat.le_of_ble_eq_true rfl⟩) (pV hS hAlo hlo hP hK hDL hZ [13, 14] (by decide) rfl (ci := 5) (q := (RX5, TX5, 4)) (q0 := 0) rfl rfl) rfl rfl hl.1 rfl (lv_room (Nat.le_of_ble_eq_true rfl)) dX7_judge_49 ⟨Nat.le_of_ble_eq_true rfl, Nat.le_of_ble_eq_true rfl⟩) hS hA hP (fun r_20 H locs hw_20 hP hS => ?_)
        try dsimp only at hw_20
        subst hw_20
        refine lv_icmp_ge (tgt := 71) hx hb dX7_judge_52 (by decide) (fun c_21 => ?_) (fun c_21 => ?_)
        · have c_21 := (nI_leI (a := n2) (b := (rz - 1)) (by omega) (by omega)).mp c_21
          refine lv_sipush (v := (-1003)) hx hb dX7_judge_71 (by decide) ?_
          exact W.iret (v := (-1003)) hx hb hr (fun t ht hW => ⟨⟨(-1003), (), rfl, tq_at (s := 2) (by omega) (show 0 < n2 by omega) (show jdA (nI ir_19) p2 fr rz (sdX n2 see2 tm2 g2 ff2 fp2) _ from jd_n (by rw [rdX]; exact inr (by omega) (by omega)) (.inr (.inl (show n2 < rz by omega)))), trivial⟩, hS.F ht⟩) hS.2.2 dX7_judge_74
        · have c_21 : ¬ (n2 ≤ (rz - 1)) := fun h => c_21 ((nI_leI (a := n2) (b := (rz - 1)) (by omega) (by omega)).mpr h)
          refine lv_iload_n hx hb dX7_judge_55 rfl (lv_at hl 4 rfl) ?_
          refine lv_if_eq (tgt := 75) hx hb dX7_judge_56 (by decide) (fun c_22 => ?_) (fun c_22 => ?_)
          · refine lv_aload_n hx hb dX7_judge_75 rfl (lv_at hl 1 rfl) ?_
            refine va_get (D := D) (ci := 7) (v := .ref (a 19)) (C := RX7) (T := TX7) (N := 12) hx hb hts inX7 hown hK hP 0 rfl rfl 2 (by decide) (hts _ tw_307) (fun _ h9 => h9) rfl dX7_judge_76 ?_
            refine lv_iload_n hx hb dX7_judge_79 rfl (lv_at hl 2 rfl) ?_
            refine va_aldq hx hb hK hP 2 4 rfl rfl (by unfold vp_in; decide) dX7_judge_80 ?_
            refine lv_tr (y := .ref (a 30)) rfl ?_
            refine lv_iload_n hx hb dX7_judge_81 rfl (lv_at hl 3 rfl) ?_
            refine lv_aload_n hx hb dX7_judge_82 rfl (lv_at hl 1 rfl) ?_
            refine va_get (D := D) (ci := 7) (v := .ref (a 53)) (C := RX7) (T := TX7) (N := 12) hx hb hts inX7 hown hK hP 0 rfl rfl 7 (by decide) (hts _ tw_312) (fun _ h9 => h9) rfl dX7_judge_83 ?_
            refine lv_iload_n hx hb dX7_judge_86 rfl (lv_at hl 4 rfl) ?_
            refine ro_i (D := D) (va_runV (As := [.int (nI ir_19), .ref (a 53), .int p2]) (rest := []) ⟨hx, hb, hml, hown, hts⟩ ((y_firstWrong l D k st lo (a 14) (a 15) (a 16) (a 17) (a 18) n2 see2 tm2 g2 ff2 fp2 fl2 (a 30) (a 31) (a 32) (a 33) (a 34) on2 (a 53) (a 54) (a 55) cc rz ro sd ir_19 p2 fr (by first | assumption | omega) (by first | assumption | omega) (by first | assumption | omega) hro (by first | assumption | omega) (by first | assumption | omega) (hlt 2 (by omega)) (fun i hi g hg => wo_of (d := (sdX n2 see2 tm2 g2 ff2 fp2)) (hwy 2 (by omega) (show 0 < n2 by omega)) (by rw [tmX (by omega)]; omega) (show i < n2 from hi) (by rw [seX (by omega)]; exact hg))) H.size) (cwV 3 hts (gV tw_756 tw_757 tw_758 tw_85 tw_759) rfl rfl rfl (by decide +kernel) ⟨Nat.le_of_ble_eq_true rfl, Nat.le_of_ble_eq_true rfl⟩) (pV hS hAlo hlo hP hK hDL hZ [13, 14, 15, 16, 17, 26, 27, 30] (by decide) rfl (ci := 0) (q := (RX0, TX0, 5)) (q0 := 5) rfl rfl) rfl rfl hl.1 rfl (lv_room (Nat.le_of_ble_eq_true rfl)) dX7_judge_87 ⟨Nat.le_of_ble_eq_true rfl, Nat.le_of_ble_eq_true rfl⟩) hS hA hP (fun r_23 H locs hw_23 hP hS => ?_)
            try dsimp only at hw_23
            exact W.iret (v := r_23) hx hb hr (fun t ht hW => ⟨⟨r_23, (), rfl, tq_at (s := 2) (by omega) (show 0 < n2 by omega) (show jdA (nI ir_19) p2 fr rz (sdX n2 see2 tm2 g2 ff2 fp2) _ from jd_i (by omega) (by rw [rdX]; exact inr (by omega) (by omega)) (not3 (show ¬ rz = 0 by omega) (show ¬ n2 < rz by omega) (fun q => q.1 c_22)) hw_23), trivial⟩, hS.F ht⟩) hS.2.2 dX7_judge_90
          · refine lv_aload_n hx hb dX7_judge_59 rfl (lv_at hl 1 rfl) ?_
            refine va_get (D := D) (ci := 7) (v := .ref (a 53)) (C := RX7) (T := TX7) (N := 12) hx hb hts inX7 hown hK hP 0 rfl rfl 7 (by decide) (hts _ tw_312) (fun _ h9 => h9) rfl dX7_judge_60 ?_
            refine lv_iload hx hb dX7_judge_63 (lv_at hl 0 rfl) ?_
            refine ro_i (D := D) (va_runV (As := [.int (nI (rz - 1))]) (rest := []) ⟨hx, hb, hml, hown, hts⟩ ((y_sawFree l D k st lo (a 53) (a 54) (a 55) cc rz ro sd (rz - 1) fr hro (by first | assumption | omega) (by first | assumption | omega)) H.size) (cwV 1 hts (gV tw_752 tw_753 tw_754 tw_82 tw_755) rfl rfl rfl (by decide +kernel) ⟨Nat.le_of_ble_eq_true rfl, Nat.le_of_ble_eq_true rfl⟩) (pV hS hAlo hlo hP hK hDL hZ [30] (by decide) rfl (ci := 4) (q := (RX4, TX4, 6)) (q0 := 0) rfl rfl) rfl rfl hl.1 rfl (lv_room (Nat.le_of_ble_eq_true rfl)) dX7_judge_65 ⟨Nat.le_of_ble_eq_true rfl, Nat.le_of_ble_eq_true rfl⟩) hS hA hP (fun r_24 H locs hw_24 hP hS => ?_)
            try dsimp only at hw_24
            rcases hw_24 with ⟨rfl, hw_24⟩ | ⟨rfl, hw_24⟩
            · refine lv_if_ne (tgt := 75) hx hb dX7_judge_68 (by decide) (fun _ => ?_) (fun h => absurd h (by decide))
              refine lv_aload_n hx hb dX7_judge_75 rfl (lv_at hl 1 rfl) ?_
              refine va_get (D := D) (ci := 7) (v := .ref (a 19)) (C := RX7) (T := TX7) (N := 12) hx hb hts inX7 hown hK hP 0 rfl rfl 2 (by decide) (hts _ tw_307) (fun _ h9 => h9) rfl dX7_judge_76 ?_
              refine lv_iload_n hx hb dX7_judge_79 rfl (lv_at hl 2 rfl) ?_
              refine va_aldq hx hb hK hP 2 4 rfl rfl (by unfold vp_in; decide) dX7_judge_80 ?_
              refine lv_tr (y := .ref (a 30)) rfl ?_
              refine lv_iload_n hx hb dX7_judge_81 rfl (lv_at hl 3 rfl) ?_
              refine lv_aload_n hx hb dX7_judge_82 rfl (lv_at hl 1 rfl) ?_
              refine va_get (D := D) (ci := 7) (v := .ref (a 53)) (C := RX7) (T := TX7) (N := 12) hx hb hts inX7 hown hK hP 0 rfl rfl 7 (by decide) (hts _ tw_312) (fun _ h9 => h9) rfl dX7_judge_83 ?_
              refine lv_iload_n hx hb dX7_judge_86 rfl (lv_at hl 4 rfl) ?_
              refine ro_i (D := D) (va_runV (As := [.int (nI ir_19), .ref (a 53), .int p2]) (rest := []) ⟨hx, hb, hml, hown, hts⟩ ((y_firstWrong l D k st lo (a 14) (a 15) (a 16) (a 17) (a 18) n2 see2 tm2 g2 ff2 fp2 fl2 (a 30) (a 31) (a 32) (a 33) (a 34) on2 (a 53) (a 54) (a 55) cc rz ro sd ir_19 p2 fr (by first | assumption | omega) (by first | assumption | omega) (by first | assumption | omega) hro (by first | assumption | omega) (by first | assumption | omega) (hlt 2 (by omega)) (fun i hi g hg => wo_of (d := (sdX n2 see2 tm2 g2 ff2 fp2)) (hwy 2 (by omega) (show 0 < n2 by omega)) (by rw [tmX (by omega)]; omega) (show i < n2 from hi) (by rw [seX (by omega)]; exact hg))) H.size) (cwV 3 hts (gV tw_756 tw_757 tw_758 tw_85 tw_759) rfl rfl rfl (by decide +kernel) ⟨Nat.le_of_ble_eq_true rfl, Nat.le_of_ble_eq_true rfl⟩) (pV hS hAlo hlo hP hK hDL hZ [13, 14, 15, 16, 17, 26, 27, 30] (by decide) rfl (ci := 0) (q := (RX0, TX0, 5)) (q0 := 5) rfl rfl) rfl rfl hl.1 rfl (lv_room (Nat.le_of_ble_eq_true rfl)) dX7_judge_87 ⟨Nat.le_of_ble_eq_true rfl, Nat.le_of_ble_eq_true rfl⟩) hS hA hP (fun r_25 H locs hw_25 hP hS => ?_)
              try dsimp only at hw_25
              exact W.iret (v := r_25) hx hb hr (fun t ht hW => ⟨⟨r_25, (), rfl, tq_at (s := 2) (by omega) (show 0 < n2 by omega) (show jdA (nI ir_19) p2 fr rz (sdX n2 see2 tm2 g2 ff2 fp2) _ from jd_i (by omega) (by rw [rdX]; exact inr (by omega) (by omega)) (not3 (show ¬ rz = 0 by omega) (show ¬ n2 < rz by omega) (fun q => q.2 hw_24)) hw_25), trivial⟩, hS.F ht⟩) hS.2.2 dX7_judge_90
            · refine lv_if_ne (tgt := 75) hx hb dX7_judge_68 (by decide) (fun h => absurd (by decide) h) (fun _ => ?_)
              refine lv_sipush (v := (-1003)) hx hb dX7_judge_71 (by decide) ?_
              exact W.iret (v := (-1003)) hx hb hr (fun t ht hW => ⟨⟨(-1003), (), rfl, tq_at (s := 2) (by omega) (show 0 < n2 by omega) (show jdA (nI ir_19) p2 fr rz (sdX n2 see2 tm2 g2 ff2 fp2) _ from jd_n (by rw [rdX]; exact inr (by omega) (by omega)) (.inr (.inr ⟨c_22, hw_24⟩))), trivial⟩, hS.F ht⟩) hS.2.2 dX7_judge_74
    · refine lv_if_ne (tgt := 25) hx hb dX7_judge_18 (by decide) (fun h => absurd (by decide) h) (fun _ => ?_)
      refine lv_sipush (v := (-1002)) hx hb dX7_judge_21 (by decide) ?_
      exact W.iret (v := (-1002)) hx hb hr (fun t ht hW => ⟨⟨(-1002), (), rfl, tq_at (s := 2) (by omega) (show 0 < n2 by omega) (show jdA p1 p2 fr rz (sdX n2 see2 tm2 g2 ff2 fp2) _ from jd_o (by rw [rdX]; exact hw_18)), trivial⟩, hS.F ht⟩) hS.2.2 dX7_judge_24
  · refine lv_if_ne (tgt := 12) hx hb dX7_judge_5 (by decide) (fun h => absurd (by decide) h) (fun _ => ?_)
    refine lv_sipush (v := (-1001)) hx hb dX7_judge_8 (by decide) ?_
    exact W.iret (v := (-1001)) hx hb hr (fun t ht hW => ⟨⟨(-1001), (), rfl, tq_no (fun s h1 h2 h3 => hw_1 s h1 h2 (by rw [d3_n] at h3; exact h3)), trivial⟩, hS.F ht⟩) hS.2.2 dX7_judge_11


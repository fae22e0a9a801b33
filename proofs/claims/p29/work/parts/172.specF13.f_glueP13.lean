theorem f_glueP13 : True := trivial
theorem hty_of {f g : Nat → Int32} (h : bF f = g) : ∀ j, 0 ≤ g j := by
  intro j
  rw [← h]
  show (0 : Int32) ≤ f j &&& 255
  obtain ⟨z, hz, e⟩ := and255 (f j)
  rw [e]
  exact nI_ge0 (by omega)
theorem d3_n {a b c : SDt} (s : Nat) : (d3 a b c s).1 = d3 a.1 b.1 c.1 s := by
  match s with
  | 0 => rfl
  | 1 => rfl
  | s + 2 => rfl
/-! told -/
def toA (d : SDt) (p1 r : Int32) : Prop := (p1 = 0 → r = nI d.1) ∧ (∀ k, 1 ≤ k → k ≤ 9 → p1 = nI k → r = d.2.1 k) ∧ (¬ inB p1 0 9 → r = -1002)
def toP (sd : Nat → SDt) (p0 p1 r : Int32) : Prop := ((∀ s, s < 3 → p0 = nI s → ¬ 0 < (sd s).1) → r = -1001) ∧ ∀ s, s < 3 → p0 = nI s → 0 < (sd s).1 → toA (sd s) p1 r
theorem in09 {k : Nat} (h : k ≤ 9) : inB (nI k) 0 9 := ⟨nI_ge0 (by omega), (nI_leI (a := k) (b := 9) (by omega) (by omega)).mpr h⟩
theorem toA_fun {d : SDt} {p1 r q : Int32} (h : toA d p1 r) (g : toA d p1 q) : r = q := by
  rcases Classical.em (inB p1 0 9) with hi | hi
  · obtain ⟨k, h1, h2, e⟩ := inB_ofc (a := 0) (b := 9) (by omega) (by omega) hi
    rcases Nat.eq_zero_or_pos k with hk | hk
    · subst hk
      exact (h.1 e).trans (g.1 e).symm
    · exact (h.2.1 k hk h2 e).trans (g.2.1 k hk h2 e).symm
  · exact (h.2.2 hi).trans (g.2.2 hi).symm
theorem toP_fun {sd se : Nat → SDt} {p0 p1 r q : Int32} (h : toP sd p0 p1 r) (g : toP se p0 p1 q) (e : ∀ i, i < 3 → sd i = se i) : r = q := by
  rcases Classical.em (∃ s, s < 3 ∧ p0 = nI s ∧ 0 < (sd s).1) with ⟨s, h1, h2, h3⟩ | hn
  · have a := h.2 s h1 h2 h3
    have b := g.2 s h1 h2 (by rw [← e s h1]; exact h3)
    rw [← e s h1] at b
    exact toA_fun a b
  · have a := h.1 (fun s h1 h2 h3 => hn ⟨s, h1, h2, h3⟩)
    have b := g.1 (fun s h1 h2 h3 => hn ⟨s, h1, h2, by rw [e s h1]; exact h3⟩)
    exact a.trans b.symm
theorem to_no {sd : Nat → SDt} {p0 p1 : Int32} (h : ∀ s, s < 3 → p0 = nI s → ¬ 0 < (sd s).1) : toP sd p0 p1 (-1001) := ⟨fun _ => rfl, fun s h1 h2 h3 => absurd h3 (h s h1 h2)⟩
theorem to_at {sd : Nat → SDt} {s : Nat} {p1 r : Int32} (hs : s < 3) (hp : 0 < (sd s).1) (h : toA (sd s) p1 r) : toP sd (nI s) p1 r := by
  refine ⟨fun q => absurd hp (q s hs rfl), fun t h1 h2 _ => ?_⟩
  have := nI_inj (by omega) (by omega) h2
  subst this
  exact h
theorem toXk {n see tm k : Nat} {g ff fp : Nat → Int32} (h : k ≤ 9) : toA (sdX n see tm g ff fp) (nI k) (vv n see tm g k) := by
  refine ⟨fun e => ?_, fun q h1 h2 e => ?_, fun z => absurd (in09 h) z⟩
  · have h0 : k = 0 := nI_inj (by omega) (by omega) e
    subst h0
    rfl
  · have h0 : k = q := nI_inj (by omega) (by omega) e
    subst h0
    show vv n see tm g k = (if 1 ≤ k ∧ k ≤ 9 then vv n see tm g k else 0)
    rw [if_pos ⟨h1, h2⟩]
theorem toO {d : SDt} {p1 : Int32} (h : ¬ inB p1 0 9) : toA d p1 (-1002) := ⟨fun e => absurd (by rw [e]; exact ⟨by decide, by decide⟩) h, fun k _ h2 e => absurd (by rw [e]; exact in09 h2) h, fun _ => rfl⟩
theorem toM0 {dn : Nat → Nat} {f ff fp : Nat → Int32} {s : Nat} {p1 : Int32} (h : p1 = 0) : toA (sdM dn f ff fp s) p1 (nI (dn s)) := by
  refine ⟨fun _ => rfl, fun k h1 h2 e => ?_, fun z => absurd (by rw [h]; exact ⟨by decide, by decide⟩) z⟩
  have h0 : 0 = k := nI_inj (by omega) (by omega) ((show (nI 0) = p1 from h.symm).trans e)
  omega
theorem toMk {dn : Nat → Nat} {f ff fp : Nat → Int32} {s k : Nat} (h1 : 1 ≤ k) (h2 : k ≤ 9) : toA (sdM dn f ff fp s) (nI k) (f (9 * s + (k - 1))) := by
  refine ⟨fun e => ?_, fun q h3 h4 e => ?_, fun z => absurd (in09 h2) z⟩
  · have h0 : k = 0 := nI_inj (by omega) (by omega) e
    omega
  · have h0 : k = q := nI_inj (by omega) (by omega) e
    subst h0
    show f (9 * s + (k - 1)) = (if 1 ≤ k ∧ k ≤ 9 then f (9 * s + (k - 1)) else 0)
    rw [if_pos ⟨h1, h2⟩]
theorem toMo {d : SDt} {p1 : Int32} (h0 : ¬ p1 = 0) (h : ¬ inB p1 1 9) : toA d p1 (-1002) := by
  refine ⟨fun e => absurd e h0, fun k h1 h2 e => absurd ?_ h, fun _ => rfl⟩
  rw [e]
  exact ⟨(nI_leI (a := 1) (b := k) (by omega) (by omega)).mpr h1, (nI_leI (a := k) (b := 9) (by omega) (by omega)).mpr h2⟩
/-! door -/
def doA (d : SDt) (i : Nat) (p2 r : Int32) : Prop := (p2 = 0 → r = d.2.2.1 i) ∧ (p2 = 1 → r = d.2.2.2 i) ∧ (¬ p2 = 0 → ¬ p2 = 1 → r = -1002)
def doP (sd : Nat → SDt) (p0 p1 p2 r : Int32) : Prop := ((∀ s, s < 3 → p0 = nI s → ∀ i, p1 = nI i → ¬ i < (sd s).1) → r = -1001) ∧ ∀ s, s < 3 → p0 = nI s → ∀ i, p1 = nI i → i < (sd s).1 → doA (sd s) i p2 r
theorem doA_fun {d : SDt} {i : Nat} {p2 r q : Int32} (h : doA d i p2 r) (g : doA d i p2 q) : r = q := by
  rcases Classical.em (p2 = 0) with e | e
  · exact (h.1 e).trans (g.1 e).symm
  · rcases Classical.em (p2 = 1) with e1 | e1
    · exact (h.2.1 e1).trans (g.2.1 e1).symm
    · exact (h.2.2 e e1).trans (g.2.2 e e1).symm
theorem doP_fun {sd se : Nat → SDt} {p0 p1 p2 r q : Int32} (h : doP sd p0 p1 p2 r) (g : doP se p0 p1 p2 q) (e : ∀ i, i < 3 → sd i = se i) : r = q := by
  rcases Classical.em (∃ s i, s < 3 ∧ p0 = nI s ∧ p1 = nI i ∧ i < (sd s).1) with ⟨s, i, h1, h2, h3, h4⟩ | hn
  · have a := h.2 s h1 h2 i h3 h4
    have b := g.2 s h1 h2 i h3 (by rw [← e s h1]; exact h4)
    rw [← e s h1] at b
    exact doA_fun a b
  · have a := h.1 (fun s h1 h2 i h3 h4 => hn ⟨s, i, h1, h2, h3, h4⟩)
    have b := g.1 (fun s h1 h2 i h3 h4 => hn ⟨s, i, h1, h2, h3, by rw [e s h1]; exact h4⟩)
    exact a.trans b.symm
theorem do_no {sd : Nat → SDt} {p0 p1 p2 : Int32} (h : ∀ s, s < 3 → p0 = nI s → ∀ i, p1 = nI i → ¬ i < (sd s).1) : doP sd p0 p1 p2 (-1001) := ⟨fun _ => rfl, fun s h1 h2 i h3 h4 => absurd h4 (h s h1 h2 i h3)⟩
theorem do_at {sd : Nat → SDt} {s i : Nat} {p2 r : Int32} (hs : s < 3) (hb : (sd s).1 ≤ 24) (hi : i < (sd s).1) (h : doA (sd s) i p2 r) : doP sd (nI s) (nI i) p2 r := by
  refine ⟨fun q => absurd hi (q s hs rfl i rfl), fun t h1 h2 j h3 h4 => ?_⟩
  have := nI_inj (by omega) (by omega) h2
  subst this
  have := nI_inj (by omega) (by omega) h3
  subst this
  exact h
theorem doF0 {n : Nat} {a : Nat → Int32} {f g : Nat → Int32} {i : Nat} {p2 : Int32} (hi : i < n) (h : p2 = 0) : doA (n, a, clp n f, clp n g) i p2 (f i) := by
  refine ⟨fun _ => ?_, fun e => absurd (h.symm.trans e) (by decide), fun e => absurd h e⟩
  show f i = (if i < n then f i else 0)
  rw [if_pos hi]
theorem doF1 {n : Nat} {a : Nat → Int32} {f g : Nat → Int32} {i : Nat} {p2 : Int32} (hi : i < n) (h : p2 = 1) : doA (n, a, clp n f, clp n g) i p2 (g i) := by
  refine ⟨fun e => absurd (e.symm.trans h) (by decide), fun _ => ?_, fun _ e => absurd h e⟩
  show g i = (if i < n then g i else 0)
  rw [if_pos hi]
theorem doFo {d : SDt} {i : Nat} {p2 : Int32} (h0 : ¬ p2 = 0) (h1 : ¬ p2 = 1) : doA d i p2 (-1002) := ⟨fun e => absurd e h0, fun e => absurd e h1, fun _ _ => rfl⟩
theorem not01 {x : Int32} (h : ¬ inB x 0 1) : ¬ x = 0 ∧ ¬ x = 1 := ⟨fun e => h (by rw [e]; exact ⟨by decide, by decide⟩), fun e => h (by rw [e]; exact ⟨by decide, by decide⟩)⟩
theorem is01 {x : Int32} (h : inB x 0 1) (h0 : ¬ x = 0) : x = 1 := by
  obtain ⟨j, h1, h2, e⟩ := inB_ofc (a := 0) (b := 1) (by omega) (by omega) h
  rcases (show j = 0 ∨ j = 1 by omega) with rfl | rfl
  · exact absurd e h0
  · exact e
theorem bF_0 : bF (fun _ => 0) = fun _ => 0 := by
  funext j
  show (0 : Int32) &&& 255 = 0
  decide
theorem sd_0x {f : Nat → Int32} : sdX 0 0 0 (fun _ => 0) f f = (0, (fun _ => 0), (fun _ => 0), (fun _ => 0)) := by
  have e1 : nG (vv 0 0 0 (fun _ => 0)) = fun _ => 0 := by
    funext j
    unfold nG vv
    repeat' split
    all_goals rfl
  show (0, nG (vv 0 0 0 (fun _ => 0)), clp 0 f, clp 0 f) = _
  rw [e1, clp_0]
theorem sd_0m {s : Nat} {f : Nat → Int32} : sdM (fun _ => 0) (sg (fun _ => 0) (fun _ => 0) (fun _ => 0)) f f s = (0, (fun _ => 0), (fun _ => 0), (fun _ => 0)) := by
  have e0 : ∀ j, sg (fun _ => 0) (fun _ => 0) (fun _ => 0) j = 0 := by
    intro j
    unfold sg
    repeat' split
    all_goals rfl
  have e1 : nG (fun j => sg (fun _ => 0) (fun _ => 0) (fun _ => 0) (9 * s + (j - 1))) = fun _ => 0 := by
    funext j
    unfold nG
    split
    · exact e0 _
    · rfl
  show (0, nG (fun j => sg (fun _ => 0) (fun _ => 0) (fun _ => 0) (9 * s + (j - 1))), clp 0 (fun i => f (24 * s + i)), clp 0 (fun i => f (24 * s + i))) = _
  rw [e1, clp_0]
theorem sd_0 : ∀ i, i < 3 → d3 (sdX 0 0 0 (fun _ => 0) (fun _ => 0) (fun _ => 0)) (sdX 0 0 0 (fun _ => 0) (fun _ => 0) (fun _ => 0)) (sdX 0 0 0 (fun _ => 0) (fun _ => 0) (fun _ => 0)) i = sdM (fun _ => 0) (sg (fun _ => 0) (fun _ => 0) (fun _ => 0)) (fun _ => 0) (fun _ => 0) i := by
  intro i hi
  rw [sd_0m, sd_0x]
  match i with
  | 0 => rfl
  | 1 => rfl
  | i + 2 => rfl
theorem in02 {s : Nat} (h : s < 3) : inB (nI s) 0 2 := ⟨nI_ge0 (by omega), (nI_leI (a := s) (b := 2) (by omega) (by omega)).mpr (by omega)⟩
theorem in0n {d j : Nat} (hj : j < d) (hd : d ≤ 24) : inB (nI j) 0 (nI d - 1) := by
  refine ⟨nI_ge0 (by omega), ?_⟩
  show nI j ≤ nI d - nI 1
  rw [pk_sub (by omega)]
  exact (nI_leI (by omega) (by omega)).mpr (by omega)
theorem nge3 {s : Nat} (h : s < 3) : ¬ (3 : Int32) ≤ nI s := fun q => absurd ((nI_leI (a := 3) (b := s) (by omega) (by omega)).mp q) (by omega)


set_option maxHeartbeats 4000000 in
set_option maxRecDepth 100000 in
theorem y_fault (l : Launch) (D : va_G) (k : Nat → ClassId) (st : Nat → Nat) (lo : Nat) (a : Nat → Nat) (rk : Nat) (lfa : Int32)  : CRi l D k st lo yX7_fault cX7_fault 1 (some .int) ({ frames := 0, cells := 0, slots := 0, locals := 0 }) [.ref (a 0)] [((a 0), .inr (7, (fX7 (a 1) (a 3) (a 19) (a 35) (a 40) (nI rk) lfa (a 53) (a 56) (a 63) (a 64) (a 68))))] (fun r => r = lfa) := by
  intro sz
  refine Met.ofW (cc := cX7_fault) (maxL := 1) (ret := (some .int)) (by decide) rfl ?_
  intro p e s m args below meth c s₁ B hml hv
  obtain ⟨rfl, hsz, hlo, hP, hK, hDL, hZ⟩ := hv
  have hx := B.exec
  have hb := B.bytes
  have hr := B.returns
  have hts := WS_ts B.pre
  have hown : s.vm.findClass RX7 = some m.cls := findClass_of_methodNamed B.named
  have hlocks := B.notSynchronized
  subst hsz
  have hA : ∀ q : Nat, s.heap.size ≤ q → (fun q : Nat => s.heap.size ≤ q) q := fun _ h => h
  have hAlo : ∀ q : Nat, (fun q : Nat => s.heap.size ≤ q) q → lo ≤ q := fun q h => Nat.le_trans hlo h
  have hS : va_S (fun q : Nat => s.heap.size ≤ q) s.heap s.heap [] := va_S.rf
  have hl := lv_entry ([.ref (a 0)]) (n := 1) (Nat.le_of_ble_eq_true rfl)
  rw [lg_entry_eq]
  generalize (lg_sl ([.ref (a 0)]) ++ List.replicate (1 - (lg_sl ([.ref (a 0)])).length) Slot.unset).toArray = ls at hl ⊢
  have hl : lv_has ls 1 [(0, .ref (a 0))] := hl
  refine lv_aload_n hx hb dX7_fault_0 rfl (lv_at hl 0 rfl) ?_
  refine va_get (D := D) (ci := 7) (v := .int lfa) (C := RX7) (T := TX7) (N := 12) hx hb hts inX7 hown hK hP 0 rfl rfl 6 (by decide) (hts _ tw_311) (fun _ h9 => h9) rfl dX7_fault_1 ?_
  exact W.iret (v := lfa) hx hb hr (fun t ht hW => ⟨⟨lfa, (), rfl, rfl, trivial⟩, hS.F ht⟩) hS.2.2 dX7_fault_4


set_option maxHeartbeats 4000000 in
set_option maxRecDepth 100000 in
theorem n_fault (l : Launch) (D : va_G) (k : Nat → ClassId) (st : Nat → Nat) (lo : Nat) (a : Nat → Nat) (tx : Nat) (t0 : Nat) (we : Nat) (rd : Nat) (ru : Nat) (rw : Nat) (ca : Nat) (fp : Int32) (wd : Int64) (nu : Int32) (na : Int32) (ts : Int32) (df : Int32) (db : Int32) (sd : Int32)  : CRi l D k st lo yX8_fault cX8_fault 1 (some .int) ({ frames := 0, cells := 0, slots := 0, locals := 0 }) [.ref (a 0)] [((a 0), .inr (8, (fX8 a (nI tx) fp (nI t0) wd (nI we) nu na (nI rd) ts (nI ru) (nI rw) (nI ca) df db sd)))] (fun r => r = fp) := by
  intro sz
  refine Met.ofW (cc := cX8_fault) (maxL := 1) (ret := (some .int)) (by decide) rfl ?_
  intro p e s m args below meth c s₁ B hml hv
  obtain ⟨rfl, hsz, hlo, hP, hK, hDL, hZ⟩ := hv
  have hx := B.exec
  have hb := B.bytes
  have hr := B.returns
  have hts := WS_ts B.pre
  have hown : s.vm.findClass RX8 = some m.cls := findClass_of_methodNamed B.named
  have hlocks := B.notSynchronized
  subst hsz
  have hA : ∀ q : Nat, s.heap.size ≤ q → (fun q : Nat => s.heap.size ≤ q) q := fun _ h => h
  have hAlo : ∀ q : Nat, (fun q : Nat => s.heap.size ≤ q) q → lo ≤ q := fun q h => Nat.le_trans hlo h
  have hS : va_S (fun q : Nat => s.heap.size ≤ q) s.heap s.heap [] := va_S.rf
  have hl := lv_entry ([.ref (a 0)]) (n := 1) (Nat.le_of_ble_eq_true rfl)
  rw [lg_entry_eq]
  generalize (lg_sl ([.ref (a 0)]) ++ List.replicate (1 - (lg_sl ([.ref (a 0)])).length) Slot.unset).toArray = ls at hl ⊢
  have hl : lv_has ls 1 [(0, .ref (a 0))] := hl
  refine lv_aload_n hx hb dX8_fault_0 rfl (lv_at hl 0 rfl) ?_
  refine va_get (D := D) (ci := 8) (v := .int fp) (C := RX8) (T := TX8) (N := 44) hx hb hts inX8 hown hK hP 0 rfl rfl 6 (by decide) (hts _ tw_979) (fun _ h9 => h9) rfl dX8_fault_1 ?_
  exact W.iret (v := fp) hx hb hr (fun t ht hW => ⟨⟨fp, (), rfl, rfl, trivial⟩, hS.F ht⟩) hS.2.2 dX8_fault_4


set_option maxHeartbeats 4000000 in
set_option maxRecDepth 100000 in
theorem y_isStreet (l : Launch) (D : va_G) (k : Nat → ClassId) (st : Nat → Nat) (lo : Nat) (a : Nat → Nat) (rk : Nat) (lfa : Int32) (n0 : Nat) (see0 : Nat) (tm0 : Nat) (g0 : Nat → Int32) (n1 : Nat) (see1 : Nat) (tm1 : Nat) (g1 : Nat → Int32) (n2 : Nat) (see2 : Nat) (tm2 : Nat) (g2 : Nat → Int32) (pz : Int32) (hn0 : n0 ≤ 24) (hn1 : n1 ≤ 24) (hn2 : n2 ≤ 24) : CRi l D k st lo yX7_isStreet cX7_isStreet 2 (some .boolean) ({ frames := 1, cells := 0, slots := 0, locals := 20 }) [.ref (a 0), .int pz] [((a 0), .inr (7, (fX7 (a 1) (a 3) (a 19) (a 35) (a 40) (nI rk) lfa (a 53) (a 56) (a 63) (a 64) (a 68)))), ((a 3), .inl (k 3, 3, .inr (.inr (.inr (.inr (a3 (a 4) (a 9) (a 14))))))), ((a 4), .inr (5, (fX5 (a 5) (a 6) (a 7) (a 8)))), (aI k (a 5) 10 (vv n0 see0 tm0 g0)), ((a 9), .inr (5, (fX5 (a 10) (a 11) (a 12) (a 13)))), (aI k (a 10) 10 (vv n1 see1 tm1 g1)), ((a 14), .inr (5, (fX5 (a 15) (a 16) (a 17) (a 18)))), (aI k (a 15) 10 (vv n2 see2 tm2 g2))] (fun r => (r = 1 ∧ ((pz = 0 ∧ 0 < n0) ∨ (pz = 1 ∧ 0 < n1) ∨ (pz = 2 ∧ 0 < n2))) ∨ (r = 0 ∧ ∀ s, s < 3 → pz = nI s → ¬ 0 < d3 n0 n1 n2 s)) := by
  intro sz
  refine Met.ofW (cc := cX7_isStreet) (maxL := 2) (ret := (some .boolean)) (by decide) rfl ?_
  intro p e s m args below meth c s₁ B hml hv
  obtain ⟨rfl, hsz, hlo, hP, hK, hDL, hZ⟩ := hv
  have hx := B.exec
  have hb := B.bytes
  have hr := B.returns
  have hts := WS_ts B.pre
  have hown : s.vm.findClass RX7 = some m.cls := findClass_of_methodNamed B.named
  have hlocks := B.notSynchronized
  subst hsz
  have hA : ∀ q : Nat, s.heap.size ≤ q → (fun q : Nat => s.heap.size ≤ q) q := fun _ h => h
  have hAlo : ∀ q : Nat, (fun q : Nat => s.heap.size ≤ q) q → lo ≤ q := fun q h => Nat.le_trans hlo h
  have hS : va_S (fun q : Nat => s.heap.size ≤ q) s.heap s.heap [] := va_S.rf
  have hl := lv_entry ([.ref (a 0), .int pz]) (n := 2) (Nat.le_of_ble_eq_true rfl)
  rw [lg_entry_eq]
  generalize (lg_sl ([.ref (a 0), .int pz]) ++ List.replicate (2 - (lg_sl ([.ref (a 0), .int pz])).length) Slot.unset).toArray = ls at hl ⊢
  have hl : lv_has ls 2 [(0, .ref (a 0)), (1, .int pz)] := hl
  refine lv_iload_n hx hb dX7_isStreet_0 rfl (lv_at hl 1 rfl) ?_
  refine lv_if_lt (tgt := 25) hx hb dX7_isStreet_1 (by decide) (fun c_1 => ?_) (fun c_1 => ?_)
  · refine lv_iconst (v := 0) hx hb dX7_isStreet_25 (by decide) ?_
    exact W.zret (v := 0) (ty := .boolean) hx hb hr rfl (fun t ht hW => ⟨⟨0, (), rfl, .inr ⟨rfl, fun s h1 h2 _ => absurd c_1 (by rw [h2]; exact Int32.not_lt.mpr (nI_ge0 (by omega)))⟩, trivial⟩, hS.F ht⟩) hS.2.2 dX7_isStreet_26
  · refine lv_iload_n hx hb dX7_isStreet_4 rfl (lv_at hl 1 rfl) ?_
    refine lv_iconst (v := 3) hx hb dX7_isStreet_5 (by decide) ?_
    refine lv_icmp_ge (tgt := 25) hx hb dX7_isStreet_6 (by decide) (fun c_2 => ?_) (fun c_2 => ?_)
    · refine lv_iconst (v := 0) hx hb dX7_isStreet_25 (by decide) ?_
      exact W.zret (v := 0) (ty := .boolean) hx hb hr rfl (fun t ht hW => ⟨⟨0, (), rfl, .inr ⟨rfl, fun s h1 h2 _ => absurd c_2 (by rw [h2]; exact nge3 h1)⟩, trivial⟩, hS.F ht⟩) hS.2.2 dX7_isStreet_26
    · rcases xspl3 c_1 c_2 with rfl | rfl | rfl
      · refine lv_aload_n hx hb dX7_isStreet_9 rfl (lv_at hl 0 rfl) ?_
        refine va_get (D := D) (ci := 7) (v := .ref (a 3)) (C := RX7) (T := TX7) (N := 12) hx hb hts inX7 hown hK hP 0 rfl rfl 1 (by decide) (hts _ tw_306) (fun _ h9 => h9) rfl dX7_isStreet_10 ?_
        refine lv_iload_n hx hb dX7_isStreet_13 rfl (lv_at hl 1 rfl) ?_
        refine va_aldq hx hb hK hP 1 3 rfl rfl (by unfold vp_in; decide) dX7_isStreet_14 ?_
        refine lv_tr (y := .ref (a 4)) rfl ?_
        refine ro_i (D := D) (va_runV (As := []) (rest := []) ⟨hx, hb, hml, hown, hts⟩ ((x_doors l D k st lo (a 4) (a 5) (a 6) (a 7) (a 8) n0 see0 tm0 g0) s.heap.size) (cwV 0 hts (gV tw_580 tw_478 tw_479 tw_81 tw_480) rfl rfl rfl (by decide +kernel) ⟨Nat.le_of_ble_eq_true rfl, Nat.le_of_ble_eq_true rfl⟩) (pV hS hAlo hlo hP hK hDL hZ [2, 3] (by decide) rfl (ci := 5) (q := (RX5, TX5, 4)) (q0 := 0) rfl rfl) rfl rfl hl.1 rfl (lv_room (Nat.le_of_ble_eq_true rfl)) dX7_isStreet_15 ⟨Nat.le_of_ble_eq_true rfl, Nat.le_of_ble_eq_true rfl⟩) hS hA hP (fun r_3 H locs hw_3 hP hS => ?_)
        try dsimp only at hw_3
        subst hw_3
        refine lv_if_le (tgt := 25) hx hb dX7_isStreet_18 (by decide) (fun c_4 => ?_) (fun c_4 => ?_)
        · have c_4 := (nI_leI (a := n0) (b := 0) (by omega) (by omega)).mp c_4
          refine lv_iconst (v := 0) hx hb dX7_isStreet_25 (by decide) ?_
          exact W.zret (v := 0) (ty := .boolean) hx hb hr rfl (fun t ht hW => ⟨⟨0, (), rfl, .inr ⟨rfl, fun s h1 h2 h3 => by have h9 : 0 = s := nI_inj (by omega) (by omega) (show nI 0 = nI s from h2); subst h9; exact absurd h3 (show ¬ 0 < n0 by omega)⟩, trivial⟩, hS.F ht⟩) hS.2.2 dX7_isStreet_26
        · have c_4 : ¬ (n0 ≤ 0) := fun h => c_4 ((nI_leI (a := n0) (b := 0) (by omega) (by omega)).mpr h)
          refine lv_iconst (v := 1) hx hb dX7_isStreet_21 (by decide) ?_
          refine lv_goto (tgt := 26) hx hb dX7_isStreet_22 (by decide) ?_
          exact W.zret (v := 1) (ty := .boolean) hx hb hr rfl (fun t ht hW => ⟨⟨1, (), rfl, .inl ⟨rfl, .inl ⟨rfl, by omega⟩⟩, trivial⟩, hS.F ht⟩) hS.2.2 dX7_isStreet_26
      · refine lv_aload_n hx hb dX7_isStreet_9 rfl (lv_at hl 0 rfl) ?_
        refine va_get (D := D) (ci := 7) (v := .ref (a 3)) (C := RX7) (T := TX7) (N := 12) hx hb hts inX7 hown hK hP 0 rfl rfl 1 (by decide) (hts _ tw_306) (fun _ h9 => h9) rfl dX7_isStreet_10 ?_
        refine lv_iload_n hx hb dX7_isStreet_13 rfl (lv_at hl 1 rfl) ?_
        refine va_aldq hx hb hK hP 1 3 rfl rfl (by unfold vp_in; decide) dX7_isStreet_14 ?_
        refine lv_tr (y := .ref (a 9)) rfl ?_
        refine ro_i (D := D) (va_runV (As := []) (rest := []) ⟨hx, hb, hml, hown, hts⟩ ((x_doors l D k st lo (a 9) (a 10) (a 11) (a 12) (a 13) n1 see1 tm1 g1) s.heap.size) (cwV 0 hts (gV tw_580 tw_478 tw_479 tw_81 tw_480) rfl rfl rfl (by decide +kernel) ⟨Nat.le_of_ble_eq_true rfl, Nat.le_of_ble_eq_true rfl⟩) (pV hS hAlo hlo hP hK hDL hZ [4, 5] (by decide) rfl (ci := 5) (q := (RX5, TX5, 4)) (q0 := 0) rfl rfl) rfl rfl hl.1 rfl (lv_room (Nat.le_of_ble_eq_true rfl)) dX7_isStreet_15 ⟨Nat.le_of_ble_eq_true rfl, Nat.le_of_ble_eq_true rfl⟩) hS hA hP (fun r_5 H locs hw_5 hP hS => ?_)
        try dsimp only at hw_5
        subst hw_5
        refine lv_if_le (tgt := 25) hx hb dX7_isStreet_18 (by decide) (fun c_6 => ?_) (fun c_6 => ?_)
        · have c_6 := (nI_leI (a := n1) (b := 0) (by omega) (by omega)).mp c_6
          refine lv_iconst (v := 0) hx hb dX7_isStreet_25 (by decide) ?_
          exact W.zret (v := 0) (ty := .boolean) hx hb hr rfl (fun t ht hW => ⟨⟨0, (), rfl, .inr ⟨rfl, fun s h1 h2 h3 => by have h9 : 1 = s := nI_inj (by omega) (by omega) (show nI 1 = nI s from h2); subst h9; exact absurd h3 (show ¬ 0 < n1 by omega)⟩, trivial⟩, hS.F ht⟩) hS.2.2 dX7_isStreet_26
        · have c_6 : ¬ (n1 ≤ 0) := fun h => c_6 ((nI_leI (a := n1) (b := 0) (by omega) (by omega)).mpr h)
          refine lv_iconst (v := 1) hx hb dX7_isStreet_21 (by decide) ?_
          refine lv_goto (tgt := 26) hx hb dX7_isStreet_22 (by decide) ?_
          exact W.zret (v := 1) (ty := .boolean) hx hb hr rfl (fun t ht hW => ⟨⟨1, (), rfl, .inl ⟨rfl, .inr (.inl ⟨rfl, by omega⟩)⟩, trivial⟩, hS.F ht⟩) hS.2.2 dX7_isStreet_26
      · refine lv_aload_n hx hb dX7_isStreet_9 rfl (lv_at hl 0 rfl) ?_
        refine va_get (D := D) (ci := 7) (v := .ref (a 3)) (C := RX7) (T := TX7) (N := 12) hx hb hts inX7 hown hK hP 0 rfl rfl 1 (by decide) (hts _ tw_306) (fun _ h9 => h9) rfl dX7_isStreet_10 ?_
        refine lv_iload_n hx hb dX7_isStreet_13 rfl (lv_at hl 1 rfl) ?_
        refine va_aldq hx hb hK hP 1 3 rfl rfl (by unfold vp_in; decide) dX7_isStreet_14 ?_
        refine lv_tr (y := .ref (a 14)) rfl ?_
        refine ro_i (D := D) (va_runV (As := []) (rest := []) ⟨hx, hb, hml, hown, hts⟩ ((x_doors l D k st lo (a 14) (a 15) (a 16) (a 17) (a 18) n2 see2 tm2 g2) s.heap.size) (cwV 0 hts (gV tw_580 tw_478 tw_479 tw_81 tw_480) rfl rfl rfl (by decide +kernel) ⟨Nat.le_of_ble_eq_true rfl, Nat.le_of_ble_eq_true rfl⟩) (pV hS hAlo hlo hP hK hDL hZ [6, 7] (by decide) rfl (ci := 5) (q := (RX5, TX5, 4)) (q0 := 0) rfl rfl) rfl rfl hl.1 rfl (lv_room (Nat.le_of_ble_eq_true rfl)) dX7_isStreet_15 ⟨Nat.le_of_ble_eq_true rfl, Nat.le_of_ble_eq_true rfl⟩) hS hA hP (fun r_7 H locs hw_7 hP hS => ?_)
        try dsimp only at hw_7
        subst hw_7
        refine lv_if_le (tgt := 25) hx hb dX7_isStreet_18 (by decide) (fun c_8 => ?_) (fun c_8 => ?_)
        · have c_8 := (nI_leI (a := n2) (b := 0) (by omega) (by omega)).mp c_8
          refine lv_iconst (v := 0) hx hb dX7_isStreet_25 (by decide) ?_
          exact W.zret (v := 0) (ty := .boolean) hx hb hr rfl (fun t ht hW => ⟨⟨0, (), rfl, .inr ⟨rfl, fun s h1 h2 h3 => by have h9 : 2 = s := nI_inj (by omega) (by omega) (show nI 2 = nI s from h2); subst h9; exact absurd h3 (show ¬ 0 < n2 by omega)⟩, trivial⟩, hS.F ht⟩) hS.2.2 dX7_isStreet_26
        · have c_8 : ¬ (n2 ≤ 0) := fun h => c_8 ((nI_leI (a := n2) (b := 0) (by omega) (by omega)).mpr h)
          refine lv_iconst (v := 1) hx hb dX7_isStreet_21 (by decide) ?_
          refine lv_goto (tgt := 26) hx hb dX7_isStreet_22 (by decide) ?_
          exact W.zret (v := 1) (ty := .boolean) hx hb hr rfl (fun t ht hW => ⟨⟨1, (), rfl, .inl ⟨rfl, .inr (.inr ⟨rfl, by omega⟩)⟩, trivial⟩, hS.F ht⟩) hS.2.2 dX7_isStreet_26


set_option maxHeartbeats 4000000 in
set_option maxRecDepth 100000 in
theorem y_isDoor (l : Launch) (D : va_G) (k : Nat → ClassId) (st : Nat → Nat) (lo : Nat) (a : Nat → Nat) (rk : Nat) (lfa : Int32) (n0 : Nat) (see0 : Nat) (tm0 : Nat) (g0 : Nat → Int32) (n1 : Nat) (see1 : Nat) (tm1 : Nat) (g1 : Nat → Int32) (n2 : Nat) (see2 : Nat) (tm2 : Nat) (g2 : Nat → Int32) (pz : Int32) (p1 : Int32) (hn0 : n0 ≤ 24) (hn1 : n1 ≤ 24) (hn2 : n2 ≤ 24) : CRi l D k st lo yX7_isDoor cX7_isDoor 3 (some .boolean) ({ frames := 2, cells := 0, slots := 0, locals := 41 }) [.ref (a 0), .int pz, .int p1] [((a 0), .inr (7, (fX7 (a 1) (a 3) (a 19) (a 35) (a 40) (nI rk) lfa (a 53) (a 56) (a 63) (a 64) (a 68)))), ((a 3), .inl (k 3, 3, .inr (.inr (.inr (.inr (a3 (a 4) (a 9) (a 14))))))), ((a 4), .inr (5, (fX5 (a 5) (a 6) (a 7) (a 8)))), (aI k (a 5) 10 (vv n0 see0 tm0 g0)), ((a 9), .inr (5, (fX5 (a 10) (a 11) (a 12) (a 13)))), (aI k (a 10) 10 (vv n1 see1 tm1 g1)), ((a 14), .inr (5, (fX5 (a 15) (a 16) (a 17) (a 18)))), (aI k (a 15) 10 (vv n2 see2 tm2 g2))] (fun r => (r = 1 ∧ ((pz = 0 ∧ ∃ i : Nat, i < n0 ∧ p1 = nI i) ∨ (pz = 1 ∧ ∃ i : Nat, i < n1 ∧ p1 = nI i) ∨ (pz = 2 ∧ ∃ i : Nat, i < n2 ∧ p1 = nI i))) ∨ (r = 0 ∧ ∀ s, s < 3 → pz = nI s → ∀ i, p1 = nI i → ¬ i < d3 n0 n1 n2 s)) := by
  intro sz
  refine Met.ofW (cc := cX7_isDoor) (maxL := 3) (ret := (some .boolean)) (by decide) rfl ?_
  intro p e s m args below meth c s₁ B hml hv
  obtain ⟨rfl, hsz, hlo, hP, hK, hDL, hZ⟩ := hv
  have hx := B.exec
  have hb := B.bytes
  have hr := B.returns
  have hts := WS_ts B.pre
  have hown : s.vm.findClass RX7 = some m.cls := findClass_of_methodNamed B.named
  have hlocks := B.notSynchronized
  subst hsz
  have hA : ∀ q : Nat, s.heap.size ≤ q → (fun q : Nat => s.heap.size ≤ q) q := fun _ h => h
  have hAlo : ∀ q : Nat, (fun q : Nat => s.heap.size ≤ q) q → lo ≤ q := fun q h => Nat.le_trans hlo h
  have hS : va_S (fun q : Nat => s.heap.size ≤ q) s.heap s.heap [] := va_S.rf
  have hl := lv_entry ([.ref (a 0), .int pz, .int p1]) (n := 3) (Nat.le_of_ble_eq_true rfl)
  rw [lg_entry_eq]
  generalize (lg_sl ([.ref (a 0), .int pz, .int p1]) ++ List.replicate (3 - (lg_sl ([.ref (a 0), .int pz, .int p1])).length) Slot.unset).toArray = ls at hl ⊢
  have hl : lv_has ls 3 [(0, .ref (a 0)), (1, .int pz), (2, .int p1)] := hl
  refine lv_aload_n hx hb dX7_isDoor_0 rfl (lv_at hl 0 rfl) ?_
  refine lv_iload_n hx hb dX7_isDoor_1 rfl (lv_at hl 1 rfl) ?_
  refine ro_i (D := D) (va_runV (As := [.int pz]) (rest := []) ⟨hx, hb, hml, hown, hts⟩ ((y_isStreet l D k st lo a rk lfa n0 see0 tm0 g0 n1 see1 tm1 g1 n2 see2 tm2 g2 pz (by first | assumption | omega) (by first | assumption | omega) (by first | assumption | omega)) s.heap.size) (cwV 1 hts (gV tw_589 tw_591 tw_8 tw_79 tw_592) rfl rfl rfl (by decide +kernel) ⟨Nat.le_of_ble_eq_true rfl, Nat.le_of_ble_eq_true rfl⟩) (pV hS hAlo hlo hP hK hDL hZ [0, 1, 2, 3, 4, 5, 6, 7] (by decide) rfl (ci := 7) (q := (RX7, TX7, 12)) (q0 := 0) rfl rfl) rfl rfl hl.1 rfl (lv_room (Nat.le_of_ble_eq_true rfl)) dX7_isDoor_2 ⟨Nat.le_of_ble_eq_true rfl, Nat.le_of_ble_eq_true rfl⟩) hS hA hP (fun r_1 H locs hw_1 hP hS => ?_)
  try dsimp only at hw_1
  rcases hw_1 with ⟨rfl, ⟨rfl, hw_1⟩ | ⟨rfl, hw_1⟩ | ⟨rfl, hw_1⟩⟩ | ⟨rfl, hw_1⟩
  · refine lv_if_eq (tgt := 29) hx hb dX7_isDoor_5 (by decide) (fun h => absurd h (by decide)) (fun _ => ?_)
    refine lv_iload_n hx hb dX7_isDoor_8 rfl (lv_at hl 2 rfl) ?_
    refine lv_if_lt (tgt := 29) hx hb dX7_isDoor_9 (by decide) (fun c_2 => ?_) (fun c_2 => ?_)
    · refine lv_iconst (v := 0) hx hb dX7_isDoor_29 (by decide) ?_
      exact W.zret (v := 0) (ty := .boolean) hx hb hr rfl (fun t ht hW => ⟨⟨0, (), rfl, .inr ⟨rfl, fun s h1 h2 i h3 h4 => by have h9 : 0 = s := nI_inj (by omega) (by omega) (show nI 0 = nI s from h2); subst h9; replace h4 : i < n0 := h4; exact absurd c_2 (by rw [h3]; exact Int32.not_lt.mpr (nI_ge0 (by omega)))⟩, trivial⟩, hS.F ht⟩) hS.2.2 dX7_isDoor_30
    · obtain ⟨i_9, hi_9, rfl⟩ := nI_of c_2
      refine lv_iload_n hx hb dX7_isDoor_12 rfl (lv_at hl 2 rfl) ?_
      refine lv_aload_n hx hb dX7_isDoor_13 rfl (lv_at hl 0 rfl) ?_
      refine va_get (D := D) (ci := 7) (v := .ref (a 3)) (C := RX7) (T := TX7) (N := 12) hx hb hts inX7 hown hK hP 0 rfl rfl 1 (by decide) (hts _ tw_306) (fun _ h9 => h9) rfl dX7_isDoor_14 ?_
      refine lv_iload_n hx hb dX7_isDoor_17 rfl (lv_at hl 1 rfl) ?_
      refine va_aldq hx hb hK hP 1 3 rfl rfl (by unfold vp_in; decide) dX7_isDoor_18 ?_
      refine lv_tr (y := .ref (a 4)) rfl ?_
      refine ro_i (D := D) (va_runV (As := []) (rest := [.int (nI i_9)]) ⟨hx, hb, hml, hown, hts⟩ ((x_doors l D k st lo (a 4) (a 5) (a 6) (a 7) (a 8) n0 see0 tm0 g0) H.size) (cwV 0 hts (gV tw_580 tw_478 tw_479 tw_81 tw_480) rfl rfl rfl (by decide +kernel) ⟨Nat.le_of_ble_eq_true rfl, Nat.le_of_ble_eq_true rfl⟩) (pV hS hAlo hlo hP hK hDL hZ [2, 3] (by decide) rfl (ci := 5) (q := (RX5, TX5, 4)) (q0 := 0) rfl rfl) rfl rfl hl.1 rfl (lv_room (Nat.le_of_ble_eq_true rfl)) dX7_isDoor_19 ⟨Nat.le_of_ble_eq_true rfl, Nat.le_of_ble_eq_true rfl⟩) hS hA hP (fun r_3 H locs hw_3 hP hS => ?_)
      try dsimp only at hw_3
      subst hw_3
      refine lv_icmp_ge (tgt := 29) hx hb dX7_isDoor_22 (by decide) (fun c_4 => ?_) (fun c_4 => ?_)
      · have c_4 := (nI_leI (a := n0) (b := i_9) (by omega) (by omega)).mp c_4
        refine lv_iconst (v := 0) hx hb dX7_isDoor_29 (by decide) ?_
        exact W.zret (v := 0) (ty := .boolean) hx hb hr rfl (fun t ht hW => ⟨⟨0, (), rfl, .inr ⟨rfl, fun s h1 h2 i h3 h4 => by have h9 : 0 = s := nI_inj (by omega) (by omega) (show nI 0 = nI s from h2); subst h9; replace h4 : i < n0 := h4; have h8 := nI_inj (by omega) (by omega) h3; omega⟩, trivial⟩, hS.F ht⟩) hS.2.2 dX7_isDoor_30
      · have c_4 : ¬ (n0 ≤ i_9) := fun h => c_4 ((nI_leI (a := n0) (b := i_9) (by omega) (by omega)).mpr h)
        refine lv_iconst (v := 1) hx hb dX7_isDoor_25 (by decide) ?_
        refine lv_goto (tgt := 30) hx hb dX7_isDoor_26 (by decide) ?_
        exact W.zret (v := 1) (ty := .boolean) hx hb hr rfl (fun t ht hW => ⟨⟨1, (), rfl, .inl ⟨rfl, .inl ⟨rfl, i_9, by omega, rfl⟩⟩, trivial⟩, hS.F ht⟩) hS.2.2 dX7_isDoor_30
  · refine lv_if_eq (tgt := 29) hx hb dX7_isDoor_5 (by decide) (fun h => absurd h (by decide)) (fun _ => ?_)
    refine lv_iload_n hx hb dX7_isDoor_8 rfl (lv_at hl 2 rfl) ?_
    refine lv_if_lt (tgt := 29) hx hb dX7_isDoor_9 (by decide) (fun c_5 => ?_) (fun c_5 => ?_)
    · refine lv_iconst (v := 0) hx hb dX7_isDoor_29 (by decide) ?_
      exact W.zret (v := 0) (ty := .boolean) hx hb hr rfl (fun t ht hW => ⟨⟨0, (), rfl, .inr ⟨rfl, fun s h1 h2 i h3 h4 => by have h9 : 1 = s := nI_inj (by omega) (by omega) (show nI 1 = nI s from h2); subst h9; replace h4 : i < n1 := h4; exact absurd c_5 (by rw [h3]; exact Int32.not_lt.mpr (nI_ge0 (by omega)))⟩, trivial⟩, hS.F ht⟩) hS.2.2 dX7_isDoor_30
    · obtain ⟨i_9, hi_9, rfl⟩ := nI_of c_5
      refine lv_iload_n hx hb dX7_isDoor_12 rfl (lv_at hl 2 rfl) ?_
      refine lv_aload_n hx hb dX7_isDoor_13 rfl (lv_at hl 0 rfl) ?_
      refine va_get (D := D) (ci := 7) (v := .ref (a 3)) (C := RX7) (T := TX7) (N := 12) hx hb hts inX7 hown hK hP 0 rfl rfl 1 (by decide) (hts _ tw_306) (fun _ h9 => h9) rfl dX7_isDoor_14 ?_
      refine lv_iload_n hx hb dX7_isDoor_17 rfl (lv_at hl 1 rfl) ?_
      refine va_aldq hx hb hK hP 1 3 rfl rfl (by unfold vp_in; decide) dX7_isDoor_18 ?_
      refine lv_tr (y := .ref (a 9)) rfl ?_
      refine ro_i (D := D) (va_runV (As := []) (rest := [.int (nI i_9)]) ⟨hx, hb, hml, hown, hts⟩ ((x_doors l D k st lo (a 9) (a 10) (a 11) (a 12) (a 13) n1 see1 tm1 g1) H.size) (cwV 0 hts (gV tw_580 tw_478 tw_479 tw_81 tw_480) rfl rfl rfl (by decide +kernel) ⟨Nat.le_of_ble_eq_true rfl, Nat.le_of_ble_eq_true rfl⟩) (pV hS hAlo hlo hP hK hDL hZ [4, 5] (by decide) rfl (ci := 5) (q := (RX5, TX5, 4)) (q0 := 0) rfl rfl) rfl rfl hl.1 rfl (lv_room (Nat.le_of_ble_eq_true rfl)) dX7_isDoor_19 ⟨Nat.le_of_ble_eq_true rfl, Nat.le_of_ble_eq_true rfl⟩) hS hA hP (fun r_6 H locs hw_6 hP hS => ?_)
      try dsimp only at hw_6
      subst hw_6
      refine lv_icmp_ge (tgt := 29) hx hb dX7_isDoor_22 (by decide) (fun c_7 => ?_) (fun c_7 => ?_)
      · have c_7 := (nI_leI (a := n1) (b := i_9) (by omega) (by omega)).mp c_7
        refine lv_iconst (v := 0) hx hb dX7_isDoor_29 (by decide) ?_
        exact W.zret (v := 0) (ty := .boolean) hx hb hr rfl (fun t ht hW => ⟨⟨0, (), rfl, .inr ⟨rfl, fun s h1 h2 i h3 h4 => by have h9 : 1 = s := nI_inj (by omega) (by omega) (show nI 1 = nI s from h2); subst h9; replace h4 : i < n1 := h4; have h8 := nI_inj (by omega) (by omega) h3; omega⟩, trivial⟩, hS.F ht⟩) hS.2.2 dX7_isDoor_30
      · have c_7 : ¬ (n1 ≤ i_9) := fun h => c_7 ((nI_leI (a := n1) (b := i_9) (by omega) (by omega)).mpr h)
        refine lv_iconst (v := 1) hx hb dX7_isDoor_25 (by decide) ?_
        refine lv_goto (tgt := 30) hx hb dX7_isDoor_26 (by decide) ?_
        exact W.zret (v := 1) (ty := .boolean) hx hb hr rfl (fun t ht hW => ⟨⟨1, (), rfl, .inl ⟨rfl, .inr (.inl ⟨rfl, i_9, by omega, rfl⟩)⟩, trivial⟩, hS.F ht⟩) hS.2.2 dX7_isDoor_30
  · refine lv_if_eq (tgt := 29) hx hb dX7_isDoor_5 (by decide) (fun h => absurd h (by decide)) (fun _ => ?_)
    refine lv_iload_n hx hb dX7_isDoor_8 rfl (lv_at hl 2 rfl) ?_
    refine lv_if_lt (tgt := 29) hx hb dX7_isDoor_9 (by decide) (fun c_8 => ?_) (fun c_8 => ?_)
    · refine lv_iconst (v := 0) hx hb dX7_isDoor_29 (by decide) ?_
      exact W.zret (v := 0) (ty := .boolean) hx hb hr rfl (fun t ht hW => ⟨⟨0, (), rfl, .inr ⟨rfl, fun s h1 h2 i h3 h4 => by have h9 : 2 = s := nI_inj (by omega) (by omega) (show nI 2 = nI s from h2); subst h9; replace h4 : i < n2 := h4; exact absurd c_8 (by rw [h3]; exact Int32.not_lt.mpr (nI_ge0 (by omega)))⟩, trivial⟩, hS.F ht⟩) hS.2.2 dX7_isDoor_30
    · obtain ⟨i_9, hi_9, rfl⟩ := nI_of c_8
      refine lv_iload_n hx hb dX7_isDoor_12 rfl (lv_at hl 2 rfl) ?_
      refine lv_aload_n hx hb dX7_isDoor_13 rfl (lv_at hl 0 rfl) ?_
      refine va_get (D := D) (ci := 7) (v := .ref (a 3)) (C := RX7) (T := TX7) (N := 12) hx hb hts inX7 hown hK hP 0 rfl rfl 1 (by decide) (hts _ tw_306) (fun _ h9 => h9) rfl dX7_isDoor_14 ?_
      refine lv_iload_n hx hb dX7_isDoor_17 rfl (lv_at hl 1 rfl) ?_
      refine va_aldq hx hb hK hP 1 3 rfl rfl (by unfold vp_in; decide) dX7_isDoor_18 ?_
      refine lv_tr (y := .ref (a 14)) rfl ?_
      refine ro_i (D := D) (va_runV (As := []) (rest := [.int (nI i_9)]) ⟨hx, hb, hml, hown, hts⟩ ((x_doors l D k st lo (a 14) (a 15) (a 16) (a 17) (a 18) n2 see2 tm2 g2) H.size) (cwV 0 hts (gV tw_580 tw_478 tw_479 tw_81 tw_480) rfl rfl rfl (by decide +kernel) ⟨Nat.le_of_ble_eq_true rfl, Nat.le_of_ble_eq_true rfl⟩) (pV hS hAlo hlo hP hK hDL hZ [6, 7] (by decide) rfl (ci := 5) (q := (RX5, TX5, 4)) (q0 := 0) rfl rfl) rfl rfl hl.1 rfl (lv_room (Nat.le_of_ble_eq_true rfl)) dX7_isDoor_19 ⟨Nat.le_of_ble_eq_true rfl, Nat.le_of_ble_eq_true rfl⟩) hS hA hP (fun r_9 H locs hw_9 hP hS => ?_)
      try dsimp only at hw_9
      subst hw_9
      refine lv_icmp_ge (tgt := 29) hx hb dX7_isDoor_22 (by decide) (fun c_10 => ?_) (fun c_10 => ?_)
      · have c_10 := (nI_leI (a := n2) (b := i_9) (by omega) (by omega)).mp c_10
        refine lv_iconst (v := 0) hx hb dX7_isDoor_29 (by decide) ?_
        exact W.zret (v := 0) (ty := .boolean) hx hb hr rfl (fun t ht hW => ⟨⟨0, (), rfl, .inr ⟨rfl, fun s h1 h2 i h3 h4 => by have h9 : 2 = s := nI_inj (by omega) (by omega) (show nI 2 = nI s from h2); subst h9; replace h4 : i < n2 := h4; have h8 := nI_inj (by omega) (by omega) h3; omega⟩, trivial⟩, hS.F ht⟩) hS.2.2 dX7_isDoor_30
      · have c_10 : ¬ (n2 ≤ i_9) := fun h => c_10 ((nI_leI (a := n2) (b := i_9) (by omega) (by omega)).mpr h)
        refine lv_iconst (v := 1) hx hb dX7_isDoor_25 (by decide) ?_
        refine lv_goto (tgt := 30) hx hb dX7_isDoor_26 (by decide) ?_
        exact W.zret (v := 1) (ty := .boolean) hx hb hr rfl (fun t ht hW => ⟨⟨1, (), rfl, .inl ⟨rfl, .inr (.inr ⟨rfl, i_9, by omega, rfl⟩)⟩, trivial⟩, hS.F ht⟩) hS.2.2 dX7_isDoor_30
  · refine lv_if_eq (tgt := 29) hx hb dX7_isDoor_5 (by decide) (fun _ => ?_) (fun h => absurd (by decide) h)
    refine lv_iconst (v := 0) hx hb dX7_isDoor_29 (by decide) ?_
    exact W.zret (v := 0) (ty := .boolean) hx hb hr rfl (fun t ht hW => ⟨⟨0, (), rfl, .inr ⟨rfl, fun s h1 h2 i _ h4 => hw_1 s h1 h2 (by omega)⟩, trivial⟩, hS.F ht⟩) hS.2.2 dX7_isDoor_30


set_option maxHeartbeats 4000000 in
set_option maxRecDepth 100000 in
theorem y_told (l : Launch) (D : va_G) (k : Nat → ClassId) (st : Nat → Nat) (lo : Nat) (a : Nat → Nat) (rk : Nat) (lfa : Int32) (n0 : Nat) (see0 : Nat) (tm0 : Nat) (g0 : Nat → Int32) (ff0 : Nat → Int32) (fp0 : Nat → Int32) (n1 : Nat) (see1 : Nat) (tm1 : Nat) (g1 : Nat → Int32) (ff1 : Nat → Int32) (fp1 : Nat → Int32) (n2 : Nat) (see2 : Nat) (tm2 : Nat) (g2 : Nat → Int32) (ff2 : Nat → Int32) (fp2 : Nat → Int32) (p0 : Int32) (p1 : Int32) (hn0 : n0 ≤ 24) (hse0 : see0 ≤ 2) (htm0 : tm0 ≤ 3) (hn1 : n1 ≤ 24) (hse1 : see1 ≤ 2) (htm1 : tm1 ≤ 3) (hn2 : n2 ≤ 24) (hse2 : see2 ≤ 2) (htm2 : tm2 ≤ 3) : CRi l D k st lo yX7_told cX7_told 3 (some .int) ({ frames := 2, cells := 0, slots := 0, locals := 41 }) [.ref (a 0), .int p0, .int p1] [((a 0), .inr (7, (fX7 (a 1) (a 3) (a 19) (a 35) (a 40) (nI rk) lfa (a 53) (a 56) (a 63) (a 64) (a 68)))), ((a 3), .inl (k 3, 3, .inr (.inr (.inr (.inr (a3 (a 4) (a 9) (a 14))))))), ((a 4), .inr (5, (fX5 (a 5) (a 6) (a 7) (a 8)))), (aI k (a 5) 10 (vv n0 see0 tm0 g0)), (aI k (a 6) 24 ff0), (aI k (a 7) 24 fp0), ((a 9), .inr (5, (fX5 (a 10) (a 11) (a 12) (a 13)))), (aI k (a 10) 10 (vv n1 see1 tm1 g1)), (aI k (a 11) 24 ff1), (aI k (a 12) 24 fp1), ((a 14), .inr (5, (fX5 (a 15) (a 16) (a 17) (a 18)))), (aI k (a 15) 10 (vv n2 see2 tm2 g2)), (aI k (a 16) 24 ff2), (aI k (a 17) 24 fp2)] (fun r => toP (d3 (sdX n0 see0 tm0 g0 ff0 fp0) (sdX n1 see1 tm1 g1 ff1 fp1) (sdX n2 see2 tm2 g2 ff2 fp2)) p0 p1 r) := by
  intro sz
  refine Met.ofW (cc := cX7_told) (maxL := 3) (ret := (some .int)) (by decide) rfl ?_
  intro p e s m args below meth c s₁ B hml hv
  obtain ⟨rfl, hsz, hlo, hP, hK, hDL, hZ⟩ := hv
  have hx := B.exec
  have hb := B.bytes
  have hr := B.returns
  have hts := WS_ts B.pre
  have hown : s.vm.findClass RX7 = some m.cls := findClass_of_methodNamed B.named
  have hlocks := B.notSynchronized
  subst hsz
  have hA : ∀ q : Nat, s.heap.size ≤ q → (fun q : Nat => s.heap.size ≤ q) q := fun _ h => h
  have hAlo : ∀ q : Nat, (fun q : Nat => s.heap.size ≤ q) q → lo ≤ q := fun q h => Nat.le_trans hlo h
  have hS : va_S (fun q : Nat => s.heap.size ≤ q) s.heap s.heap [] := va_S.rf
  have hl := lv_entry ([.ref (a 0), .int p0, .int p1]) (n := 3) (Nat.le_of_ble_eq_true rfl)
  rw [lg_entry_eq]
  generalize (lg_sl ([.ref (a 0), .int p0, .int p1]) ++ List.replicate (3 - (lg_sl ([.ref (a 0), .int p0, .int p1])).length) Slot.unset).toArray = ls at hl ⊢
  have hl : lv_has ls 3 [(0, .ref (a 0)), (1, .int p0), (2, .int p1)] := hl
  refine lv_aload_n hx hb dX7_told_0 rfl (lv_at hl 0 rfl) ?_
  refine lv_iload_n hx hb dX7_told_1 rfl (lv_at hl 1 rfl) ?_
  refine ro_i (D := D) (va_runV (As := [.int p0]) (rest := []) ⟨hx, hb, hml, hown, hts⟩ ((y_isStreet l D k st lo a rk lfa n0 see0 tm0 g0 n1 see1 tm1 g1 n2 see2 tm2 g2 p0 (by first | assumption | omega) (by first | assumption | omega) (by first | assumption | omega)) s.heap.size) (cwV 1 hts (gV tw_589 tw_591 tw_8 tw_79 tw_592) rfl rfl rfl (by decide +kernel) ⟨Nat.le_of_ble_eq_true rfl, Nat.le_of_ble_eq_true rfl⟩) (pV hS hAlo hlo hP hK hDL hZ [0, 1, 2, 3, 6, 7, 10, 11] (by decide) rfl (ci := 7) (q := (RX7, TX7, 12)) (q0 := 0) rfl rfl) rfl rfl hl.1 rfl (lv_room (Nat.le_of_ble_eq_true rfl)) dX7_told_2 ⟨Nat.le_of_ble_eq_true rfl, Nat.le_of_ble_eq_true rfl⟩) hS hA hP (fun r_1 H locs hw_1 hP hS => ?_)
  try dsimp only at hw_1
  rcases hw_1 with ⟨rfl, ⟨rfl, hw_1⟩ | ⟨rfl, hw_1⟩ | ⟨rfl, hw_1⟩⟩ | ⟨rfl, hw_1⟩
  · refine lv_if_ne (tgt := 12) hx hb dX7_told_5 (by decide) (fun _ => ?_) (fun h => absurd h (by decide))
    refine lv_iload_n hx hb dX7_told_12 rfl (lv_at hl 2 rfl) ?_
    refine lv_iconst (v := 0) hx hb dX7_told_13 (by decide) ?_
    refine lv_bipush (v := 9) hx hb dX7_told_14 (by decide) ?_
    refine ro_i (D := D) (va_runS (As := [.int p1, .int 0, .int 9]) (rest := []) ⟨hx, hb, hml, hown, hts⟩ ((k_isIn l D k st lo p1 0 9) H.size) (va_cwS 3 hts (gS tw_593 tw_594 tw_79 tw_595) rfl rfl rfl (by decide +kernel) ⟨Nat.le_of_ble_eq_true rfl, Nat.le_of_ble_eq_true rfl⟩) (pS hS hAlo hlo hP hK hDL hZ [] (by decide) rfl) rfl rfl hl.1 rfl (lv_room (Nat.le_of_ble_eq_true rfl)) dX7_told_16 ⟨Nat.le_of_ble_eq_true rfl, Nat.le_of_ble_eq_true rfl⟩) hS hA hP (fun r_2 H locs hw_2 hP hS => ?_)
    try dsimp only at hw_2
    rcases hw_2 with ⟨rfl, hw_2⟩ | ⟨rfl, hw_2⟩
    · refine lv_if_eq (tgt := 36) hx hb dX7_told_19 (by decide) (fun h => absurd h (by decide)) (fun _ => ?_)
      obtain ⟨nb_3, hnl_3, hnh_3, rfl⟩ := inB_ofc (a := 0) (b := 9) (by omega) (by omega) hw_2
      refine lv_aload_n hx hb dX7_told_22 rfl (lv_at hl 0 rfl) ?_
      refine va_get (D := D) (ci := 7) (v := .ref (a 3)) (C := RX7) (T := TX7) (N := 12) hx hb hts inX7 hown hK hP 0 rfl rfl 1 (by decide) (hts _ tw_306) (fun _ h9 => h9) rfl dX7_told_23 ?_
      refine lv_iload_n hx hb dX7_told_26 rfl (lv_at hl 1 rfl) ?_
      refine va_aldq hx hb hK hP 1 3 rfl rfl (by unfold vp_in; decide) dX7_told_27 ?_
      refine lv_tr (y := .ref (a 4)) rfl ?_
      refine va_get (D := D) (ci := 5) (v := .ref (a 5)) (C := RX5) (T := TX5) (N := 4) hx hb hts inX5 hown hK hP 2 rfl rfl 0 (by decide) (hts _ tw_149) (fun _ h9 => h9) rfl dX7_told_28 ?_
      refine lv_iload_n hx hb dX7_told_31 rfl (lv_at hl 2 rfl) ?_
      refine va_iald hx hb hK hP 3 1 rfl rfl (vp_in_nI (by omega) (by decide)) dX7_told_32 ?_
      refine lv_ti (y := ((vv n0 see0 tm0 g0) nb_3)) (by rw [nI_clamp (by omega)]) ?_
      refine lv_goto (tgt := 39) hx hb dX7_told_33 (by decide) ?_
      exact W.iret (v := ((vv n0 see0 tm0 g0) nb_3)) hx hb hr (fun t ht hW => ⟨⟨((vv n0 see0 tm0 g0) nb_3), (), rfl, to_at (s := 0) (by omega) (show 0 < n0 by omega) (show toA (sdX n0 see0 tm0 g0 ff0 fp0) _ _ from toXk (by omega)), trivial⟩, hS.F ht⟩) hS.2.2 dX7_told_39
    · refine lv_if_eq (tgt := 36) hx hb dX7_told_19 (by decide) (fun _ => ?_) (fun h => absurd (by decide) h)
      refine lv_sipush (v := (-1002)) hx hb dX7_told_36 (by decide) ?_
      exact W.iret (v := (-1002)) hx hb hr (fun t ht hW => ⟨⟨(-1002), (), rfl, to_at (s := 0) (by omega) (show 0 < n0 by omega) (toO hw_2), trivial⟩, hS.F ht⟩) hS.2.2 dX7_told_39
  · refine lv_if_ne (tgt := 12) hx hb dX7_told_5 (by decide) (fun _ => ?_) (fun h => absurd h (by decide))
    refine lv_iload_n hx hb dX7_told_12 rfl (lv_at hl 2 rfl) ?_
    refine lv_iconst (v := 0) hx hb dX7_told_13 (by decide) ?_
    refine lv_bipush (v := 9) hx hb dX7_told_14 (by decide) ?_
    refine ro_i (D := D) (va_runS (As := [.int p1, .int 0, .int 9]) (rest := []) ⟨hx, hb, hml, hown, hts⟩ ((k_isIn l D k st lo p1 0 9) H.size) (va_cwS 3 hts (gS tw_593 tw_594 tw_79 tw_595) rfl rfl rfl (by decide +kernel) ⟨Nat.le_of_ble_eq_true rfl, Nat.le_of_ble_eq_true rfl⟩) (pS hS hAlo hlo hP hK hDL hZ [] (by decide) rfl) rfl rfl hl.1 rfl (lv_room (Nat.le_of_ble_eq_true rfl)) dX7_told_16 ⟨Nat.le_of_ble_eq_true rfl, Nat.le_of_ble_eq_true rfl⟩) hS hA hP (fun r_4 H locs hw_4 hP hS => ?_)
    try dsimp only at hw_4
    rcases hw_4 with ⟨rfl, hw_4⟩ | ⟨rfl, hw_4⟩
    · refine lv_if_eq (tgt := 36) hx hb dX7_told_19 (by decide) (fun h => absurd h (by decide)) (fun _ => ?_)
      obtain ⟨nb_5, hnl_5, hnh_5, rfl⟩ := inB_ofc (a := 0) (b := 9) (by omega) (by omega) hw_4
      refine lv_aload_n hx hb dX7_told_22 rfl (lv_at hl 0 rfl) ?_
      refine va_get (D := D) (ci := 7) (v := .ref (a 3)) (C := RX7) (T := TX7) (N := 12) hx hb hts inX7 hown hK hP 0 rfl rfl 1 (by decide) (hts _ tw_306) (fun _ h9 => h9) rfl dX7_told_23 ?_
      refine lv_iload_n hx hb dX7_told_26 rfl (lv_at hl 1 rfl) ?_
      refine va_aldq hx hb hK hP 1 3 rfl rfl (by unfold vp_in; decide) dX7_told_27 ?_
      refine lv_tr (y := .ref (a 9)) rfl ?_
      refine va_get (D := D) (ci := 5) (v := .ref (a 10)) (C := RX5) (T := TX5) (N := 4) hx hb hts inX5 hown hK hP 6 rfl rfl 0 (by decide) (hts _ tw_149) (fun _ h9 => h9) rfl dX7_told_28 ?_
      refine lv_iload_n hx hb dX7_told_31 rfl (lv_at hl 2 rfl) ?_
      refine va_iald hx hb hK hP 7 1 rfl rfl (vp_in_nI (by omega) (by decide)) dX7_told_32 ?_
      refine lv_ti (y := ((vv n1 see1 tm1 g1) nb_5)) (by rw [nI_clamp (by omega)]) ?_
      refine lv_goto (tgt := 39) hx hb dX7_told_33 (by decide) ?_
      exact W.iret (v := ((vv n1 see1 tm1 g1) nb_5)) hx hb hr (fun t ht hW => ⟨⟨((vv n1 see1 tm1 g1) nb_5), (), rfl, to_at (s := 1) (by omega) (show 0 < n1 by omega) (show toA (sdX n1 see1 tm1 g1 ff1 fp1) _ _ from toXk (by omega)), trivial⟩, hS.F ht⟩) hS.2.2 dX7_told_39
    · refine lv_if_eq (tgt := 36) hx hb dX7_told_19 (by decide) (fun _ => ?_) (fun h => absurd (by decide) h)
      refine lv_sipush (v := (-1002)) hx hb dX7_told_36 (by decide) ?_
      exact W.iret (v := (-1002)) hx hb hr (fun t ht hW => ⟨⟨(-1002), (), rfl, to_at (s := 1) (by omega) (show 0 < n1 by omega) (toO hw_4), trivial⟩, hS.F ht⟩) hS.2.2 dX7_told_39
  · refine lv_if_ne (tgt := 12) hx hb dX7_told_5 (by decide) (fun _ => ?_) (fun h => absurd h (by decide))
    refine lv_iload_n hx hb dX7_told_12 rfl (lv_at hl 2 rfl) ?_
    refine lv_iconst (v := 0) hx hb dX7_told_13 (by decide) ?_
    refine lv_bipush (v := 9) hx hb dX7_told_14 (by decide) ?_
    refine ro_i (D := D) (va_runS (As := [.int p1, .int 0, .int 9]) (rest := []) ⟨hx, hb, hml, hown, hts⟩ ((k_isIn l D k st lo p1 0 9) H.size) (va_cwS 3 hts (gS tw_593 tw_594 tw_79 tw_595) rfl rfl rfl (by decide +kernel) ⟨Nat.le_of_ble_eq_true rfl, Nat.le_of_ble_eq_true rfl⟩) (pS hS hAlo hlo hP hK hDL hZ [] (by decide) rfl) rfl rfl hl.1 rfl (lv_room (Nat.le_of_ble_eq_true rfl)) dX7_told_16 ⟨Nat.le_of_ble_eq_true rfl, Nat.le_of_ble_eq_true rfl⟩) hS hA hP (fun r_6 H locs hw_6 hP hS => ?_)
    try dsimp only at hw_6
    rcases hw_6 with ⟨rfl, hw_6⟩ | ⟨rfl, hw_6⟩
    · refine lv_if_eq (tgt := 36) hx hb dX7_told_19 (by decide) (fun h => absurd h (by decide)) (fun _ => ?_)
      obtain ⟨nb_7, hnl_7, hnh_7, rfl⟩ := inB_ofc (a := 0) (b := 9) (by omega) (by omega) hw_6
      refine lv_aload_n hx hb dX7_told_22 rfl (lv_at hl 0 rfl) ?_
      refine va_get (D := D) (ci := 7) (v := .ref (a 3)) (C := RX7) (T := TX7) (N := 12) hx hb hts inX7 hown hK hP 0 rfl rfl 1 (by decide) (hts _ tw_306) (fun _ h9 => h9) rfl dX7_told_23 ?_
      refine lv_iload_n hx hb dX7_told_26 rfl (lv_at hl 1 rfl) ?_
      refine va_aldq hx hb hK hP 1 3 rfl rfl (by unfold vp_in; decide) dX7_told_27 ?_
      refine lv_tr (y := .ref (a 14)) rfl ?_
      refine va_get (D := D) (ci := 5) (v := .ref (a 15)) (C := RX5) (T := TX5) (N := 4) hx hb hts inX5 hown hK hP 10 rfl rfl 0 (by decide) (hts _ tw_149) (fun _ h9 => h9) rfl dX7_told_28 ?_
      refine lv_iload_n hx hb dX7_told_31 rfl (lv_at hl 2 rfl) ?_
      refine va_iald hx hb hK hP 11 1 rfl rfl (vp_in_nI (by omega) (by decide)) dX7_told_32 ?_
      refine lv_ti (y := ((vv n2 see2 tm2 g2) nb_7)) (by rw [nI_clamp (by omega)]) ?_
      refine lv_goto (tgt := 39) hx hb dX7_told_33 (by decide) ?_
      exact W.iret (v := ((vv n2 see2 tm2 g2) nb_7)) hx hb hr (fun t ht hW => ⟨⟨((vv n2 see2 tm2 g2) nb_7), (), rfl, to_at (s := 2) (by omega) (show 0 < n2 by omega) (show toA (sdX n2 see2 tm2 g2 ff2 fp2) _ _ from toXk (by omega)), trivial⟩, hS.F ht⟩) hS.2.2 dX7_told_39
    · refine lv_if_eq (tgt := 36) hx hb dX7_told_19 (by decide) (fun _ => ?_) (fun h => absurd (by decide) h)
      refine lv_sipush (v := (-1002)) hx hb dX7_told_36 (by decide) ?_
      exact W.iret (v := (-1002)) hx hb hr (fun t ht hW => ⟨⟨(-1002), (), rfl, to_at (s := 2) (by omega) (show 0 < n2 by omega) (toO hw_6), trivial⟩, hS.F ht⟩) hS.2.2 dX7_told_39
  · refine lv_if_ne (tgt := 12) hx hb dX7_told_5 (by decide) (fun h => absurd (by decide) h) (fun _ => ?_)
    refine lv_sipush (v := (-1001)) hx hb dX7_told_8 (by decide) ?_
    exact W.iret (v := (-1001)) hx hb hr (fun t ht hW => ⟨⟨(-1001), (), rfl, to_no (fun s h1 h2 h3 => hw_1 s h1 h2 (by rw [d3_n] at h3; exact h3)), trivial⟩, hS.F ht⟩) hS.2.2 dX7_told_11


set_option maxHeartbeats 4000000 in
set_option maxRecDepth 100000 in
theorem y_door (l : Launch) (D : va_G) (k : Nat → ClassId) (st : Nat → Nat) (lo : Nat) (a : Nat → Nat) (rk : Nat) (lfa : Int32) (n0 : Nat) (see0 : Nat) (tm0 : Nat) (g0 : Nat → Int32) (ff0 : Nat → Int32) (fp0 : Nat → Int32) (n1 : Nat) (see1 : Nat) (tm1 : Nat) (g1 : Nat → Int32) (ff1 : Nat → Int32) (fp1 : Nat → Int32) (n2 : Nat) (see2 : Nat) (tm2 : Nat) (g2 : Nat → Int32) (ff2 : Nat → Int32) (fp2 : Nat → Int32) (p0 : Int32) (p1 : Int32) (p2 : Int32) (hn0 : n0 ≤ 24) (hse0 : see0 ≤ 2) (htm0 : tm0 ≤ 3) (hn1 : n1 ≤ 24) (hse1 : see1 ≤ 2) (htm1 : tm1 ≤ 3) (hn2 : n2 ≤ 24) (hse2 : see2 ≤ 2) (htm2 : tm2 ≤ 3) : CRi l D k st lo yX7_door cX7_door 4 (some .int) ({ frames := 3, cells := 0, slots := 0, locals := 63 }) [.ref (a 0), .int p0, .int p1, .int p2] [((a 0), .inr (7, (fX7 (a 1) (a 3) (a 19) (a 35) (a 40) (nI rk) lfa (a 53) (a 56) (a 63) (a 64) (a 68)))), ((a 3), .inl (k 3, 3, .inr (.inr (.inr (.inr (a3 (a 4) (a 9) (a 14))))))), ((a 4), .inr (5, (fX5 (a 5) (a 6) (a 7) (a 8)))), (aI k (a 5) 10 (vv n0 see0 tm0 g0)), (aI k (a 6) 24 ff0), (aI k (a 7) 24 fp0), ((a 9), .inr (5, (fX5 (a 10) (a 11) (a 12) (a 13)))), (aI k (a 10) 10 (vv n1 see1 tm1 g1)), (aI k (a 11) 24 ff1), (aI k (a 12) 24 fp1), ((a 14), .inr (5, (fX5 (a 15) (a 16) (a 17) (a 18)))), (aI k (a 15) 10 (vv n2 see2 tm2 g2)), (aI k (a 16) 24 ff2), (aI k (a 17) 24 fp2)] (fun r => doP (d3 (sdX n0 see0 tm0 g0 ff0 fp0) (sdX n1 see1 tm1 g1 ff1 fp1) (sdX n2 see2 tm2 g2 ff2 fp2)) p0 p1 p2 r) := by
  intro sz
  refine Met.ofW (cc := cX7_door) (maxL := 4) (ret := (some .int)) (by decide) rfl ?_
  intro p e s m args below meth c s₁ B hml hv
  obtain ⟨rfl, hsz, hlo, hP, hK, hDL, hZ⟩ := hv
  have hx := B.exec
  have hb := B.bytes
  have hr := B.returns
  have hts := WS_ts B.pre
  have hown : s.vm.findClass RX7 = some m.cls := findClass_of_methodNamed B.named
  have hlocks := B.notSynchronized
  subst hsz
  have hA : ∀ q : Nat, s.heap.size ≤ q → (fun q : Nat => s.heap.size ≤ q) q := fun _ h => h
  have hAlo : ∀ q : Nat, (fun q : Nat => s.heap.size ≤ q) q → lo ≤ q := fun q h => Nat.le_trans hlo h
  have hS : va_S (fun q : Nat => s.heap.size ≤ q) s.heap s.heap [] := va_S.rf
  have hl := lv_entry ([.ref (a 0), .int p0, .int p1, .int p2]) (n := 4) (Nat.le_of_ble_eq_true rfl)
  rw [lg_entry_eq]
  generalize (lg_sl ([.ref (a 0), .int p0, .int p1, .int p2]) ++ List.replicate (4 - (lg_sl ([.ref (a 0), .int p0, .int p1, .int p2])).length) Slot.unset).toArray = ls at hl ⊢
  have hl : lv_has ls 4 [(0, .ref (a 0)), (1, .int p0), (2, .int p1), (3, .int p2)] := hl
  refine lv_aload_n hx hb dX7_door_0 rfl (lv_at hl 0 rfl) ?_
  refine lv_iload_n hx hb dX7_door_1 rfl (lv_at hl 1 rfl) ?_
  refine lv_iload_n hx hb dX7_door_2 rfl (lv_at hl 2 rfl) ?_
  refine ro_i (D := D) (va_runV (As := [.int p0, .int p1]) (rest := []) ⟨hx, hb, hml, hown, hts⟩ ((y_isDoor l D k st lo a rk lfa n0 see0 tm0 g0 n1 see1 tm1 g1 n2 see2 tm2 g2 p0 p1 (by first | assumption | omega) (by first | assumption | omega) (by first | assumption | omega)) s.heap.size) (cwV 2 hts (gV tw_600 tw_602 tw_9 tw_79 tw_603) rfl rfl rfl (by decide +kernel) ⟨Nat.le_of_ble_eq_true rfl, Nat.le_of_ble_eq_true rfl⟩) (pV hS hAlo hlo hP hK hDL hZ [0, 1, 2, 3, 6, 7, 10, 11] (by decide) rfl (ci := 7) (q := (RX7, TX7, 12)) (q0 := 0) rfl rfl) rfl rfl hl.1 rfl (lv_room (Nat.le_of_ble_eq_true rfl)) dX7_door_3 ⟨Nat.le_of_ble_eq_true rfl, Nat.le_of_ble_eq_true rfl⟩) hS hA hP (fun r_1 H locs hw_1 hP hS => ?_)
  try dsimp only at hw_1
  rcases hw_1 with ⟨rfl, ⟨rfl, id_2, hid_2, rfl⟩ | ⟨rfl, id_2, hid_2, rfl⟩ | ⟨rfl, id_2, hid_2, rfl⟩⟩ | ⟨rfl, hw_1⟩
  · refine lv_if_ne (tgt := 13) hx hb dX7_door_6 (by decide) (fun _ => ?_) (fun h => absurd h (by decide))
    refine lv_iload_n hx hb dX7_door_13 rfl (lv_at hl 3 rfl) ?_
    refine lv_iconst (v := 0) hx hb dX7_door_14 (by decide) ?_
    refine lv_iconst (v := 1) hx hb dX7_door_15 (by decide) ?_
    refine ro_i (D := D) (va_runS (As := [.int p2, .int 0, .int 1]) (rest := []) ⟨hx, hb, hml, hown, hts⟩ ((k_isIn l D k st lo p2 0 1) H.size) (va_cwS 3 hts (gS tw_593 tw_594 tw_79 tw_595) rfl rfl rfl (by decide +kernel) ⟨Nat.le_of_ble_eq_true rfl, Nat.le_of_ble_eq_true rfl⟩) (pS hS hAlo hlo hP hK hDL hZ [] (by decide) rfl) rfl rfl hl.1 rfl (lv_room (Nat.le_of_ble_eq_true rfl)) dX7_door_16 ⟨Nat.le_of_ble_eq_true rfl, Nat.le_of_ble_eq_true rfl⟩) hS hA hP (fun r_3 H locs hw_3 hP hS => ?_)
    try dsimp only at hw_3
    rcases hw_3 with ⟨rfl, hw_3⟩ | ⟨rfl, hw_3⟩
    · refine lv_if_ne (tgt := 26) hx hb dX7_door_19 (by decide) (fun _ => ?_) (fun h => absurd h (by decide))
      refine lv_iload_n hx hb dX7_door_26 rfl (lv_at hl 3 rfl) ?_
      refine lv_if_ne (tgt := 44) hx hb dX7_door_27 (by decide) (fun c_4 => ?_) (fun c_4 => ?_)
      · refine lv_aload_n hx hb dX7_door_44 rfl (lv_at hl 0 rfl) ?_
        refine va_get (D := D) (ci := 7) (v := .ref (a 3)) (C := RX7) (T := TX7) (N := 12) hx hb hts inX7 hown hK hP 0 rfl rfl 1 (by decide) (hts _ tw_306) (fun _ h9 => h9) rfl dX7_door_45 ?_
        refine lv_iload_n hx hb dX7_door_48 rfl (lv_at hl 1 rfl) ?_
        refine va_aldq hx hb hK hP 1 3 rfl rfl (by unfold vp_in; decide) dX7_door_49 ?_
        refine lv_tr (y := .ref (a 4)) rfl ?_
        refine va_get (D := D) (ci := 5) (v := .ref (a 7)) (C := RX5) (T := TX5) (N := 4) hx hb hts inX5 hown hK hP 2 rfl rfl 2 (by decide) (hts _ tw_153) (fun _ h9 => h9) rfl dX7_door_50 ?_
        refine lv_iload_n hx hb dX7_door_53 rfl (lv_at hl 2 rfl) ?_
        refine va_iald hx hb hK hP 5 1 rfl rfl (vp_in_nI (by omega) (by decide)) dX7_door_54 ?_
        refine lv_ti (y := (fp0 id_2)) (by rw [nI_clamp (by omega)]) ?_
        exact W.iret (v := (fp0 id_2)) hx hb hr (fun t ht hW => ⟨⟨(fp0 id_2), (), rfl, do_at (s := 0) (by omega) (show n0 ≤ 24 by omega) (show id_2 < n0 by omega) (doF1 (by omega) (is01 hw_3 c_4)), trivial⟩, hS.F ht⟩) hS.2.2 dX7_door_55
      · refine lv_aload_n hx hb dX7_door_30 rfl (lv_at hl 0 rfl) ?_
        refine va_get (D := D) (ci := 7) (v := .ref (a 3)) (C := RX7) (T := TX7) (N := 12) hx hb hts inX7 hown hK hP 0 rfl rfl 1 (by decide) (hts _ tw_306) (fun _ h9 => h9) rfl dX7_door_31 ?_
        refine lv_iload_n hx hb dX7_door_34 rfl (lv_at hl 1 rfl) ?_
        refine va_aldq hx hb hK hP 1 3 rfl rfl (by unfold vp_in; decide) dX7_door_35 ?_
        refine lv_tr (y := .ref (a 4)) rfl ?_
        refine va_get (D := D) (ci := 5) (v := .ref (a 6)) (C := RX5) (T := TX5) (N := 4) hx hb hts inX5 hown hK hP 2 rfl rfl 1 (by decide) (hts _ tw_151) (fun _ h9 => h9) rfl dX7_door_36 ?_
        refine lv_iload_n hx hb dX7_door_39 rfl (lv_at hl 2 rfl) ?_
        refine va_iald hx hb hK hP 4 1 rfl rfl (vp_in_nI (by omega) (by decide)) dX7_door_40 ?_
        refine lv_ti (y := (ff0 id_2)) (by rw [nI_clamp (by omega)]) ?_
        refine lv_goto (tgt := 55) hx hb dX7_door_41 (by decide) ?_
        exact W.iret (v := (ff0 id_2)) hx hb hr (fun t ht hW => ⟨⟨(ff0 id_2), (), rfl, do_at (s := 0) (by omega) (show n0 ≤ 24 by omega) (show id_2 < n0 by omega) (doF0 (by omega) c_4), trivial⟩, hS.F ht⟩) hS.2.2 dX7_door_55
    · refine lv_if_ne (tgt := 26) hx hb dX7_door_19 (by decide) (fun h => absurd (by decide) h) (fun _ => ?_)
      refine lv_sipush (v := (-1002)) hx hb dX7_door_22 (by decide) ?_
      exact W.iret (v := (-1002)) hx hb hr (fun t ht hW => ⟨⟨(-1002), (), rfl, do_at (s := 0) (by omega) (show n0 ≤ 24 by omega) (show id_2 < n0 by omega) (doFo (not01 hw_3).1 (not01 hw_3).2), trivial⟩, hS.F ht⟩) hS.2.2 dX7_door_25
  · refine lv_if_ne (tgt := 13) hx hb dX7_door_6 (by decide) (fun _ => ?_) (fun h => absurd h (by decide))
    refine lv_iload_n hx hb dX7_door_13 rfl (lv_at hl 3 rfl) ?_
    refine lv_iconst (v := 0) hx hb dX7_door_14 (by decide) ?_
    refine lv_iconst (v := 1) hx hb dX7_door_15 (by decide) ?_
    refine ro_i (D := D) (va_runS (As := [.int p2, .int 0, .int 1]) (rest := []) ⟨hx, hb, hml, hown, hts⟩ ((k_isIn l D k st lo p2 0 1) H.size) (va_cwS 3 hts (gS tw_593 tw_594 tw_79 tw_595) rfl rfl rfl (by decide +kernel) ⟨Nat.le_of_ble_eq_true rfl, Nat.le_of_ble_eq_true rfl⟩) (pS hS hAlo hlo hP hK hDL hZ [] (by decide) rfl) rfl rfl hl.1 rfl (lv_room (Nat.le_of_ble_eq_true rfl)) dX7_door_16 ⟨Nat.le_of_ble_eq_true rfl, Nat.le_of_ble_eq_true rfl⟩) hS hA hP (fun r_5 H locs hw_5 hP hS => ?_)
    try dsimp only at hw_5
    rcases hw_5 with ⟨rfl, hw_5⟩ | ⟨rfl, hw_5⟩
    · refine lv_if_ne (tgt := 26) hx hb dX7_door_19 (by decide) (fun _ => ?_) (fun h => absurd h (by decide))
      refine lv_iload_n hx hb dX7_door_26 rfl (lv_at hl 3 rfl) ?_
      refine lv_if_ne (tgt := 44) hx hb dX7_door_27 (by decide) (fun c_6 => ?_) (fun c_6 => ?_)
      · refine lv_aload_n hx hb dX7_door_44 rfl (lv_at hl 0 rfl) ?_
        refine va_get (D := D) (ci := 7) (v := .ref (a 3)) (C := RX7) (T := TX7) (N := 12) hx hb hts inX7 hown hK hP 0 rfl rfl 1 (by decide) (hts _ tw_306) (fun _ h9 => h9) rfl dX7_door_45 ?_
        refine lv_iload_n hx hb dX7_door_48 rfl (lv_at hl 1 rfl) ?_
        refine va_aldq hx hb hK hP 1 3 rfl rfl (by unfold vp_in; decide) dX7_door_49 ?_
        refine lv_tr (y := .ref (a 9)) rfl ?_
        refine va_get (D := D) (ci := 5) (v := .ref (a 12)) (C := RX5) (T := TX5) (N := 4) hx hb hts inX5 hown hK hP 6 rfl rfl 2 (by decide) (hts _ tw_153) (fun _ h9 => h9) rfl dX7_door_50 ?_
        refine lv_iload_n hx hb dX7_door_53 rfl (lv_at hl 2 rfl) ?_
        refine va_iald hx hb hK hP 9 1 rfl rfl (vp_in_nI (by omega) (by decide)) dX7_door_54 ?_
        refine lv_ti (y := (fp1 id_2)) (by rw [nI_clamp (by omega)]) ?_
        exact W.iret (v := (fp1 id_2)) hx hb hr (fun t ht hW => ⟨⟨(fp1 id_2), (), rfl, do_at (s := 1) (by omega) (show n1 ≤ 24 by omega) (show id_2 < n1 by omega) (doF1 (by omega) (is01 hw_5 c_6)), trivial⟩, hS.F ht⟩) hS.2.2 dX7_door_55
      · refine lv_aload_n hx hb dX7_door_30 rfl (lv_at hl 0 rfl) ?_
        refine va_get (D := D) (ci := 7) (v := .ref (a 3)) (C := RX7) (T := TX7) (N := 12) hx hb hts inX7 hown hK hP 0 rfl rfl 1 (by decide) (hts _ tw_306) (fun _ h9 => h9) rfl dX7_door_31 ?_
        refine lv_iload_n hx hb dX7_door_34 rfl (lv_at hl 1 rfl) ?_
        refine va_aldq hx hb hK hP 1 3 rfl rfl (by unfold vp_in; decide) dX7_door_35 ?_
        refine lv_tr (y := .ref (a 9)) rfl ?_
        refine va_get (D := D) (ci := 5) (v := .ref (a 11)) (C := RX5) (T := TX5) (N := 4) hx hb hts inX5 hown hK hP 6 rfl rfl 1 (by decide) (hts _ tw_151) (fun _ h9 => h9) rfl dX7_door_36 ?_
        refine lv_iload_n hx hb dX7_door_39 rfl (lv_at hl 2 rfl) ?_
        refine va_iald hx hb hK hP 8 1 rfl rfl (vp_in_nI (by omega) (by decide)) dX7_door_40 ?_
        refine lv_ti (y := (ff1 id_2)) (by rw [nI_clamp (by omega)]) ?_
        refine lv_goto (tgt := 55) hx hb dX7_door_41 (by decide) ?_
        exact W.iret (v := (ff1 id_2)) hx hb hr (fun t ht hW => ⟨⟨(ff1 id_2), (), rfl, do_at (s := 1) (by omega) (show n1 ≤ 24 by omega) (show id_2 < n1 by omega) (doF0 (by omega) c_6), trivial⟩, hS.F ht⟩) hS.2.2 dX7_door_55
    · refine lv_if_ne (tgt := 26) hx hb dX7_door_19 (by decide) (fun h => absurd (by decide) h) (fun _ => ?_)
      refine lv_sipush (v := (-1002)) hx hb dX7_door_22 (by decide) ?_
      exact W.iret (v := (-1002)) hx hb hr (fun t ht hW => ⟨⟨(-1002), (), rfl, do_at (s := 1) (by omega) (show n1 ≤ 24 by omega) (show id_2 < n1 by omega) (doFo (not01 hw_5).1 (not01 hw_5).2), trivial⟩, hS.F ht⟩) hS.2.2 dX7_door_25
  · refine lv_if_ne (tgt := 13) hx hb dX7_door_6 (by decide) (fun _ => ?_) (fun h => absurd h (by decide))
    refine lv_iload_n hx hb dX7_door_13 rfl (lv_at hl 3 rfl) ?_
    refine lv_iconst (v := 0) hx hb dX7_door_14 (by decide) ?_
    refine lv_iconst (v := 1) hx hb dX7_door_15 (by decide) ?_
    refine ro_i (D := D) (va_runS (As := [.int p2, .int 0, .int 1]) (rest := []) ⟨hx, hb, hml, hown, hts⟩ ((k_isIn l D k st lo p2 0 1) H.size) (va_cwS 3 hts (gS tw_593 tw_594 tw_79 tw_595) rfl rfl rfl (by decide +kernel) ⟨Nat.le_of_ble_eq_true rfl, Nat.le_of_ble_eq_true rfl⟩) (pS hS hAlo hlo hP hK hDL hZ [] (by decide) rfl) rfl rfl hl.1 rfl (lv_room (Nat.le_of_ble_eq_true rfl)) dX7_door_16 ⟨Nat.le_of_ble_eq_true rfl, Nat.le_of_ble_eq_true rfl⟩) hS hA hP (fun r_7 H locs hw_7 hP hS => ?_)
    try dsimp only at hw_7
    rcases hw_7 with ⟨rfl, hw_7⟩ | ⟨rfl, hw_7⟩
    · refine lv_if_ne (tgt := 26) hx hb dX7_door_19 (by decide) (fun _ => ?_) (fun h => absurd h (by decide))
      refine lv_iload_n hx hb dX7_door_26 rfl (lv_at hl 3 rfl) ?_
      refine lv_if_ne (tgt := 44) hx hb dX7_door_27 (by decide) (fun c_8 => ?_) (fun c_8 => ?_)
      · refine lv_aload_n hx hb dX7_door_44 rfl (lv_at hl 0 rfl) ?_
        refine va_get (D := D) (ci := 7) (v := .ref (a 3)) (C := RX7) (T := TX7) (N := 12) hx hb hts inX7 hown hK hP 0 rfl rfl 1 (by decide) (hts _ tw_306) (fun _ h9 => h9) rfl dX7_door_45 ?_
        refine lv_iload_n hx hb dX7_door_48 rfl (lv_at hl 1 rfl) ?_
        refine va_aldq hx hb hK hP 1 3 rfl rfl (by unfold vp_in; decide) dX7_door_49 ?_
        refine lv_tr (y := .ref (a 14)) rfl ?_
        refine va_get (D := D) (ci := 5) (v := .ref (a 17)) (C := RX5) (T := TX5) (N := 4) hx hb hts inX5 hown hK hP 10 rfl rfl 2 (by decide) (hts _ tw_153) (fun _ h9 => h9) rfl dX7_door_50 ?_
        refine lv_iload_n hx hb dX7_door_53 rfl (lv_at hl 2 rfl) ?_
        refine va_iald hx hb hK hP 13 1 rfl rfl (vp_in_nI (by omega) (by decide)) dX7_door_54 ?_
        refine lv_ti (y := (fp2 id_2)) (by rw [nI_clamp (by omega)]) ?_
        exact W.iret (v := (fp2 id_2)) hx hb hr (fun t ht hW => ⟨⟨(fp2 id_2), (), rfl, do_at (s := 2) (by omega) (show n2 ≤ 24 by omega) (show id_2 < n2 by omega) (doF1 (by omega) (is01 hw_7 c_8)), trivial⟩, hS.F ht⟩) hS.2.2 dX7_door_55
      · refine lv_aload_n hx hb dX7_door_30 rfl (lv_at hl 0 rfl) ?_
        refine va_get (D := D) (ci := 7) (v := .ref (a 3)) (C := RX7) (T := TX7) (N := 12) hx hb hts inX7 hown hK hP 0 rfl rfl 1 (by decide) (hts _ tw_306) (fun _ h9 => h9) rfl dX7_door_31 ?_
        refine lv_iload_n hx hb dX7_door_34 rfl (lv_at hl 1 rfl) ?_
        refine va_aldq hx hb hK hP 1 3 rfl rfl (by unfold vp_in; decide) dX7_door_35 ?_
        refine lv_tr (y := .ref (a 14)) rfl ?_
        refine va_get (D := D) (ci := 5) (v := .ref (a 16)) (C := RX5) (T := TX5) (N := 4) hx hb hts inX5 hown hK hP 10 rfl rfl 1 (by decide) (hts _ tw_151) (fun _ h9 => h9) rfl dX7_door_36 ?_
        refine lv_iload_n hx hb dX7_door_39 rfl (lv_at hl 2 rfl) ?_
        refine va_iald hx hb hK hP 12 1 rfl rfl (vp_in_nI (by omega) (by decide)) dX7_door_40 ?_
        refine lv_ti (y := (ff2 id_2)) (by rw [nI_clamp (by omega)]) ?_
        refine lv_goto (tgt := 55) hx hb dX7_door_41 (by decide) ?_
        exact W.iret (v := (ff2 id_2)) hx hb hr (fun t ht hW => ⟨⟨(ff2 id_2), (), rfl, do_at (s := 2) (by omega) (show n2 ≤ 24 by omega) (show id_2 < n2 by omega) (doF0 (by omega) c_8), trivial⟩, hS.F ht⟩) hS.2.2 dX7_door_55
    · refine lv_if_ne (tgt := 26) hx hb dX7_door_19 (by decide) (fun h => absurd (by decide) h) (fun _ => ?_)
      refine lv_sipush (v := (-1002)) hx hb dX7_door_22 (by decide) ?_
      exact W.iret (v := (-1002)) hx hb hr (fun t ht hW => ⟨⟨(-1002), (), rfl, do_at (s := 2) (by omega) (show n2 ≤ 24 by omega) (show id_2 < n2 by omega) (doFo (not01 hw_7).1 (not01 hw_7).2), trivial⟩, hS.F ht⟩) hS.2.2 dX7_door_25
  · refine lv_if_ne (tgt := 13) hx hb dX7_door_6 (by decide) (fun h => absurd (by decide) h) (fun _ => ?_)
    refine lv_sipush (v := (-1001)) hx hb dX7_door_9 (by decide) ?_
    exact W.iret (v := (-1001)) hx hb hr (fun t ht hW => ⟨⟨(-1001), (), rfl, do_no (fun s h1 h2 i h3 h4 => hw_1 s h1 h2 i h3 (by rw [d3_n] at h4; exact h4)), trivial⟩, hS.F ht⟩) hS.2.2 dX7_door_12


set_option maxHeartbeats 4000000 in
set_option maxRecDepth 100000 in
theorem n_isStreet (l : Launch) (D : va_G) (k : Nat → ClassId) (st : Nat → Nat) (lo : Nat) (a : Nat → Nat) (tx : Nat) (t0 : Nat) (we : Nat) (rd : Nat) (ru : Nat) (rw : Nat) (ca : Nat) (fp : Int32) (wd : Int64) (nu : Int32) (na : Int32) (ts : Int32) (df : Int32) (db : Int32) (sd : Int32) (dn : Nat → Nat) (pz : Int32) (hdn : ∀ j, dn j ≤ 24) : CRi l D k st lo yX8_isStreet cX8_isStreet 2 (some .boolean) ({ frames := 1, cells := 0, slots := 0, locals := 25 }) [.ref (a 0), .int pz] [((a 0), .inr (8, (fX8 a (nI tx) fp (nI t0) wd (nI we) nu na (nI rd) ts (nI ru) (nI rw) (nI ca) df db sd))), (aI k (a 1) 3 (nF dn))] (fun r => (r = 1 ∧ ∃ j : Nat, j < 3 ∧ pz = nI j ∧ 0 < dn j) ∨ (r = 0 ∧ ∀ s, s < 3 → pz = nI s → ¬ 0 < dn s)) := by
  intro sz
  refine Met.ofW (cc := cX8_isStreet) (maxL := 2) (ret := (some .boolean)) (by decide) rfl ?_
  intro p e s m args below meth c s₁ B hml hv
  obtain ⟨rfl, hsz, hlo, hP, hK, hDL, hZ⟩ := hv
  have hx := B.exec
  have hb := B.bytes
  have hr := B.returns
  have hts := WS_ts B.pre
  have hown : s.vm.findClass RX8 = some m.cls := findClass_of_methodNamed B.named
  have hlocks := B.notSynchronized
  subst hsz
  have hA : ∀ q : Nat, s.heap.size ≤ q → (fun q : Nat => s.heap.size ≤ q) q := fun _ h => h
  have hAlo : ∀ q : Nat, (fun q : Nat => s.heap.size ≤ q) q → lo ≤ q := fun q h => Nat.le_trans hlo h
  have hS : va_S (fun q : Nat => s.heap.size ≤ q) s.heap s.heap [] := va_S.rf
  have hl := lv_entry ([.ref (a 0), .int pz]) (n := 2) (Nat.le_of_ble_eq_true rfl)
  rw [lg_entry_eq]
  generalize (lg_sl ([.ref (a 0), .int pz]) ++ List.replicate (2 - (lg_sl ([.ref (a 0), .int pz])).length) Slot.unset).toArray = ls at hl ⊢
  have hl : lv_has ls 2 [(0, .ref (a 0)), (1, .int pz)] := hl
  refine lv_iload_n hx hb dX8_isStreet_0 rfl (lv_at hl 1 rfl) ?_
  refine lv_i2l (v := pz.toInt64) hx hb dX8_isStreet_1 rfl ?_
  refine lv_lconst (v := (0 : Int32).toInt64) hx hb dX8_isStreet_2 (by decide) ?_
  refine lv_ldc2 hx hb hown (hts _ tw_1119) dX8_isStreet_3 ?_
  refine lv_tl (y := ((2 : Int32).toInt64)) (by decide) ?_
  refine ro_i (D := D) (va_runS (As := [.long (pz.toInt64), .long ((0 : Int32).toInt64), .long ((2 : Int32).toInt64)]) (rest := []) ⟨hx, hb, hml, hown, hts⟩ ((k_in l D k st lo pz (0 : Int32) (2 : Int32)) s.heap.size) (va_cwS 3 hts (gS tw_1111 tw_1112 tw_87 tw_1113) rfl rfl rfl (by decide +kernel) ⟨Nat.le_of_ble_eq_true rfl, Nat.le_of_ble_eq_true rfl⟩) (pS hS hAlo hlo hP hK hDL hZ [] (by decide) rfl) rfl rfl hl.1 rfl (lv_room (Nat.le_of_ble_eq_true rfl)) dX8_isStreet_6 ⟨Nat.le_of_ble_eq_true rfl, Nat.le_of_ble_eq_true rfl⟩) hS hA hP (fun r_1 H locs hw_1 hP hS => ?_)
  try dsimp only at hw_1
  rcases hw_1 with ⟨rfl, hw_1⟩ | ⟨rfl, hw_1⟩
  · refine lv_if_eq (tgt := 25) hx hb dX8_isStreet_9 (by decide) (fun h => absurd h (by decide)) (fun _ => ?_)
    obtain ⟨j_9, -, hj_9, rfl⟩ := inB_ofc (a := 0) (b := 2) (by omega) (by omega) hw_1
    have hd_9 := hdn j_9
    refine lv_aload_n hx hb dX8_isStreet_12 rfl (lv_at hl 0 rfl) ?_
    refine va_get (D := D) (ci := 8) (v := .ref (a 1)) (C := RX8) (T := TX8) (N := 44) hx hb hts inX8 hown hK hP 0 rfl rfl 0 (by decide) (hts _ tw_973) (fun _ h9 => h9) rfl dX8_isStreet_13 ?_
    refine lv_iload_n hx hb dX8_isStreet_16 rfl (lv_at hl 1 rfl) ?_
    refine va_iald hx hb hK hP 1 1 rfl rfl (vp_in_nI (by omega) (by decide)) dX8_isStreet_17 ?_
    refine lv_ti (y := (nI (dn j_9))) (by rw [nI_clamp (by omega)]; rfl) ?_
    refine lv_if_le (tgt := 25) hx hb dX8_isStreet_18 (by decide) (fun c_2 => ?_) (fun c_2 => ?_)
    · have c_2 := (nI_leI (a := (dn j_9)) (b := 0) (by omega) (by omega)).mp c_2
      refine lv_iconst (v := 0) hx hb dX8_isStreet_25 (by decide) ?_
      exact W.zret (v := 0) (ty := .boolean) hx hb hr rfl (fun t ht hW => ⟨⟨0, (), rfl, .inr ⟨rfl, fun s h1 h2 h3 => by have h9 := nI_inj (by omega) (by omega) h2; subst h9; omega⟩, trivial⟩, hS.F ht⟩) hS.2.2 dX8_isStreet_26
    · have c_2 : ¬ ((dn j_9) ≤ 0) := fun h => c_2 ((nI_leI (a := (dn j_9)) (b := 0) (by omega) (by omega)).mpr h)
      refine lv_iconst (v := 1) hx hb dX8_isStreet_21 (by decide) ?_
      refine lv_goto (tgt := 26) hx hb dX8_isStreet_22 (by decide) ?_
      exact W.zret (v := 1) (ty := .boolean) hx hb hr rfl (fun t ht hW => ⟨⟨1, (), rfl, .inl ⟨rfl, j_9, by omega, rfl, by omega⟩, trivial⟩, hS.F ht⟩) hS.2.2 dX8_isStreet_26
  · refine lv_if_eq (tgt := 25) hx hb dX8_isStreet_9 (by decide) (fun _ => ?_) (fun h => absurd (by decide) h)
    refine lv_iconst (v := 0) hx hb dX8_isStreet_25 (by decide) ?_
    exact W.zret (v := 0) (ty := .boolean) hx hb hr rfl (fun t ht hW => ⟨⟨0, (), rfl, .inr ⟨rfl, fun s h1 h2 _ => hw_1 (by rw [h2]; exact in02 h1)⟩, trivial⟩, hS.F ht⟩) hS.2.2 dX8_isStreet_26


set_option maxHeartbeats 4000000 in
set_option maxRecDepth 100000 in
theorem n_isDoor (l : Launch) (D : va_G) (k : Nat → ClassId) (st : Nat → Nat) (lo : Nat) (a : Nat → Nat) (tx : Nat) (t0 : Nat) (we : Nat) (rd : Nat) (ru : Nat) (rw : Nat) (ca : Nat) (fp : Int32) (wd : Int64) (nu : Int32) (na : Int32) (ts : Int32) (df : Int32) (db : Int32) (sd : Int32) (dn : Nat → Nat) (sn : Nat) (pz : Int32) (hdn : ∀ j, dn j ≤ 24) (hs : sn < 3) : CRi l D k st lo yX8_isDoor cX8_isDoor 3 (some .boolean) ({ frames := 1, cells := 0, slots := 0, locals := 25 }) [.ref (a 0), .int (nI sn), .int pz] [((a 0), .inr (8, (fX8 a (nI tx) fp (nI t0) wd (nI we) nu na (nI rd) ts (nI ru) (nI rw) (nI ca) df db sd))), (aI k (a 1) 3 (nF dn))] (fun r => (r = 1 ∧ ∃ j : Nat, j < dn sn ∧ pz = nI j ∧ True) ∨ (r = 0 ∧ ∀ j, pz = nI j → ¬ j < dn sn)) := by
  intro sz
  refine Met.ofW (cc := cX8_isDoor) (maxL := 3) (ret := (some .boolean)) (by decide) rfl ?_
  intro p e s m args below meth c s₁ B hml hv
  obtain ⟨rfl, hsz, hlo, hP, hK, hDL, hZ⟩ := hv
  have hx := B.exec
  have hb := B.bytes
  have hr := B.returns
  have hts := WS_ts B.pre
  have hown : s.vm.findClass RX8 = some m.cls := findClass_of_methodNamed B.named
  have hlocks := B.notSynchronized
  subst hsz
  have hA : ∀ q : Nat, s.heap.size ≤ q → (fun q : Nat => s.heap.size ≤ q) q := fun _ h => h
  have hAlo : ∀ q : Nat, (fun q : Nat => s.heap.size ≤ q) q → lo ≤ q := fun q h => Nat.le_trans hlo h
  have hS : va_S (fun q : Nat => s.heap.size ≤ q) s.heap s.heap [] := va_S.rf
  have hl := lv_entry ([.ref (a 0), .int (nI sn), .int pz]) (n := 3) (Nat.le_of_ble_eq_true rfl)
  rw [lg_entry_eq]
  generalize (lg_sl ([.ref (a 0), .int (nI sn), .int pz]) ++ List.replicate (3 - (lg_sl ([.ref (a 0), .int (nI sn), .int pz])).length) Slot.unset).toArray = ls at hl ⊢
  have hl : lv_has ls 3 [(0, .ref (a 0)), (1, .int (nI sn)), (2, .int pz)] := hl
  have hd_9 := hdn sn
  refine lv_iload_n hx hb dX8_isDoor_0 rfl (lv_at hl 2 rfl) ?_
  refine lv_i2l (v := pz.toInt64) hx hb dX8_isDoor_1 rfl ?_
  refine lv_lconst (v := (0 : Int32).toInt64) hx hb dX8_isDoor_2 (by decide) ?_
  refine lv_aload_n hx hb dX8_isDoor_3 rfl (lv_at hl 0 rfl) ?_
  refine va_get (D := D) (ci := 8) (v := .ref (a 1)) (C := RX8) (T := TX8) (N := 44) hx hb hts inX8 hown hK hP 0 rfl rfl 0 (by decide) (hts _ tw_973) (fun _ h9 => h9) rfl dX8_isDoor_4 ?_
  refine lv_iload_n hx hb dX8_isDoor_7 rfl (lv_at hl 1 rfl) ?_
  refine va_iald hx hb hK hP 1 1 rfl rfl (vp_in_nI (by omega) (by decide)) dX8_isDoor_8 ?_
  refine lv_ti (y := (nI (dn sn))) (by rw [nI_clamp (by omega)]; rfl) ?_
  refine lv_iconst (v := 1) hx hb dX8_isDoor_9 (by decide) ?_
  refine lv_isub hx hb dX8_isDoor_10 ?_
  refine lv_topi (fun x_1 ex_1 => ?_)
  refine lv_i2l (v := x_1.toInt64) hx hb dX8_isDoor_11 rfl ?_
  refine ro_i (D := D) (va_runS (As := [.long (pz.toInt64), .long ((0 : Int32).toInt64), .long (x_1.toInt64)]) (rest := []) ⟨hx, hb, hml, hown, hts⟩ ((k_in l D k st lo pz (0 : Int32) x_1) s.heap.size) (va_cwS 3 hts (gS tw_1111 tw_1112 tw_87 tw_1113) rfl rfl rfl (by decide +kernel) ⟨Nat.le_of_ble_eq_true rfl, Nat.le_of_ble_eq_true rfl⟩) (pS hS hAlo hlo hP hK hDL hZ [] (by decide) rfl) rfl rfl hl.1 rfl (lv_room (Nat.le_of_ble_eq_true rfl)) dX8_isDoor_12 ⟨Nat.le_of_ble_eq_true rfl, Nat.le_of_ble_eq_true rfl⟩) hS hA hP (fun r_2 H locs hw_2 hP hS => ?_)
  try dsimp only at hw_2
  rcases hw_2 with ⟨rfl, hw_2⟩ | ⟨rfl, hw_2⟩
  · exact W.zret (v := 1) (ty := .boolean) hx hb hr rfl (fun t ht hW => ⟨⟨1, (), rfl, .inl ⟨rfl, (by rw [ex_1] at hw_2; obtain ⟨j, hj, e⟩ := inB_of1 (by omega) hw_2; exact ⟨j, hj, e, trivial⟩)⟩, trivial⟩, hS.F ht⟩) hS.2.2 dX8_isDoor_15
  · exact W.zret (v := 0) (ty := .boolean) hx hb hr rfl (fun t ht hW => ⟨⟨0, (), rfl, .inr ⟨rfl, fun j e hj => hw_2 (by rw [e, ex_1]; exact in0n hj (by omega))⟩, trivial⟩, hS.F ht⟩) hS.2.2 dX8_isDoor_15


set_option maxHeartbeats 4000000 in
set_option maxRecDepth 100000 in
theorem n_told (l : Launch) (D : va_G) (k : Nat → ClassId) (st : Nat → Nat) (lo : Nat) (a : Nat → Nat) (tx : Nat) (t0 : Nat) (we : Nat) (rd : Nat) (ru : Nat) (rw : Nat) (ca : Nat) (fp : Int32) (wd : Int64) (nu : Int32) (na : Int32) (ts : Int32) (df : Int32) (db : Int32) (sd : Int32) (dn : Nat → Nat) (se : Nat → Nat) (tm : Nat → Nat) (gs : Nat → Int32) (ffrees : Nat → Int32) (fprices : Nat → Int32) (p0 : Int32) (p1 : Int32) (hdn : ∀ j, dn j ≤ 24) : CRi l D k st lo yX8_told cX8_told 3 (some .int) ({ frames := 2, cells := 0, slots := 0, locals := 46 }) [.ref (a 0), .int p0, .int p1] [((a 0), .inr (8, (fX8 a (nI tx) fp (nI t0) wd (nI we) nu na (nI rd) ts (nI ru) (nI rw) (nI ca) df db sd))), (aI k (a 1) 3 (nF dn)), (aI k (a 4) 27 (sg se tm gs)), (aI k (a 2) 72 ffrees), (aI k (a 3) 72 fprices)] (fun r => toP (sdM dn (sg se tm gs) ffrees fprices) p0 p1 r) := by
  intro sz
  refine Met.ofW (cc := cX8_told) (maxL := 3) (ret := (some .int)) (by decide) rfl ?_
  intro p e s m args below meth c s₁ B hml hv
  obtain ⟨rfl, hsz, hlo, hP, hK, hDL, hZ⟩ := hv
  have hx := B.exec
  have hb := B.bytes
  have hr := B.returns
  have hts := WS_ts B.pre
  have hown : s.vm.findClass RX8 = some m.cls := findClass_of_methodNamed B.named
  have hlocks := B.notSynchronized
  subst hsz
  have hA : ∀ q : Nat, s.heap.size ≤ q → (fun q : Nat => s.heap.size ≤ q) q := fun _ h => h
  have hAlo : ∀ q : Nat, (fun q : Nat => s.heap.size ≤ q) q → lo ≤ q := fun q h => Nat.le_trans hlo h
  have hS : va_S (fun q : Nat => s.heap.size ≤ q) s.heap s.heap [] := va_S.rf
  have hl := lv_entry ([.ref (a 0), .int p0, .int p1]) (n := 3) (Nat.le_of_ble_eq_true rfl)
  rw [lg_entry_eq]
  generalize (lg_sl ([.ref (a 0), .int p0, .int p1]) ++ List.replicate (3 - (lg_sl ([.ref (a 0), .int p0, .int p1])).length) Slot.unset).toArray = ls at hl ⊢
  have hl : lv_has ls 3 [(0, .ref (a 0)), (1, .int p0), (2, .int p1)] := hl
  refine lv_aload_n hx hb dX8_told_0 rfl (lv_at hl 0 rfl) ?_
  refine lv_iload_n hx hb dX8_told_1 rfl (lv_at hl 1 rfl) ?_
  refine ro_i (D := D) (va_runV (As := [.int p0]) (rest := []) ⟨hx, hb, hml, hown, hts⟩ ((n_isStreet l D k st lo a tx t0 we rd ru rw ca fp wd nu na ts df db sd dn p0 hdn) s.heap.size) (cwV 1 hts (gV tw_1189 tw_1191 tw_38 tw_87 tw_1192) rfl rfl rfl (by decide +kernel) ⟨Nat.le_of_ble_eq_true rfl, Nat.le_of_ble_eq_true rfl⟩) (pV hS hAlo hlo hP hK hDL hZ [0, 1] (by decide) rfl (ci := 8) (q := (RX8, TX8, 44)) (q0 := 0) rfl rfl) rfl rfl hl.1 rfl (lv_room (Nat.le_of_ble_eq_true rfl)) dX8_told_2 ⟨Nat.le_of_ble_eq_true rfl, Nat.le_of_ble_eq_true rfl⟩) hS hA hP (fun r_1 H locs hw_1 hP hS => ?_)
  try dsimp only at hw_1
  rcases hw_1 with ⟨rfl, j_2, hj_2, rfl, hw_1⟩ | ⟨rfl, hw_1⟩
  · have hdj_2 := hdn j_2
    refine lv_if_ne (tgt := 12) hx hb dX8_told_5 (by decide) (fun _ => ?_) (fun h => absurd h (by decide))
    refine lv_iload_n hx hb dX8_told_12 rfl (lv_at hl 2 rfl) ?_
    refine lv_if_ne (tgt := 25) hx hb dX8_told_13 (by decide) (fun c_3 => ?_) (fun c_3 => ?_)
    · refine lv_iload_n hx hb dX8_told_25 rfl (lv_at hl 2 rfl) ?_
      refine lv_i2l (v := p1.toInt64) hx hb dX8_told_26 rfl ?_
      refine lv_lconst (v := (1 : Int32).toInt64) hx hb dX8_told_27 (by decide) ?_
      refine lv_ldc2 hx hb hown (hts _ tw_1193) dX8_told_28 ?_
      refine lv_tl (y := ((9 : Int32).toInt64)) (by decide) ?_
      refine ro_i (D := D) (va_runS (As := [.long (p1.toInt64), .long ((1 : Int32).toInt64), .long ((9 : Int32).toInt64)]) (rest := []) ⟨hx, hb, hml, hown, hts⟩ ((k_in l D k st lo p1 (1 : Int32) (9 : Int32)) H.size) (va_cwS 3 hts (gS tw_1111 tw_1112 tw_87 tw_1113) rfl rfl rfl (by decide +kernel) ⟨Nat.le_of_ble_eq_true rfl, Nat.le_of_ble_eq_true rfl⟩) (pS hS hAlo hlo hP hK hDL hZ [] (by decide) rfl) rfl rfl hl.1 rfl (lv_room (Nat.le_of_ble_eq_true rfl)) dX8_told_31 ⟨Nat.le_of_ble_eq_true rfl, Nat.le_of_ble_eq_true rfl⟩) hS hA hP (fun r_4 H locs hw_4 hP hS => ?_)
      try dsimp only at hw_4
      rcases hw_4 with ⟨rfl, hw_4⟩ | ⟨rfl, hw_4⟩
      · refine lv_if_eq (tgt := 48) hx hb dX8_told_34 (by decide) (fun h => absurd h (by decide)) (fun _ => ?_)
        obtain ⟨wn_9, hwa_9, hwb_9, rfl⟩ := inB_ofc (a := 1) (b := 9) (by omega) (by omega) hw_4
        refine lv_aload_n hx hb dX8_told_37 rfl (lv_at hl 0 rfl) ?_
        refine lv_iload_n hx hb dX8_told_38 rfl (lv_at hl 1 rfl) ?_
        refine lv_iload_n hx hb dX8_told_39 rfl (lv_at hl 2 rfl) ?_
        refine lv_iconst (v := 1) hx hb dX8_told_40 (by decide) ?_
        refine lv_isub hx hb dX8_told_41 ?_
        refine lv_ti (y := (nI (wn_9 - 1))) (pk_sub (a := wn_9) (b := 1) (by omega)) ?_
        refine ro_i (D := D) (va_runV (As := [.int (nI j_2), .int (nI (wn_9 - 1))]) (rest := []) ⟨hx, hb, hml, hown, hts⟩ ((m_of l D k st lo a tx t0 we rd ru rw ca fp wd nu na ts df db sd se tm gs j_2 (wn_9 - 1) (by first | assumption | omega) (by first | assumption | omega)) H.size) (cwV 2 hts (gV tw_1194 tw_1196 tw_39 tw_87 tw_1197) rfl rfl rfl (by decide +kernel) ⟨Nat.le_of_ble_eq_true rfl, Nat.le_of_ble_eq_true rfl⟩) (pV hS hAlo hlo hP hK hDL hZ [0, 2] (by decide) rfl (ci := 8) (q := (RX8, TX8, 44)) (q0 := 0) rfl rfl) rfl rfl hl.1 rfl (lv_room (Nat.le_of_ble_eq_true rfl)) dX8_told_42 ⟨Nat.le_of_ble_eq_true rfl, Nat.le_of_ble_eq_true rfl⟩) hS hA hP (fun r_5 H locs hw_5 hP hS => ?_)
        try dsimp only at hw_5
        refine lv_goto (tgt := 51) hx hb dX8_told_45 (by decide) ?_
        exact W.iret (v := r_5) hx hb hr (fun t ht hW => ⟨⟨r_5, (), rfl, to_at (s := j_2) (by omega) (show 0 < dn j_2 by omega) (by rw [hw_5]; exact toMk (by omega) (by omega)), trivial⟩, hS.F ht⟩) hS.2.2 dX8_told_51
      · refine lv_if_eq (tgt := 48) hx hb dX8_told_34 (by decide) (fun _ => ?_) (fun h => absurd (by decide) h)
        refine lv_sipush (v := (-1002)) hx hb dX8_told_48 (by decide) ?_
        exact W.iret (v := (-1002)) hx hb hr (fun t ht hW => ⟨⟨(-1002), (), rfl, to_at (s := j_2) (by omega) (show 0 < dn j_2 by omega) (toMo c_3 hw_4), trivial⟩, hS.F ht⟩) hS.2.2 dX8_told_51
    · refine lv_aload_n hx hb dX8_told_16 rfl (lv_at hl 0 rfl) ?_
      refine va_get (D := D) (ci := 8) (v := .ref (a 1)) (C := RX8) (T := TX8) (N := 44) hx hb hts inX8 hown hK hP 0 rfl rfl 0 (by decide) (hts _ tw_973) (fun _ h9 => h9) rfl dX8_told_17 ?_
      refine lv_iload_n hx hb dX8_told_20 rfl (lv_at hl 1 rfl) ?_
      refine va_iald hx hb hK hP 1 1 rfl rfl (vp_in_nI (by omega) (by decide)) dX8_told_21 ?_
      refine lv_ti (y := (nI (dn j_2))) (by rw [nI_clamp (by omega)]; rfl) ?_
      refine lv_goto (tgt := 51) hx hb dX8_told_22 (by decide) ?_
      exact W.iret (v := (nI (dn j_2))) hx hb hr (fun t ht hW => ⟨⟨(nI (dn j_2)), (), rfl, to_at (s := j_2) (by omega) (show 0 < dn j_2 by omega) (toM0 c_3), trivial⟩, hS.F ht⟩) hS.2.2 dX8_told_51
  · refine lv_if_ne (tgt := 12) hx hb dX8_told_5 (by decide) (fun h => absurd (by decide) h) (fun _ => ?_)
    refine lv_sipush (v := (-1001)) hx hb dX8_told_8 (by decide) ?_
    exact W.iret (v := (-1001)) hx hb hr (fun t ht hW => ⟨⟨(-1001), (), rfl, to_no (fun s h1 h2 h3 => hw_1 s h1 h2 h3), trivial⟩, hS.F ht⟩) hS.2.2 dX8_told_11


set_option maxHeartbeats 4000000 in
set_option maxRecDepth 100000 in
theorem n_door (l : Launch) (D : va_G) (k : Nat → ClassId) (st : Nat → Nat) (lo : Nat) (a : Nat → Nat) (tx : Nat) (t0 : Nat) (we : Nat) (rd : Nat) (ru : Nat) (rw : Nat) (ca : Nat) (fp : Int32) (wd : Int64) (nu : Int32) (na : Int32) (ts : Int32) (df : Int32) (db : Int32) (sd : Int32) (dn : Nat → Nat) (se : Nat → Nat) (tm : Nat → Nat) (gs : Nat → Int32) (ffrees : Nat → Int32) (fprices : Nat → Int32) (p0 : Int32) (p1 : Int32) (p2 : Int32) (hdn : ∀ j, dn j ≤ 24) (hse : ∀ j, se j ≤ 2) (htm : ∀ j, tm j ≤ 3) : CRi l D k st lo yX8_door cX8_door 4 (some .int) ({ frames := 2, cells := 0, slots := 0, locals := 47 }) [.ref (a 0), .int p0, .int p1, .int p2] [((a 0), .inr (8, (fX8 a (nI tx) fp (nI t0) wd (nI we) nu na (nI rd) ts (nI ru) (nI rw) (nI ca) df db sd))), (aI k (a 1) 3 (nF dn)), (aI k (a 4) 27 (sg se tm gs)), (aI k (a 2) 72 ffrees), (aI k (a 3) 72 fprices)] (fun r => doP (sdM dn (sg se tm gs) ffrees fprices) p0 p1 p2 r) := by
  intro sz
  refine Met.ofW (cc := cX8_door) (maxL := 4) (ret := (some .int)) (by decide) rfl ?_
  intro p e s m args below meth c s₁ B hml hv
  obtain ⟨rfl, hsz, hlo, hP, hK, hDL, hZ⟩ := hv
  have hx := B.exec
  have hb := B.bytes
  have hr := B.returns
  have hts := WS_ts B.pre
  have hown : s.vm.findClass RX8 = some m.cls := findClass_of_methodNamed B.named
  have hlocks := B.notSynchronized
  subst hsz
  have hA : ∀ q : Nat, s.heap.size ≤ q → (fun q : Nat => s.heap.size ≤ q) q := fun _ h => h
  have hAlo : ∀ q : Nat, (fun q : Nat => s.heap.size ≤ q) q → lo ≤ q := fun q h => Nat.le_trans hlo h
  have hS : va_S (fun q : Nat => s.heap.size ≤ q) s.heap s.heap [] := va_S.rf
  have hl := lv_entry ([.ref (a 0), .int p0, .int p1, .int p2]) (n := 4) (Nat.le_of_ble_eq_true rfl)
  rw [lg_entry_eq]
  generalize (lg_sl ([.ref (a 0), .int p0, .int p1, .int p2]) ++ List.replicate (4 - (lg_sl ([.ref (a 0), .int p0, .int p1, .int p2])).length) Slot.unset).toArray = ls at hl ⊢
  have hl : lv_has ls 4 [(0, .ref (a 0)), (1, .int p0), (2, .int p1), (3, .int p2)] := hl
  refine lv_aload_n hx hb dX8_door_0 rfl (lv_at hl 0 rfl) ?_
  refine lv_iload_n hx hb dX8_door_1 rfl (lv_at hl 1 rfl) ?_
  refine ro_i (D := D) (va_runV (As := [.int p0]) (rest := []) ⟨hx, hb, hml, hown, hts⟩ ((n_isStreet l D k st lo a tx t0 we rd ru rw ca fp wd nu na ts df db sd dn p0 hdn) s.heap.size) (cwV 1 hts (gV tw_1189 tw_1191 tw_38 tw_87 tw_1192) rfl rfl rfl (by decide +kernel) ⟨Nat.le_of_ble_eq_true rfl, Nat.le_of_ble_eq_true rfl⟩) (pV hS hAlo hlo hP hK hDL hZ [0, 1] (by decide) rfl (ci := 8) (q := (RX8, TX8, 44)) (q0 := 0) rfl rfl) rfl rfl hl.1 rfl (lv_room (Nat.le_of_ble_eq_true rfl)) dX8_door_2 ⟨Nat.le_of_ble_eq_true rfl, Nat.le_of_ble_eq_true rfl⟩) hS hA hP (fun r_1 H locs hw_1 hP hS => ?_)
  try dsimp only at hw_1
  rcases hw_1 with ⟨rfl, j_2, hj_2, rfl, hw_1⟩ | ⟨rfl, hw_1⟩
  · have hdj_2 := hdn j_2
    have htj_2 := htm j_2
    refine lv_if_eq (tgt := 17) hx hb dX8_door_5 (by decide) (fun h => absurd h (by decide)) (fun _ => ?_)
    refine lv_aload_n hx hb dX8_door_8 rfl (lv_at hl 0 rfl) ?_
    refine lv_iload_n hx hb dX8_door_9 rfl (lv_at hl 1 rfl) ?_
    refine lv_iload_n hx hb dX8_door_10 rfl (lv_at hl 2 rfl) ?_
    refine ro_i (D := D) (va_runV (As := [.int (nI j_2), .int p1]) (rest := []) ⟨hx, hb, hml, hown, hts⟩ ((n_isDoor l D k st lo a tx t0 we rd ru rw ca fp wd nu na ts df db sd dn j_2 p1 hdn (by first | assumption | omega)) H.size) (cwV 2 hts (gV tw_1202 tw_1204 tw_40 tw_87 tw_1205) rfl rfl rfl (by decide +kernel) ⟨Nat.le_of_ble_eq_true rfl, Nat.le_of_ble_eq_true rfl⟩) (pV hS hAlo hlo hP hK hDL hZ [0, 1] (by decide) rfl (ci := 8) (q := (RX8, TX8, 44)) (q0 := 0) rfl rfl) rfl rfl hl.1 rfl (lv_room (Nat.le_of_ble_eq_true rfl)) dX8_door_11 ⟨Nat.le_of_ble_eq_true rfl, Nat.le_of_ble_eq_true rfl⟩) hS hA hP (fun r_3 H locs hw_3 hP hS => ?_)
    try dsimp only at hw_3
    rcases hw_3 with ⟨rfl, j_4, hj_4, rfl, hw_3⟩ | ⟨rfl, hw_3⟩
    · refine lv_if_ne (tgt := 21) hx hb dX8_door_14 (by decide) (fun _ => ?_) (fun h => absurd h (by decide))
      refine lv_iload_n hx hb dX8_door_21 rfl (lv_at hl 3 rfl) ?_
      refine lv_if_ne (tgt := 39) hx hb dX8_door_22 (by decide) (fun c_5 => ?_) (fun c_5 => ?_)
      · refine lv_iload_n hx hb dX8_door_39 rfl (lv_at hl 3 rfl) ?_
        refine lv_iconst (v := 1) hx hb dX8_door_40 (by decide) ?_
        refine lv_icmp_ne (tgt := 58) hx hb dX8_door_41 (by decide) (fun c_6 => ?_) (fun c_6 => ?_)
        · refine lv_sipush (v := (-1002)) hx hb dX8_door_58 (by decide) ?_
          exact W.iret (v := (-1002)) hx hb hr (fun t ht hW => ⟨⟨(-1002), (), rfl, do_at (s := j_2) (by omega) (show dn j_2 ≤ 24 by omega) (show j_4 < dn j_2 by omega) (doFo c_5 c_6), trivial⟩, hS.F ht⟩) hS.2.2 dX8_door_61
        · refine lv_aload_n hx hb dX8_door_44 rfl (lv_at hl 0 rfl) ?_
          refine va_get (D := D) (ci := 8) (v := .ref (a 3)) (C := RX8) (T := TX8) (N := 44) hx hb hts inX8 hown hK hP 0 rfl rfl 2 (by decide) (hts _ tw_975) (fun _ h9 => h9) rfl dX8_door_45 ?_
          refine lv_bipush (v := 24) hx hb dX8_door_48 (by decide) ?_
          refine lv_iload_n hx hb dX8_door_50 rfl (lv_at hl 1 rfl) ?_
          refine lv_imul hx hb dX8_door_51 ?_
          refine lv_ti (y := (nI (24 * j_2))) (pk_mul 24 j_2) ?_
          refine lv_iload_n hx hb dX8_door_52 rfl (lv_at hl 2 rfl) ?_
          refine lv_iadd hx hb dX8_door_53 ?_
          refine lv_ti (y := (nI (24 * j_2 + j_4))) (nI_add (24 * j_2) j_4) ?_
          refine va_iald hx hb hK hP 4 1 rfl rfl (vp_in_nI (by omega) (by decide)) dX8_door_54 ?_
          refine lv_ti (y := (fprices (24 * j_2 + j_4))) (by rw [nI_clamp (by omega)]) ?_
          refine lv_goto (tgt := 61) hx hb dX8_door_55 (by decide) ?_
          exact W.iret (v := (fprices (24 * j_2 + j_4))) hx hb hr (fun t ht hW => ⟨⟨(fprices (24 * j_2 + j_4)), (), rfl, do_at (s := j_2) (by omega) (show dn j_2 ≤ 24 by omega) (show j_4 < dn j_2 by omega) (doF1 (g := fun i => fprices (24 * j_2 + i)) (by omega) c_6), trivial⟩, hS.F ht⟩) hS.2.2 dX8_door_61
      · refine lv_aload_n hx hb dX8_door_25 rfl (lv_at hl 0 rfl) ?_
        refine va_get (D := D) (ci := 8) (v := .ref (a 2)) (C := RX8) (T := TX8) (N := 44) hx hb hts inX8 hown hK hP 0 rfl rfl 1 (by decide) (hts _ tw_974) (fun _ h9 => h9) rfl dX8_door_26 ?_
        refine lv_bipush (v := 24) hx hb dX8_door_29 (by decide) ?_
        refine lv_iload_n hx hb dX8_door_31 rfl (lv_at hl 1 rfl) ?_
        refine lv_imul hx hb dX8_door_32 ?_
        refine lv_ti (y := (nI (24 * j_2))) (pk_mul 24 j_2) ?_
        refine lv_iload_n hx hb dX8_door_33 rfl (lv_at hl 2 rfl) ?_
        refine lv_iadd hx hb dX8_door_34 ?_
        refine lv_ti (y := (nI (24 * j_2 + j_4))) (nI_add (24 * j_2) j_4) ?_
        refine va_iald hx hb hK hP 3 1 rfl rfl (vp_in_nI (by omega) (by decide)) dX8_door_35 ?_
        refine lv_ti (y := (ffrees (24 * j_2 + j_4))) (by rw [nI_clamp (by omega)]) ?_
        refine lv_goto (tgt := 61) hx hb dX8_door_36 (by decide) ?_
        exact W.iret (v := (ffrees (24 * j_2 + j_4))) hx hb hr (fun t ht hW => ⟨⟨(ffrees (24 * j_2 + j_4)), (), rfl, do_at (s := j_2) (by omega) (show dn j_2 ≤ 24 by omega) (show j_4 < dn j_2 by omega) (doF0 (f := fun i => ffrees (24 * j_2 + i)) (by omega) c_5), trivial⟩, hS.F ht⟩) hS.2.2 dX8_door_61
    · refine lv_if_ne (tgt := 21) hx hb dX8_door_14 (by decide) (fun h => absurd (by decide) h) (fun _ => ?_)
      refine lv_sipush (v := (-1001)) hx hb dX8_door_17 (by decide) ?_
      exact W.iret (v := (-1001)) hx hb hr (fun t ht hW => ⟨⟨(-1001), (), rfl, do_no (fun s h1 h2 i h3 h4 => by have h9 := nI_inj (by omega) (by omega) h2; subst h9; exact hw_3 i h3 h4), trivial⟩, hS.F ht⟩) hS.2.2 dX8_door_20
  · refine lv_if_eq (tgt := 17) hx hb dX8_door_5 (by decide) (fun _ => ?_) (fun h => absurd (by decide) h)
    refine lv_sipush (v := (-1001)) hx hb dX8_door_17 (by decide) ?_
    exact W.iret (v := (-1001)) hx hb hr (fun t ht hW => ⟨⟨(-1001), (), rfl, do_no (fun s h1 h2 i h3 h4 => hw_1 s h1 h2 (by show 0 < dn s; replace h4 : i < dn s := h4; omega)), trivial⟩, hS.F ht⟩) hS.2.2 dX8_door_20


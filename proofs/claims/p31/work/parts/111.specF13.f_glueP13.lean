theorem f_glueP13 : True := trivial
theorem hty_of {f g : Nat → Int32} (h : bF f = g) : ∀ j, 0 ≤ g j := by
  intro j
  rw [← h]
  show (0 : Int32) ≤ f j &&& 255
  obtain ⟨z, hz, e⟩ := and255 (f j)
  rw [e]
  exact nI_ge0 (by omega)
theorem d3_n {a b c : SDt} (s : Nat) : (d3 a b c s).1 = d3 a.1 b.1 c.1 s := by
  match s with
  | 0 => rfl
  | 1 => rfl
  | s + 2 => rfl
/-! told -/
def toA (d : SDt) (p1 r : Int32) : Prop := (p1 = 0 → r = nI d.1) ∧ (∀ k, 1 ≤ k → k ≤ 9 → p1 = nI k → r = d.2.1 k) ∧ (¬ inB p1 0 9 → r = -1002)
def toP (sd : Nat → SDt) (p0 p1 r : Int32) : Prop := ((∀ s, s < 3 → p0 = nI s → ¬ 0 < (sd s).1) → r = -1001) ∧ ∀ s, s < 3 → p0 = nI s → 0 < (sd s).1 → toA (sd s) p1 r
theorem in09 {k : Nat} (h : k ≤ 9) : inB (nI k) 0 9 := ⟨nI_ge0 (by omega), (nI_leI (a := k) (b := 9) (by omega) (by omega)).mpr h⟩
theorem toA_fun {d : SDt} {p1 r q : Int32} (h : toA d p1 r) (g : toA d p1 q) : r = q := by
  rcases Classical.em (inB p1 0 9) with hi | hi
  · obtain ⟨k, h1, h2, e⟩ := inB_ofc (a := 0) (b := 9) (by omega) (by omega) hi
    rcases Nat.eq_zero_or_pos k with hk | hk
    · subst hk
      exact (h.1 e).trans (g.1 e).symm
    · exact (h.2.1 k hk h2 e).trans (g.2.1 k hk h2 e).symm
  · exact (h.2.2 hi).trans (g.2.2 hi).symm
theorem toP_fun {sd se : Nat → SDt} {p0 p1 r q : Int32} (h : toP sd p0 p1 r) (g : toP se p0 p1 q) (e : ∀ i, i < 3 → sd i = se i) : r = q := by
  rcases Classical.em (∃ s, s < 3 ∧ p0 = nI s ∧ 0 < (sd s).1) with ⟨s, h1, h2, h3⟩ | hn
  · have a := h.2 s h1 h2 h3
    have b := g.2 s h1 h2 (by rw [← e s h1]; exact h3)
    rw [← e s h1] at b
    exact toA_fun a b
  · have a := h.1 (fun s h1 h2 h3 => hn ⟨s, h1, h2, h3⟩)
    have b := g.1 (fun s h1 h2 h3 => hn ⟨s, h1, h2, by rw [e s h1]; exact h3⟩)
    exact a.trans b.symm
theorem to_no {sd : Nat → SDt} {p0 p1 : Int32} (h : ∀ s, s < 3 → p0 = nI s → ¬ 0 < (sd s).1) : toP sd p0 p1 (-1001) := ⟨fun _ => rfl, fun s h1 h2 h3 => absurd h3 (h s h1 h2)⟩
theorem to_at {sd : Nat → SDt} {s : Nat} {p1 r : Int32} (hs : s < 3) (hp : 0 < (sd s).1) (h : toA (sd s) p1 r) : toP sd (nI s) p1 r := by
  refine ⟨fun q => absurd hp (q s hs rfl), fun t h1 h2 _ => ?_⟩
  have := nI_inj (by omega) (by omega) h2
  subst this
  exact h
theorem toXk {n see tm k : Nat} {g ff fp : Nat → Int32} (h : k ≤ 9) : toA (sdX n see tm g ff fp) (nI k) (vv n see tm g k) := by
  refine ⟨fun e => ?_, fun q h1 h2 e => ?_, fun z => absurd (in09 h) z⟩
  · have h0 : k = 0 := nI_inj (by omega) (by omega) e
    subst h0
    rfl
  · have h0 : k = q := nI_inj (by omega) (by omega) e
    subst h0
    show vv n see tm g k = (if 1 ≤ k ∧ k ≤ 9 then vv n see tm g k else 0)
    rw [if_pos ⟨h1, h2⟩]
theorem toO {d : SDt} {p1 : Int32} (h : ¬ inB p1 0 9) : toA d p1 (-1002) := ⟨fun e => absurd (by rw [e]; exact ⟨by decide, by decide⟩) h, fun k _ h2 e => absurd (by rw [e]; exact in09 h2) h, fun _ => rfl⟩
theorem toM0 {dn : Nat → Nat} {f ff fp : Nat → Int32} {s : Nat} {p1 : Int32} (h : p1 = 0) : toA (sdM dn f ff fp s) p1 (nI (dn s)) := by
  refine ⟨fun _ => rfl, fun k h1 h2 e => ?_, fun z => absurd (by rw [h]; exact ⟨by decide, by decide⟩) z⟩
  have h0 : 0 = k := nI_inj (by omega) (by omega) ((show (nI 0) = p1 from h.symm).trans e)
  omega
theorem toMk {dn : Nat → Nat} {f ff fp : Nat → Int32} {s k : Nat} (h1 : 1 ≤ k) (h2 : k ≤ 9) : toA (sdM dn f ff fp s) (nI k) (f (9 * s + (k - 1))) := by
  refine ⟨fun e => ?_, fun q h3 h4 e => ?_, fun z => absurd (in09 h2) z⟩
  · have h0 : k = 0 := nI_inj (by omega) (by omega) e
    omega
  · have h0 : k = q := nI_inj (by omega) (by omega) e
    subst h0
    show f (9 * s + (k - 1)) = (if 1 ≤ k ∧ k ≤ 9 then f (9 * s + (k - 1)) else 0)
    rw [if_pos ⟨h1, h2⟩]
theorem toMo {d : SDt} {p1 : Int32} (h0 : ¬ p1 = 0) (h : ¬ inB p1 1 9) : toA d p1 (-1002) := by
  refine ⟨fun e => absurd e h0, fun k h1 h2 e => absurd ?_ h, fun _ => rfl⟩
  rw [e]
  exact ⟨(nI_leI (a := 1) (b := k) (by omega) (by omega)).mpr h1, (nI_leI (a := k) (b := 9) (by omega) (by omega)).mpr h2⟩
/-! door -/
def doA (d : SDt) (i : Nat) (p2 r : Int32) : Prop := (p2 = 0 → r = d.2.2.1 i) ∧ (p2 = 1 → r = d.2.2.2 i) ∧ (¬ p2 = 0 → ¬ p2 = 1 → r = -1002)
def doP (sd : Nat → SDt) (p0 p1 p2 r : Int32) : Prop := ((∀ s, s < 3 → p0 = nI s → ∀ i, p1 = nI i → ¬ i < (sd s).1) → r = -1001) ∧ ∀ s, s < 3 → p0 = nI s → ∀ i, p1 = nI i → i < (sd s).1 → doA (sd s) i p2 r
theorem doA_fun {d : SDt} {i : Nat} {p2 r q : Int32} (h : doA d i p2 r) (g : doA d i p2 q) : r = q := by
  rcases Classical.em (p2 = 0) with e | e
  · exact (h.1 e).trans (g.1 e).symm
  · rcases Classical.em (p2 = 1) with e1 | e1
    · exact (h.2.1 e1).trans (g.2.1 e1).symm
    · exact (h.2.2 e e1).trans (g.2.2 e e1).symm
theorem doP_fun {sd se : Nat → SDt} {p0 p1 p2 r q : Int32} (h : doP sd p0 p1 p2 r) (g : doP se p0 p1 p2 q) (e : ∀ i, i < 3 → sd i = se i) : r = q := by
  rcases Classical.em (∃ s i, s < 3 ∧ p0 = nI s ∧ p1 = nI i ∧ i < (sd s).1) with ⟨s, i, h1, h2, h3, h4⟩ | hn
  · have a := h.2 s h1 h2 i h3 h4
    have b := g.2 s h1 h2 i h3 (by rw [← e s h1]; exact h4)
    rw [← e s h1] at b
    exact doA_fun a b
  · have a := h.1 (fun s h1 h2 i h3 h4 => hn ⟨s, i, h1, h2, h3, h4⟩)
    have b := g.1 (fun s h1 h2 i h3 h4 => hn ⟨s, i, h1, h2, h3, by rw [e s h1]; exact h4⟩)
    exact a.trans b.symm
theorem do_no {sd : Nat → SDt} {p0 p1 p2 : Int32} (h : ∀ s, s < 3 → p0 = nI s → ∀ i, p1 = nI i → ¬ i < (sd s).1) : doP sd p0 p1 p2 (-1001) := ⟨fun _ => rfl, fun s h1 h2 i h3 h4 => absurd h4 (h s h1 h2 i h3)⟩
theorem do_at {sd : Nat → SDt} {s i : Nat} {p2 r : Int32} (hs : s < 3) (hb : (sd s).1 ≤ 24) (hi : i < (sd s).1) (h : doA (sd s) i p2 r) : doP sd (nI s) (nI i) p2 r := by
  refine ⟨fun q => absurd hi (q s hs rfl i rfl), fun t h1 h2 j h3 h4 => ?_⟩
  have := nI_inj (by omega) (by omega) h2
  subst this
  have := nI_inj (by omega) (by omega) h3
  subst this
  exact h
theorem doF0 {n : Nat} {a : Nat → Int32} {f g : Nat → Int32} {i : Nat} {p2 : Int32} (hi : i < n) (h : p2 = 0) : doA (n, a, clp n f, clp n g) i p2 (f i) := by
  refine ⟨fun _ => ?_, fun e => absurd (h.symm.trans e) (by decide), fun e => absurd h e⟩
  show f i = (if i < n then f i else 0)
  rw [if_pos hi]
theorem doF1 {n : Nat} {a : Nat → Int32} {f g : Nat → Int32} {i : Nat} {p2 : Int32} (hi : i < n) (h : p2 = 1) : doA (n, a, clp n f, clp n g) i p2 (g i) := by
  refine ⟨fun e => absurd (e.symm.trans h) (by decide), fun _ => ?_, fun _ e => absurd h e⟩
  show g i = (if i < n then g i else 0)
  rw [if_pos hi]
theorem doFo {d : SDt} {i : Nat} {p2 : Int32} (h0 : ¬ p2 = 0) (h1 : ¬ p2 = 1) : doA d i p2 (-1002) := ⟨fun e => absurd e h0, fun e => absurd e h1, fun _ _ => rfl⟩
theorem not01 {x : Int32} (h : ¬ inB x 0 1) : ¬ x = 0 ∧ ¬ x = 1 := ⟨fun e => h (by rw [e]; exact ⟨by decide, by decide⟩), fun e => h (by rw [e]; exact ⟨by decide, by decide⟩)⟩
theorem is01 {x : Int32} (h : inB x 0 1) (h0 : ¬ x = 0) : x = 1 := by
  obtain ⟨j, h1, h2, e⟩ := inB_ofc (a := 0) (b := 1) (by omega) (by omega) h
  rcases (show j = 0 ∨ j = 1 by omega) with rfl | rfl
  · exact absurd e h0
  · exact e
theorem bF_0 : bF (fun _ => 0) = fun _ => 0 := by
  funext j
  show (0 : Int32) &&& 255 = 0
  decide
theorem sd_0x {f : Nat → Int32} : sdX 0 0 0 (fun _ => 0) f f = (0, (fun _ => 0), (fun _ => 0), (fun _ => 0)) := by
  have e1 : nG (vv 0 0 0 (fun _ => 0)) = fun _ => 0 := by
    funext j
    unfold nG vv
    repeat' split
    all_goals rfl
  show (0, nG (vv 0 0 0 (fun _ => 0)), clp 0 f, clp 0 f) = _
  rw [e1, clp_0]
theorem sd_0m {s : Nat} {f : Nat → Int32} : sdM (fun _ => 0) (sg (fun _ => 0) (fun _ => 0) (fun _ => 0)) f f s = (0, (fun _ => 0), (fun _ => 0), (fun _ => 0)) := by
  have e0 : ∀ j, sg (fun _ => 0) (fun _ => 0) (fun _ => 0) j = 0 := by
    intro j
    unfold sg
    repeat' split
    all_goals rfl
  have e1 : nG (fun j => sg (fun _ => 0) (fun _ => 0) (fun _ => 0) (9 * s + (j - 1))) = fun _ => 0 := by
    funext j
    unfold nG
    split
    · exact e0 _
    · rfl
  show (0, nG (fun j => sg (fun _ => 0) (fun _ => 0) (fun _ => 0) (9 * s + (j - 1))), clp 0 (fun i => f (24 * s + i)), clp 0 (fun i => f (24 * s + i))) = _
  rw [e1, clp_0]
theorem sd_0 : ∀ i, i < 3 → d3 (sdX 0 0 0 (fun _ => 0) (fun _ => 0) (fun _ => 0)) (sdX 0 0 0 (fun _ => 0) (fun _ => 0) (fun _ => 0)) (sdX 0 0 0 (fun _ => 0) (fun _ => 0) (fun _ => 0)) i = sdM (fun _ => 0) (sg (fun _ => 0) (fun _ => 0) (fun _ => 0)) (fun _ => 0) (fun _ => 0) i := by
  intro i hi
  rw [sd_0m, sd_0x]
  match i with
  | 0 => rfl
  | 1 => rfl
  | i + 2 => rfl
theorem in02 {s : Nat} (h : s < 3) : inB (nI s) 0 2 := ⟨nI_ge0 (by omega), (nI_leI (a := s) (b := 2) (by omega) (by omega)).mpr (by omega)⟩
theorem in0n {d j : Nat} (hj : j < d) (hd : d ≤ 24) : inB (nI j) 0 (nI d - 1) := by
  refine ⟨nI_ge0 (by omega), ?_⟩
  show nI j ≤ nI d - nI 1
  rw [pk_sub (by omega)]
  exact (nI_leI (by omega) (by omega)).mpr (by omega)
theorem nge3 {s : Nat} (h : s < 3) : ¬ (3 : Int32) ≤ nI s := fun q => absurd ((nI_leI (a := 3) (b := s) (by omega) (by omega)).mp q) (by omega)


set_option maxHeartbeats 4000000 in
set_option maxRecDepth 100000 in
theorem y_fault (l : Launch) (D : va_G) (k : Nat → ClassId) (st : Nat → Nat) (lo : Nat) (a : Nat → Nat) (rk : Nat) (lfa : Int32)  : CRi l D k st lo yX7_fault cX7_fault 1 (some .int) ({ frames := 0, cells := 0, slots := 0, locals := 0 }) [.ref (a 0)] [((a 0), .inr (7, (fX7 (a 1) (a 3) (a 19) (a 35) (a 40) (nI rk) lfa (a 53) (a 56) (a 63) (a 64) (a 68))))] (fun r => r = lfa) := by
  intro sz
  refine Met.ofW (cc := cX7_fault) (maxL := 1) (ret := (some .int)) (by decide) rfl ?_
  intro p e s m args below meth c s₁ B hml hv
  obtain ⟨rfl, hsz, hlo, hP, hK, hDL, hZ⟩ := hv
  have hx := B.exec
  have hb := B.bytes
  have hr := B.returns
  have hts := WS_ts B.pre
  have hown : s.vm.findClass RX7 = some m.cls := findClass_of_methodNamed B.named
  have hlocks := B.notSynchronized
  subst hsz
  have hA : ∀ q : Nat, s.heap.size ≤ q → (fun q : Nat => s.heap.size ≤ q) q := fun _ h => h
  have hAlo : ∀ q : Nat, (fun q : Nat => s.heap.size ≤ q) q → lo ≤ q := fun q h => Nat.le_trans hlo h
  have hS : va_S (fun q : Nat => s.heap.size ≤ q) s.heap s.heap [] := va_S.rf
  have hl := lv_entry ([.ref (a 0)]) (n := 1) (Nat.le_of_ble_eq_true rfl)
  rw [lg_entry_eq]
  generalize (lg_sl ([.ref (a 0)]) ++ List.replicate (1 - (lg_sl ([.ref (a 0)])).length) Slot.unset).toArray = ls at hl ⊢
  have hl : lv_has ls 1 [(0, .ref (a 0))] := hl
  refine lv_aload_n hx hb dX7_fault_0 rfl (lv_at hl 0 rfl) ?_
  refine va_get (D := D) (ci := 7) (v := .int lfa) (C := RX7) (T := TX7) (N := 12) hx hb hts inX7 hown hK hP 0 rfl rfl 6 (by decide) (hts _ tw_311) (fun _ h9 => h9) rfl dX7_fault_1 ?_
  exact W.iret (v := lfa) hx hb hr (fun t ht hW => ⟨⟨lfa, (), rfl, rfl, trivial⟩, hS.F ht⟩) hS.2.2 dX7_fault_4


set_option maxHeartbeats 4000000 in
set_option maxRecDepth 100000 in
theorem n_fault (l : Launch) (D : va_G) (k : Nat → ClassId) (st : Nat → Nat) (lo : Nat) (a : Nat → Nat) (tx : Nat) (t0 : Nat) (we : Nat) (rd : Nat) (ru : Nat) (rw : Nat) (ca : Nat) (fp : Int32) (wd : Int64) (nu : Int32) (na : Int32) (ts : Int32) (df : Int32) (db : Int32) (sd : Int32)  : CRi l D k st lo yX8_fault cX8_fault 1 (some .int) ({ frames := 0, cells := 0, slots := 0, locals := 0 }) [.ref (a 0)] [((a 0), .inr (8, (fX8 a (nI tx) fp (nI t0) wd (nI we) nu na (nI rd) ts (nI ru) (nI rw) (nI ca) df db sd)))] (fun r => r = fp) := by
  intro sz
  refine Met.ofW (cc := cX8_fault) (maxL := 1) (ret := (some .int)) (by decide) rfl ?_
  intro p e s m args below meth c s₁ B hml hv
  obtain ⟨rfl, hsz, hlo, hP, hK, hDL, hZ⟩ := hv
  have hx := B.exec
  have hb := B.bytes
  have hr := B.returns
  have hts := WS_ts B.pre
  have hown : s.vm.findClass RX8 = some m.cls := findClass_of_methodNamed B.named
  have hlocks := B.notSynchronized
  subst hsz
  have hA : ∀ q : Nat, s.heap.size ≤ q → (fun q : Nat => s.heap.size ≤ q) q := fun _ h => h
  have hAlo : ∀ q : Nat, (fun q : Nat => s.heap.size ≤ q) q → lo ≤ q := fun q h => Nat.le_trans hlo h
  have hS : va_S (fun q : Nat => s.heap.size ≤ q) s.heap s.heap [] := va_S.rf
  have hl := lv_entry ([.ref (a 0)]) (n := 1) (Nat.le_of_ble_eq_true rfl)
  rw [lg_entry_eq]
  generalize (lg_sl ([.ref (a 0)]) ++ List.replicate (1 - (lg_sl ([.ref (a 0)])).length) Slot.unset).toArray = ls at hl ⊢
  have hl : lv_has ls 1 [(0, .ref (a 0))] := hl
  refine lv_aload_n hx hb dX8_fault_0 rfl (lv_at hl 0 rfl) ?_
  refine va_get (D := D) (ci := 8) (v := .int fp) (C := RX8) (T := TX8) (N := 44) hx hb hts inX8 hown hK hP 0 rfl rfl 6 (by decide) (hts _ tw_979) (fun _ h9 => h9) rfl dX8_fault_1 ?_
  exact W.iret (v := fp) hx hb hr (fun t ht hW => ⟨⟨fp, (), rfl, rfl, trivial⟩, hS.F ht⟩) hS.2.2 dX8_fault_4


set_option maxHeartbeats 4000000 in
set_option maxRecDepth 100000 in
theorem y_isStreet (l : Launch) (D : va_G) (k : Nat → ClassId) (st : Nat → Nat) (lo : Nat) (a : Nat → Nat) (rk : Nat) (lfa : Int32) (n0 : Nat) (see0 : Nat) (tm0 : Nat) (g0 : Nat → Int32) (n1 : Nat) (see1 : Nat) (tm1 : Nat) (g1 : Nat → Int32) (n2 : Nat) (see2 : Nat) (tm2 : Nat) (g2 : Nat → Int32) (pz : Int32) (hn0 : n0 ≤ 24) (hn1 : n1 ≤ 24) (hn2 : n2 ≤ 24) : CRi l D k st lo yX7_isStreet cX7_isStreet 2 (some .boolean) ({ frames := 1, cells := 0, slots := 0, locals := 20 }) [.ref (a 0), .int pz] [((a 0), .inr (7, (fX7 (a 1) (a 3) (a 19) (a 35) (a 40) (nI rk) lfa (a 53) (a 56) (a 63) (a 64) (a 68)))), ((a 3), .inl (k 3, 3, .inr (.inr (.inr (.inr (a3 (a 4) (a 9) (a 14))))))), ((a 4), .inr (5, (fX5 (a 5) (a 6) (a 7) (a 8)))), (aI k (a 5) 10 (vv n0 see0 tm0 g0)), ((a 9), .inr (5, (fX5 (a 10) (a 11) (a 12) (a 13)))), (aI k (a 10) 10 (vv n1 see1 tm1 g1)), ((a 14), .inr (5, (fX5 (a 15) (a 16) (a 17) (a 18)))), (aI k (a 15) 10 (vv n2 see2 tm2 g2))] (fun r => (r = 1 ∧ ((pz = 0 ∧ 0 < n0) ∨ (pz = 1 ∧ 0 < n1) ∨ (pz = 2 ∧ 0 < n2))) ∨ (r = 0 ∧ ∀ s, s < 3 → pz = nI s → ¬ 0 < d3 n0 n1 n2 s)) := by
  intro sz
  refine Met.ofW (cc := cX7_isStreet) (maxL := 2) (ret := (some .boolean)) (by decide) rfl ?_
  intro p e s m args below meth c s₁ B hml hv
  obtain ⟨rfl, hsz, hlo, hP, hK, hDL, hZ⟩ := hv
  have hx := B.exec
  have hb := B.bytes
  have hr := B.returns
  have hts := WS_ts B.pre
  have hown : s.vm.findClass RX7 = some m.cls := findClass_of_methodNamed B.named
  have hlocks := B.notSynchronized
  subst hsz
  have hA : ∀ q : Nat, s.heap.size ≤ q → (fun q : Nat => s.heap.size ≤ q) q := fun _ h => h
  have hAlo : ∀ q : Nat, (fun q : Nat => s.heap.size ≤ q) q → lo ≤ q := fun q h => Nat.le_trans hlo h
  have hS : va_S (fun q : Nat => s.heap.size ≤ q) s.heap s.heap [] := va_S.rf
  have hl := lv_entry ([.ref (a 0), .int pz]) (n := 2) (Nat.le_of_ble_eq_true rfl)
  rw [lg_entry_eq]
  generalize (lg_sl ([.ref (a 0), .int pz]) ++ List.replicate (2 - (lg_sl ([.ref (a 0), .int pz])).length) Slot.unset).toArray = ls at hl ⊢
  have hl : lv_has ls 2 [(0, .ref (a 0)), (1, .int pz)] := hl
  refine lv_iload_n hx hb dX7_isStreet_0 rfl (lv_at hl 1 rfl) ?_
  refine lv_if_lt (tgt := 25) hx hb dX7_isStreet_1 (by decide) (fun c_1 => ?_) (fun c_1 => ?_)
  · refine lv_iconst (v := 0) hx hb dX7_isStreet_25 (by decide) ?_
    exact W.zret (v := 0) (ty := .boolean) hx hb hr rfl (fun t ht hW => ⟨⟨0, (), rfl, .inr ⟨rfl, fun s h1 h2 _ => absurd c_1 (by rw [h2]; exact Int32.not_lt.mpr (nI_ge0 (by omega)))⟩, trivial⟩, hS.F ht⟩) hS.2.2 dX7_isStreet_26
  · refine lv_iload_n hx hb dX7_isStreet_4 rfl (lv_at hl 1 rfl) ?_
    refine lv_iconst (v := 3) hx hb dX7_isStreet_5 (by decide) ?_
    refine lv_icmp_ge (tgt := 25) hx hb dX7_isStreet_6 (by decide) (fun c_2 => ?_) (fun c_2 => ?_)
    · refine lv_iconst (v := 0) hx hb dX7_isStreet_25 (by decide) ?_
      exact W.zret (v := 0) (ty := .boolean) hx hb hr rfl (fun t ht hW => ⟨⟨0, (), rfl, .inr ⟨rfl, fun s h1 h2 _ => absurd c_2 (by rw [h2]; exact nge3 h1)⟩, trivial⟩, hS.F ht⟩) hS.2.2 dX7_isStreet_26
    · rcases xspl3 c_1 c_2 with rfl | rfl | rfl
      · refine lv_aload_n hx hb dX7_isStreet_9 rfl (lv_at hl 0 rfl) ?_
        refine va_get (D := D) (ci := 7) (v := .ref (a 3)) (C := RX7) (T := TX7) (N := 12) hx hb hts inX7 hown hK hP 0 rfl rfl 1 (by decide) (hts _ tw_306) (fun _ h9 => h9) rfl dX7_isStreet_10 ?_
        refine lv_iload_n hx hb dX7_isStreet_13 rfl (lv_at hl 1 rfl) ?_
        refine va_aldq hx hb hK hP 1 3 rfl rfl (by unfold vp_in; decide) dX7_isStreet_14 ?_
        refine lv_tr (y := .ref (a 4)) rfl ?_
        refine ro_i (D := D) (va_runV (As := []) (rest := []) ⟨hx, hb, hml, hown, hts⟩ ((x_doors l D k st lo (a 4) (a 5) (a 6) (a 7) (a 8) n0 see0 tm0 g0) s.heap.size) (cwV 0 hts (gV tw_580 tw_478 tw_479 tw_81 tw_480) rfl rfl rfl (by decide +kernel) ⟨Nat.le_of_ble_eq_true rfl, Nat.le_of_ble_eq_true rfl⟩) (pV hS hAlo hlo hP hK hDL hZ [2, 3] (by decide) rfl (ci := 5) (q := (RX5, TX5, 4)) (q0 := 0) rfl rfl) rfl rfl hl.1 rfl (lv_room (Nat.le_of_ble_eq_true rfl)) dX7_isStreet_15 ⟨Nat.le_of_ble_eq_true rfl, Nat.le_of_ble_eq_true rfl⟩) hS hA hP (fun r_3 H locs hw_3 hP hS => ?_)
        try dsimp only at hw_3
        subst hw_3
        refine lv_if_le (tgt := 25) hx hb dX7_isStreet_18 (by decide) (fun c_4 => ?_) (fun c_4 => ?_)
        · have c_4 := (nI_leI (a := n0) (b := 0) (by omega) (by omega)).mp c_4
          refine lv_iconst (v := 0) hx hb dX7_isStreet_25 (by decide) ?_
          exact W.zret (v := 0) (ty := .boolean) hx hb hr rfl (fun t ht hW => ⟨⟨0, (), rfl, .inr ⟨rfl, fun s h1 h2 h3 => by have h9 : 0 = s := nI_inj (by omega) (by omega) (show nI 0 = nI s from h2); subst h9; exact absurd h3 (show ¬ 0 < n0 by omega)⟩, trivial⟩, hS.F ht⟩) hS.2.2 dX7_isStreet_26
        · have c_4 : ¬ (n0 ≤ 0) := fun h => c_4 ((nI_leI (a := n0) (b := 0) (by omega) (by omega)).mpr h)
          refine lv_iconst (v := 1) hx hb dX7_isStreet_21 (by decide) ?_
          refine lv_goto (tgt := 26) hx hb dX7_isStreet_22 (by decide) ?_
          exact W.zret (v := 1) (ty := .boolean) hx hb hr rfl (fun t ht hW => ⟨⟨1, (), rfl, .inl ⟨rfl, .inl ⟨rfl, by omega⟩⟩, trivial⟩, hS.F ht⟩) hS.2.2 dX7_isStreet_26
      · refine lv_aload_n hx hb dX7_isStreet_9 rfl (lv_at hl 0 rfl) ?_
        refine va_get (D := D) (ci := 7) (v := .ref (a 3)) (C := RX7) (T := TX7) (N := 12) hx hb hts inX7 hown hK hP 0 rfl rfl 1 (by decide) (hts _ tw_306) (fun _ h9 => h9) rfl dX7_isStreet_10 ?_
        refine lv_iload_n hx hb dX7_isStreet_13 rfl (lv_at hl 1 rfl) ?_
        refine va_aldq hx hb hK hP 1 3 rfl rfl (by unfold vp_in; decide) dX7_isStreet_14 ?_
        refine lv_tr (y := .ref (a 9)) rfl ?_
        refine ro_i (D := D) (va_runV (As := []) (rest := []) ⟨hx, hb, hml, hown, hts⟩ ((x_doors l D k st lo (a 9) (a 10) (a 11) (a 12) (a 13) n1 see1 tm1 g1) s.heap.size) (cwV 0 hts (gV tw_580 tw_478 tw_479 tw_81 tw_480) rfl rfl rfl (by decide +kernel) ⟨Nat.le_of_ble_eq_true rfl, Nat.le_of_ble_eq_true rfl⟩) (pV hS hAlo hlo hP hK hDL hZ [4, 5] (by decide) rfl (ci := 5) (q := (RX5, TX5, 4)) (q0 := 0) rfl rfl) rfl rfl hl.1 rfl (lv_room (Nat.le_of_ble_eq_true rfl)) dX7_isStreet_15 ⟨Nat.le_of_ble_eq_true rfl, Nat.le_of_ble_eq_true rfl⟩) hS hA hP (fun r_5 H locs hw_5 hP hS => ?_)
        try dsimp only at hw_5
        subst hw_5
        refine lv_if_le (tgt := 25) hx hb dX7_isStreet_18 (by decide) (fun c_6 => ?_) (fun c_6 => ?_)
        · have c_6 := (nI_leI (a := n1) (b := 0) (by omega) (by omega)).mp c_6
          refine lv_iconst (v := 0) hx hb dX7_isStreet_25 (by decide) ?_
          exact W.zret (v := 0) (ty := .boolean) hx hb hr rfl (fun t ht hW => ⟨⟨0, (), rfl, .inr ⟨rfl, fun s h1 h2 h3 => by have h9 : 1 = s := nI_inj (by omega) (by omega) (show nI 1 = nI s from h2); subst h9; exact absurd h3 (show ¬ 0 < n1 by omega)⟩, trivial⟩, hS.F ht⟩) hS.2.2 dX7_isStreet_26
        · have c_6 : ¬ (n1 ≤ 0) := fun h => c_6 ((nI_leI (a := n1) (b := 0) (by omega) (by omega)).mpr h)
          refine lv_iconst (v := 1) hx hb dX7_isStreet_21 (by decide) ?_
          refine lv_goto (tgt := 26) hx hb dX7_isStreet_22 (by decide) ?_
          exact W.zret (v := 1) (ty := .boolean) hx hb hr rfl (fun t ht hW => ⟨⟨1, (), rfl, .inl ⟨rfl, .inr (.inl ⟨rfl, by omega⟩)⟩, trivial⟩, hS.F ht⟩) hS.2.2 dX7_isStreet_26
      · refine lv_aload_n hx hb dX7_isStreet_9 rfl (lv_at hl 0 rfl) ?_
        refine va_get (D := D) (ci := 7) (v := .ref (a 3)) (C := RX7) (T := TX7) (N := 12) hx hb hts inX7 hown hK hP 0 rfl rfl 1 (by decide) (hts _ tw_306) (fun _ h9 => h9) rfl dX7_isStreet_10 ?_
        refine lv_iload_n hx hb dX7_isStreet_13 rfl (lv_at hl 1 rfl) ?_
        refine va_aldq hx hb hK hP 1 3 rfl rfl (by unfold vp_in; decide) dX7_isStreet_14 ?_
        refine lv_tr (y := .ref (a 14)) rfl ?_
        refine ro_i (D := D) (va_runV (As := []) (rest := []) ⟨hx, hb, hml, hown, hts⟩ ((x_doors l D k st lo (a 14) (a 15) (a 16) (a 17) (a 18) n2 see2 tm2 g2) s.heap.size) (cwV 0 hts (gV tw_580 tw_478 tw_479 tw_81 tw_480) rfl rfl rfl (by decide +kernel) ⟨Nat.le_of_ble_eq_true rfl, Nat.le_of_ble_eq_true rfl⟩) (pV hS hAlo hlo hP hK hDL hZ [6, 7] (by decide) rfl (ci := 5) (q := (RX5, TX5, 4)) (q0 := 0) rfl rfl) rfl rfl hl.1 rfl (lv_room (Nat.le_of_ble_eq_true rfl)) dX7_isStreet_15 ⟨Nat.le_of_ble_eq_true rfl, Nat.le_of_ble_eq_true rfl⟩) hS hA hP (fun r_7 H locs hw_7 hP hS => ?_)
        try dsimp only at hw_7
        subst hw_7
        refine lv_if_le (tgt := 25) hx hb dX7_isStreet_18 (by decide) (fun c_8 => ?_) (fun c_8 => ?_)
        · have c_8 := (nI_leI (a := n2) (b := 0) (by omega) (by omega)).mp c_8
          refine lv_iconst (v := 0) hx hb dX7_isStreet_25 (by decide) ?_
          exact W.zret (v := 0) (ty := .boolean) hx hb hr rfl (fun t ht hW => ⟨⟨0, (), rfl, .inr ⟨rfl, fun s h1 h2 h3 => by have h9 : 2 = s := nI_inj (by omega) (by omega) (show nI 2 = nI s from h2); subst h9; exact absurd h3 (show ¬ 0 < n2 by omega)⟩, trivial⟩, hS.F ht⟩) hS.2.2 dX7_isStreet_26
        · have c_8 : ¬ (n2 ≤ 0) := fun h => c_8 ((nI_leI (a := n2) (b := 0) (by omega) (by omega)).mpr h)
          refine lv_iconst (v := 1) hx hb dX7_isStreet_21 (by decide) ?_
          refine lv_goto (tgt := 26) hx hb dX7_isStreet_22 (by decide) ?_
          exact W.zret (v := 1) (ty := .boolean) hx hb hr rfl (fun t ht hW => ⟨⟨1, (), rfl, .inl ⟨rfl, .inr (.inr ⟨rfl, by omega⟩)⟩, trivial⟩, hS.F ht⟩) hS.2.2 dX7_isStreet_26


set_option maxHeartbeats 4000000 in
set_option maxRecDepth 100000 in
theorem y_isDoor (l : Launch) (D : va_G) (k : Nat → ClassId) (st : Nat → Nat) (lo : Nat) (a : Nat → Nat) (rk : Nat) (lfa : Int32) (n0 : Nat) (see0 : Nat) (tm0 : Nat) (g0 : Nat → Int32) (n1 : Nat) (see1 : Nat) (tm1 : Nat) (g1 : Nat → Int32) (n2 : Nat) (see2 : Nat) (tm2 : Nat) (g2 : Nat → Int32) (pz : Int32) (p1 : Int32) (hn0 : n0 ≤ 24) (hn1 : n1 ≤ 24) (hn2 : n2 ≤ 24) : CRi l D k st lo yX7_isDoor cX7_isDoor 3 (some .boolean) ({ frames := 2, cells := 0, slots := 0, locals := 41 }) [.ref (a 0), .int pz, .int p1] [((a 0), .inr (7, (fX7 (a 1) (a 3) (a 19) (a 35) (a 40) (nI rk) lfa (a 53) (a 56) (a 63) (a 64) (a 68)))), ((a 3), .inl (k 3, 3, .inr (.inr (.inr (.inr (a3 (a 4) (a 9) (a 14))))))), ((a 4), .inr (5, (fX5 (a 5) (a 6) (a 7) (a 8)))), (aI k (a 5) 10 (vv n0 see0 tm0 g0)), ((a 9), .inr (5, (fX5 (a 10) (a 11) (a 12) (a 13)))), (aI k (a 10) 10 (vv n1 see1 tm1 g1)), ((a 14), .inr (5, (fX5 (a 15) (a 16) (a 17) (a 18)))), (aI k (a 15) 10 (vv n2 see2 tm2 g2))] (fun r => (r = 1 ∧ ((pz = 0 ∧ ∃ i : Nat, i < n0 ∧ p1 = nI i) ∨ (pz = 1 ∧ ∃ i : Nat, i < n1 ∧ p1 = nI i) ∨ (pz = 2 ∧ ∃ i : Nat, i < n2 ∧ p1 = nI i))) ∨ (r = 0 ∧ ∀ s, s < 3 → pz = nI s → ∀ i, p1 = nI i → ¬ i < d3 n0 n1 n2 s)) := by
  intro sz
  refine Met.ofW (cc := cX7_isDoor) (maxL := 3) (ret := (some .boolean)) (by decide) rfl ?_
  intro p e s m args below meth c s₁ B hml hv
  obtain ⟨rfl, hsz, hlo, hP, hK, hDL, hZ⟩ := hv
  have hx := B.exec
  have hb := B.bytes
  have hr := B.returns
  have hts := WS_ts B.pre
  have hown : s.vm.findClass RX7 = some m.cls := findClass_of_methodNamed B.named
  have hlocks := B.notSynchronized
  subst hsz
  have hA : ∀ q : Nat, s.heap.size ≤ q → (fun q : Nat => s.heap.size ≤ q) q := fun _ h => h
  have hAlo : ∀ q : Nat, (fun q : Nat => s.heap.size ≤ q) q → lo ≤ q := fun q h => Nat.le_trans hlo h
  have hS : va_S (fun q : Nat => s.heap.size ≤ q) s.heap s.heap [] := va_S.rf
  have hl := lv_entry ([.ref (a 0), .int pz, .int p1]) (n := 3) (Nat.le_of_ble_eq_true rfl)
  rw [lg_entry_eq]
  generalize (lg_sl ([.ref (a 0), .int pz, .int p1]) ++ List.replicate (3 - (lg_sl ([.ref (a 0), .int pz, .int p1])).length) Slot.unset).toArray = ls at hl ⊢
  have hl : lv_has ls 3 [(0, .ref (a 0)), (1, .int pz), (2, .int p1)] := hl
  refine lv_aload_n hx hb dX7_isDoor_0 rfl (lv_at hl 0 rfl) ?_
  refine lv_iload_n hx hb dX7_isDoor_1 rfl (lv_at hl 1 rfl) ?_
  refine ro_i (D := D) (va_runV (As := [.int pz]) (rest := []) ⟨hx, hb, hml, hown, hts⟩ ((y_isStreet l D k st lo a rk lfa n0 see0 tm0 g0 n1 see1 tm1 g1 n2 see2 tm2 g2 pz (by first | assumption | omega) (by first | assumption | omega) (by first | assumption | omega)) s.heap.size) (cwV 1 hts (gV tw_589 tw_591 tw_8 tw_79 tw_592) rfl rfl rfl (by decide +kernel) ⟨Nat.le_of_ble_eq_true rfl, Nat.le_of_ble_eq_true rfl⟩) (pV hS hAlo hlo hP hK hDL hZ [0, 1, 2, 3, 4, 5, 6, 7] (by decide) rfl (ci := 7) (q := (RX7, TX7, 12)) (q0 := 0) rfl rfl) rfl rfl hl.1 rfl (lv_room (Nat.le_of_ble_eq_true rfl)) dX7_isDoor_2 ⟨Nat.le_of_ble_eq_true rfl, Nat.le_of_ble_eq_true rfl⟩) hS hA hP (fun r_1 H locs hw_1 hP hS => ?_)
  try dsimp only at hw_1
  rcases hw_1 with ⟨rfl, ⟨rfl, hw_1⟩ | ⟨rfl, hw_1⟩ | ⟨rfl, hw_1⟩⟩ | ⟨rfl, hw_1⟩
  · refine lv_if_eq (tgt := 29) hx hb dX7_isDoor_5 (by decide) (fun h => absurd h (by decide)) (fun _ => ?_)
    refine lv_iload_n hx hb dX7_isDoor_8 rfl (lv_at hl 2 rfl) ?_
    refine lv_if_lt (tgt := 29) hx hb dX7_isDoor_9 (by decide) (fun c_2 => ?_) (fun c_2 => ?_)
    · refine lv_iconst (v := 0) hx hb dX7_isDoor_29 (by decide) ?_
      exact W.zret (v := 0) (ty := .boolean) hx hb hr rfl (fun t ht hW => ⟨⟨0, (), rfl, .inr ⟨rfl, fun s h1 h2 i h3 h4 => by have h9 : 0 = s := nI_inj (by omega) (by omega) (show nI 0 = nI s from h2); subst h9; replace h4 : i < n0 := h4; exact absurd c_2 (by rw [h3]; exact Int32.not_lt.mpr (nI_ge0 (by omega)))⟩, trivial⟩, hS.F ht⟩) hS.2.2 dX7_isDoor_30
    · obtain ⟨i_9, hi_9, rfl⟩ := nI_of c_2
      refine lv_iload_n hx hb dX7_isDoor_12 rfl (lv_at hl 2 rfl) ?_
      refine lv_aload_n hx hb dX7_isDoor_13 rfl (lv_at hl 0 rfl) ?_
      refine va_get (D := D) (ci := 7) (v := .ref (a 3)) (C := RX7) (T := TX7) (N := 12) hx hb hts inX7 hown hK hP 0 rfl rfl 1 (by decide) (hts _ tw_306) (fun _ h9 => h9) rfl dX7_isDoor_14 ?_
      refine lv_iload_n hx hb dX7_isDoor_17 rfl (lv_at hl 1 rfl) ?_
      refine va_aldq hx hb hK hP 1 3 rfl rfl (by unfold vp_in; decide) dX7_isDoor_18 ?_
      refine lv_tr (y := .ref (a 4)) rfl ?_
      refine ro_i (D := D) (va_runV (As := []) (rest := [.int (nI i_9)]) ⟨hx, hb, hml, hown, hts⟩ ((x_doors l D k st lo (a 4) (a 5) (a 6) (a 7) (a 8) n0 see0 tm0 g0) H.size) (cwV 0 hts (gV tw_580 tw_478 tw_479 tw_81 tw_480) rfl rfl rfl (by decide +kernel) ⟨Nat.le_of_ble_eq_true rfl, Nat.le_of_ble_eq_true rfl⟩) (pV hS hAlo hlo hP hK hDL hZ [2, 3] (by decide) rfl (ci := 5) (q := (RX5, TX5, 4)) (q0 := 0) rfl rfl) rfl rfl hl.1 rfl (lv_room (Nat.le_of_ble_eq_true rfl)) dX7_isDoor_19 ⟨Nat.le_of_ble_eq_true rfl, Nat.le_of_ble_eq_true rfl⟩) hS hA hP (fun r_3 H locs hw_3 hP hS => ?_)
      try dsimp only at hw_3
      subst hw_3
      refine lv_icmp_ge (tgt := 29) hx hb dX7_isDoor_22 (by decide) (fun c_4 => ?_) (fun c_4 => ?_)
      · have c_4 := (nI_leI (a := n0) (b := i_9) (by omega) (by omega)).mp c_4
        refine lv_iconst (v := 0) hx hb dX7_isDoor_29 (by decide) ?_
        exact W.zret (v := 0) (ty := .boolean) hx hb hr rfl (fun t ht hW => ⟨⟨0, (), rfl, .inr ⟨rfl, fun s h1 h2 i h3 h4 => by have h9 : 0 = s := nI_inj (by omega) (by omega) (show nI 0 = nI s from h2); subst h9; replace h4 : i < n0 := h4; have h8 := nI_inj (by omega) (by omega) h3; omega⟩, trivial⟩, hS.F ht⟩) hS.2.2 dX7_isDoor_30
      · have c_4 : ¬ (n0 ≤ i_9) := fun h => c_4 ((nI_leI (a := n0) (b := i_9) (by omega) (by omega)).mpr h)
        refine lv_iconst (v := 1) hx hb dX7_isDoor_25 (by decide) ?_
        refine lv_goto (tgt := 30) hx hb dX7_isDoor_26 (by decide) ?_
        exact W.zret (v := 1) (ty := .boolean) hx hb hr rfl (fun t ht hW => ⟨⟨1, (), rfl, .inl ⟨rfl, .inl ⟨rfl, i_9, by omega, rfl⟩⟩, trivial⟩, hS.F ht⟩) hS.2.2 dX7_isDoor_30
  · refine lv_if_eq (tgt := 29) hx hb dX7_isDoor_5 (by decide) (fun h => absurd h (by decide)) (fun _ => ?_)
    refine lv_iload_n hx hb dX7_isDoor_8 rfl (lv_at hl 2 rfl) ?_
    refine lv_if_lt (tgt := 29) hx hb dX7_isDoor_9 (by decide) (fun c_5 => ?_) (fun c_5 => ?_)
    · refine lv_iconst (v := 0) hx hb dX7_isDoor_29 (by decide) ?_
      exact W.zret (v := 0) (ty := .boolean) hx hb hr rfl (fun t ht hW => ⟨⟨0, (), rfl, .inr ⟨rfl, fun s h1 h2 i h3 h4 => by have h9 : 1 = s := nI_inj (by omega) (by omega) (show nI 1 = nI s from h2); subst h9; replace h4 : i < n1 := h4; exact absurd c_5 (by rw [h3]; exact Int32.not_lt.mpr (nI_ge0 (by omega)))⟩, trivial⟩, hS.F ht⟩) hS.2.2 dX7_isDoor_30
    · obtain ⟨i_9, hi_9, rfl⟩ := nI_of c_5
      refine lv_iload_n hx hb dX7_isDoor_12 rfl (lv_at hl 2 rfl) ?_
      refine lv_aload_n hx hb dX7_isDoor_13 rfl (lv_at hl 0 rfl) ?_
      refine va_get (D := D) (ci := 7) (v := .ref (a 3)) (C := RX7) (T := TX7) (N := 12) hx hb hts inX7 hown hK hP 0 rfl rfl 1 (by decide) (hts _ tw_306) (fun _ h9 => h9) rfl dX7_isDoor_14 ?_
      refine lv_iload_n hx hb dX7_isDoor_17 rfl (lv_at hl 1 rfl) ?_
      refine va_aldq hx hb hK hP 1 3 rfl rfl (by unfold vp_in; decide) dX7_isDoor_18 ?_
      refine lv_tr (y := .ref (a 9)) rfl ?_
      refine ro_i (D := D) (va_runV (As := []) (rest := [.int (nI i_9)]) ⟨hx, hb, hml, hown, hts⟩ ((x_doors l D k st lo (a 9) (a 10) (a 11) (a 12) (a 13) n1 see1 tm1 g1) H.size) (cwV 0 hts (gV tw_580 tw_478 tw_479 tw_81 tw_480) rfl rfl rfl (by decide +kernel) ⟨Nat.le_of_ble_eq_true rfl, Nat.le_of_ble_eq_true rfl⟩) (pV hS hAlo hlo hP hK hDL hZ [4, 5] (by decide) rfl (ci := 5) (q := (RX5, TX5, 4)) (q0 := 0) rfl rfl) rfl rfl hl.1 rfl (lv_room (Nat.le_of_ble_eq_true rfl)) dX7_isDoor_19 ⟨Nat.le_of_ble_eq_true rfl, Nat.le_of_ble_eq_true rfl⟩) hS hA hP (fun r_6 H locs hw_6 hP hS => ?_)
      try dsimp only at hw_6
      subst hw_6
      refine lv_icmp_ge (tgt := 29) hx hb dX7_isDoor_22 (by decide) (fun c_7 => ?_) (fun c_7 => ?_)
      · have c_7 := (nI_leI (a := n1) (b := i_9) (by omega) (by omega)).mp c_7
        refine lv_iconst (v := 0) hx hb dX7_isDoor_29 (by decide) ?_
        exact W.zret (v := 0) (ty := .boolean) hx hb hr rfl (fun t ht hW => ⟨⟨0, (), rfl, .inr ⟨rfl, fun s h1 h2 i h3 h4 => by have h9 : 1 = s := nI_inj (by omega) (by omega) (show nI 1 = nI s from h2); subst h9; replace h4 : i < n1 := h4; have h8 := nI_inj (by omega) (by omega) h3; omega⟩, trivial⟩, hS.F ht⟩) hS.2.2 dX7_isDoor_30
      · have c_7 : ¬ (n1 ≤ i_9) := fun h => c_7 ((nI_leI (a := n1) (b := i_9) (by omega) (by omega)).mpr h)
        refine lv_iconst (v := 1) hx hb dX7_isDoor_25 (by decide) ?_
        refine lv_goto (tgt := 30) hx hb dX7_isDoor_26 (by decide) ?_
        exact W.zret (v := 1) (ty := .boolean) hx hb hr rfl (fun t ht hW => ⟨⟨1, (), rfl, .inl ⟨rfl, .inr (.inl ⟨rfl, i_9, by omega, rfl⟩)⟩, trivial⟩, hS.F ht⟩) hS.2.2 dX7_isDoor_30
  · refine lv_if_eq (tgt := 29) hx hb dX7_isDoor_5 (by decide) (fun h => absurd h (by decide)) (fun _ => ?_)
    refine lv_iload_n hx hb dX7_isDoor_8 rfl (lv_at hl 2 rfl) ?_
    refine lv_if_lt (tgt := 29) hx hb dX7_isDoor_9 (by decide) (fun c_8 => ?_) (fun c_8 => ?_)
    · refine lv_iconst (v := 0) hx hb dX7_isDoor_29 (by decide) ?_
      exact W.zret (v := 0) (ty := .boolean) hx hb hr rfl (fun t ht hW => ⟨⟨0, (), rfl, .inr ⟨rfl, fun s h1 h2 i h3 h4 => by have h9 : 2 = s := nI_inj (by omega) (by omega) (show nI 2 = nI s from h2); subst h9; replace h4 : i < n2 := h4; exact absurd c_8 (by rw [h3]; exact Int32.not_lt.mpr (nI_ge0 (by omega)))⟩, trivial⟩, hS.F ht⟩) hS.2.2 dX7_isDoor_30
    · obtain ⟨i_9, hi_9, rfl⟩ := nI_of c_8
      refine lv_iload_n hx hb dX7_isDoor_12 rfl (lv_at hl 2 rfl) ?_
      refine lv_aload_n hx hb dX7_isDoor_13 rfl (lv_at hl 0 rfl) ?_
      refine va_get (D := D) (ci := 7) (v := .ref (a 3)) (C := RX7) (T := TX7) (N := 12) hx hb hts inX7 hown hK hP 0 rfl rfl 1 (by decide) (hts _ tw_306) (fun _ h9 => h9) rfl dX7_isDoor_14 ?_
      refine lv_iload_n hx hb dX7_isDoor_17 rfl (lv_at hl 1 rfl) ?_
      refine va_aldq hx hb hK hP 1 3 rfl rfl (by unfold vp_in; decide) dX7_isDoor_18 ?_
      refine lv_tr (y := .ref (a 14)) rfl ?_
      refine ro_i (D := D) (va_runV (As := []) (rest := [.int (nI i_9)]) ⟨hx, hb, hml, hown, hts⟩ ((x_doors l D k st lo (a 14) (a 15) (a 16) (a 17) (a 18) n2 see2 tm2 g2) H.size) (cwV 0 hts (gV tw_580 tw_478 tw_479 tw_81 tw_480) rfl rfl rfl (by decide +kernel) ⟨Nat.le_of_ble_eq_true rfl, Nat.le_of_ble_eq_true rfl⟩) (pV hS hAlo hlo hP hK hDL hZ [6, 7] (by decide) rfl (ci := 5) (q := (RX5, TX5, 4)) (q0 := 0) rfl rfl) rfl rfl hl.1 rfl (lv_room (Nat.le_of_ble_eq_true rfl)) dX7_isDoor_19 ⟨Nat.le_of_ble_eq_true rfl, Nat.le_of_ble_eq_true rfl⟩) hS hA hP (fun r_9 H locs hw_9 hP hS => ?_)
      try dsimp only at hw_9
      subst hw_9
      refine lv_icmp_ge (tgt := 29) hx hb dX7_isDoor_22 (by decide) (fun c_10 => ?_) (fun c_10 => ?_)
      · have c_10 := (nI_leI (a := n2) (b := i_9) (by omega) (by omega)).mp c_10
        refine lv_iconst (v := 0) hx hb dX7_isDoor_29 (by decide) ?_
        exact W.zret (v := 0) (ty := .boolean) hx hb hr rfl (fun t ht hW => ⟨⟨0, (), rfl, .inr ⟨rfl, fun s h1 h2 i h3 h4 => by have h9 : 2 = s := nI_inj (by omega) (by omega) (show nI 2 = nI s from h2); subst h9; replace h4 : i < n2 := h4; have h8 := nI_inj (by omega) (by omega) h3; omega⟩, trivial⟩, hS.F ht⟩) hS.2.2 dX7_isDoor_30
      · have c_10 : ¬ (n2 ≤ i_9) := fun h => c_10 ((nI_leI (a := n2) (b := i_9) (by omega) (by omega)).mpr h)
        refine lv_iconst (v := 1) hx hb dX7_isDoor_25 (by decide) ?_
        refine lv_goto (tgt := 30) hx hb dX7_isDoor_26 (by decide) ?_
        exact W.zret (v := 1) (ty := .boolean) hx hb hr rfl (fun t ht hW => ⟨⟨1, (), rfl, .inl ⟨rfl, .inr (.inr ⟨rfl, i_9, by omega, rfl⟩)⟩, trivial⟩, hS.F ht⟩) hS.2.2 dX7_isDoor_30
  · refine lv_if_eq (tgt := 29) hx hb dX7_isDoor_5 (by decide) (fun _ => ?_) (fun h => absurd (by decide) h)
    refine lv_iconst (v := 0) hx hb dX7_isDoor_29 (by decide) ?_
    exact W.zret (v := 0) (ty := .boolean) hx hb hr rfl (fun t ht hW => ⟨⟨0, (), rfl, .inr ⟨rfl, fun s h1 h2 i _ h4 => hw_1 s h1 h2 (by omega)⟩, trivial⟩, hS.F ht⟩) hS.2.2 dX7_isDoor_30


set_option maxHeartbeats 4000000 in
set_option maxRecDepth 100000 in
theorem y_told (l : Launch) (D : va_G) (k : Nat → ClassId) (st : Nat → Nat) (lo : Nat) (a : Nat → Nat) (rk : Nat) (lfa : Int32) (n0 : Nat) (see0 : Nat) (tm0 : Nat) (g0 : Nat → Int32) (ff0 : Nat → Int32) (fp0 : Nat → Int32) (n1 : Nat) (see1 : Nat) (tm1 : Nat) (g1 : Nat → Int32) (ff1 : Nat → Int32) (fp1 : Nat → Int32) (n2 : Nat) (see2 : Nat) (tm2 : Nat) (g2 : Nat → Int32) (ff2 : Nat → Int32) (fp2 : Nat → Int32) (p0 : Int32) (p1 : Int32) (hn0 : n0 ≤ 24) (hse0 : see0 ≤ 2) (htm0 : tm0 ≤ 3) (hn1 : n1 ≤ 24) (hse1 : see1 ≤ 2) (htm1 : tm1 ≤ 3) (hn2 : n2 ≤ 24) (hse2 : see2 ≤ 2) (htm2 : tm2 ≤ 3) : CRi l D k st lo yX7_told cX7_told 3 (some .int) ({ frames := 2, cells := 0, slots := 0, locals := 41 }) [.ref (a 0), .int p0, .int p1] [((a 0), .inr (7, (fX7 (a 1) (a 3) (a 19) (a 35) (a 40) (nI rk) lfa (a 53) (a 56) (a 63) (a 64) (a 68)))), ((a 3), .inl (k 3, 3, .inr (.inr (.inr (.inr (a3 (a 4) (a 9) (a 14))))))), ((a 4), .inr (5, (fX5 (a 5) (a 6) (a 7) (a 8)))), (aI k (a 5) 10 (vv n0 see0 tm0 g0)), (aI k (a 6) 24 ff0), (aI k (a 7) 24 fp0), ((a 9), .inr (5, (fX5 (a 10) (a 11) (a 12) (a 13)))), (aI k (a 10) 10 (vv n1 see1 tm1 g1)), (aI k (a 11) 24 ff1), (aI k (a 12) 24 fp1), ((a 14), .inr (5, (fX5 (a 15) (a 16) (a 17) (a 18)))), (aI k (a 15) 10 (vv n2 see2 tm2 g2)), (aI k (a 16) 24 ff2), (aI k (a 17) 24 fp2)] (fun r => toP (d3 (sdX n0 see0 tm0 g0 ff0 fp0) (sdX n1 see1 tm1 g1 ff1 fp1) (sdX n2 see2 tm2 g2 ff2 fp2)) p0 p1 r) := by
  intro sz
  refine Met.ofW (cc := cX7_told) (maxL := 3) (ret := (some .int)) (by decide) rfl ?_
  intro p e s m args below meth c s₁ B hml hv
  obtain ⟨rfl, hsz, hlo, hP, hK, hDL, hZ⟩ := hv
  have hx := B.exec
  have hb := B.bytes
  have hr := B.returns
  have hts := WS_ts B.pre
  have hown : s.vm.findClass RX7 = some m.cls := findClass_of_methodNamed B.named
  have hlocks := B.notSynchronized
  subst hsz
  have hA : ∀ q : Nat, s.heap.size ≤ q → (fun q : Nat => s.heap.size ≤ q) q := fun _ h => h
  have hAlo : ∀ q : Nat, (fun q : Nat => s.heap.size ≤ q) q → lo ≤ q := fun q h => Nat.le_trans hlo h
  have hS : va_S (fun q : Nat => s.heap.size ≤ q) s.heap s.heap [] := va_S.rf
  have hl := lv_entry ([.ref (a 0), .int p0, .int p1]) (n := 3) (Nat.le_of_ble_eq_true rfl)
  rw [lg_entry_eq]
  generalize (lg_sl ([.ref (a 0), .int p0, .int p1]) ++ List.replicate (3 - (lg_sl ([.ref (a 0), .int p0, .int p1])).length) Slot.unset).toArray = ls at hl ⊢
  have hl : lv_has ls 3 [(0, .ref (a 0)), (1, .int p0), (2, .int p1)] := hl
  refine lv_aload_n hx hb dX7_told_0 rfl (lv_at hl 0 rfl) ?_
  refine lv_iload_n hx hb dX7_told_1 rfl (lv_at hl 1 rfl) ?_
  refine ro_i (D := D) (va_runV (As := [.int p0]) (rest := []) ⟨hx, hb, hml, hown, hts⟩ ((y_isStreet l D k st lo a rk lfa n0 see0 tm0 g0 n1 see1 tm1 g1 n2 see2 tm2 g2 p0 (by first | assumption | omega) (by first | assumption | omega) (by first | assumption | omega)) s.heap.size) (cwV 1 hts (gV tw_589 tw_591 tw_8 tw_79 tw_592) rfl rfl rfl (by decide +kernel) ⟨Nat.le_of_ble_eq_true rfl, Nat.le_of_ble_eq_true rfl⟩) (pV hS hAlo hlo hP hK hDL hZ [0, 1, 2, 3, 6, 7, 10, 11] (by decide) rfl (ci := 7) (q := (RX7, TX7, 12)) (q0 := 0) rfl rfl) rfl rfl hl.1 rfl (lv_room (Nat.le_of_ble_eq_true rfl)) dX7_told_2 ⟨Nat.le_of_ble_eq_true rfl, Nat.le_of_ble_eq_true rfl⟩) hS hA hP (fun r_1 H locs hw_1 hP hS => ?_)
  try dsimp only at hw_1
  rcases hw_1 with ⟨rfl, ⟨rfl, hw_1⟩ | ⟨rfl, hw_1⟩ | ⟨rfl, hw_1⟩⟩ | ⟨rfl, hw_1⟩
  · refine lv_if_ne (tgt := 12) hx hb dX7_told_5 (by decide) (fun _ => ?_) (fun h => absurd h (by decide))
    refine lv_iload_n hx hb dX7_told_12 rfl (lv_at hl 2 rfl) ?_
    refine lv_iconst (v := 0) hx hb dX7_told_13 (by decide) ?_
    refine lv_bipush (v := 9) hx hb dX7_told_14 (by decide) ?_
    refine ro_i (D := D) (va_runS (As := [.int p1, .int 0, .int 9]) (rest := []) ⟨hx, hb, hml, hown, hts⟩ ((k_isIn l D k st lo p1 0 9) H.size) (va_cwS 3 hts (gS tw_593 tw_594 tw_79 tw_595) rfl rfl rfl (by decide +kernel) ⟨Nat.le_of_ble_eq_true rfl, Nat.le_of_ble_eq_true rfl⟩) (pS hS hAlo hlo hP hK hDL hZ [] (by decide) rfl) rfl rfl hl.1 rfl (lv_room (Nat.le_of_ble_eq_true rfl)) dX7_told_16 ⟨Nat.le_of_ble_eq_true rfl, Nat.le_of_ble_eq_true rfl⟩) hS hA hP (fun r_2 H locs hw_2 hP hS => ?_)
    try dsimp only at hw_2
    rcases hw_2 with ⟨rfl, hw_2⟩ | ⟨rfl, hw_2⟩
    · refine lv_if_eq (tgt := 36) hx hb dX7_told_19 (by decide) (fun h => absurd h (by decide)) (fun _ => ?_)
      obtain ⟨nb_3, hnl_3, hnh_3, rfl⟩ := inB_ofc (a := 0) (b := 9) (by omega) (by omega) hw_2
      refine lv_aload_n hx hb dX7_told_22 rfl (lv_at hl 0 rfl) ?_
      refine va_get (D := D) (ci := 7) (v := .ref (a 3)) (C := RX7) (T := TX7) (N := 12) hx hb hts inX7 hown hK hP 0 rfl rfl 1 (by decide) (hts _ tw_306) (fun _ h9 => h9) rfl dX7_told_23 ?_
      refine lv_iload_n hx hb dX7_told_26 rfl (lv_at hl 1 rfl) ?_
      refine va_aldq hx hb hK hP 1 3 rfl rfl (by unfold vp_in; decide) dX7_told_27 ?_
      refine lv_tr (y := .ref (a 4)) rfl ?_
      refine va_get (D := D) (ci := 5) (v := .ref (a 5)) (C := RX5) (T := TX5) (N := 4) hx hb hts inX5 hown hK hP 2 rfl rfl 0 (by decide) (hts _ tw_149) (fun _ h9 => h9) rfl dX7_told_28 ?_
      refine lv_iload_n hx hb dX7_told_31 rfl (lv_at hl 2 rfl) ?_
      refine va_iald hx hb hK hP 3 1 rfl rfl (vp_in_nI (by omega) (by decide)) dX7_told_32 ?_
      refine lv_ti (y := ((vv n0 see0 tm0 g0) nb_3)) (by rw [nI_clamp (by omega)]) ?_
      refine lv_goto (tgt := 39) hx hb dX7_told_33 (by decide) ?_
      exact W.iret (v := ((vv n0 see0 tm0 g0) nb_3)) hx hb hr (fun t ht hW => ⟨⟨((vv n0 see0 tm0 g0) nb_3), (), rfl, to_at (s := 0) (by omega) (show 0 < n0 by omega) (show toA (sdX n0 see0 tm0 g0 ff0 fp0) _ _ from toXk (by omega)), trivial⟩, hS.F ht⟩) hS.2.2 dX7_told_39
    · refine lv_if_eq (tgt := 36) hx hb dX7_told_19 (by decide) (fun _ => ?_) (fun h => absurd (by decide) h)
      refine lv_sipush (v := (-1002)) hx hb dX7_told_36 (by decide) ?_
      exact W.iret (v := (-1002)) hx hb hr (fun t ht hW => ⟨⟨(-1002), (), rfl, to_at (s := 0) (by omega) (show 0 < n0 by omega) (toO hw_2), trivial⟩, hS.F ht⟩) hS.2.2 dX7_told_39
  · refine lv_if_ne (tgt := 12) hx hb dX7_told_5 (by decide) (fun _ => ?_) (fun h => absurd h (by decide))
    refine lv_iload_n hx hb dX7_told_12 rfl (lv_at hl 2 rfl) ?_
    refine lv_iconst (v := 0) hx hb dX7_told_13 (by decide) ?_
    refine lv_bipush (v := 9) hx hb dX7_told_14 (by decide) ?_
    refine ro_i (D := D) (va_runS (As := [.int p1, .int 0, .int 9]) (rest := []) ⟨hx, hb, hml, hown, hts⟩ ((k_isIn l D k st lo p1 0 9) H.size) (va_cwS 3 hts (gS tw_593 tw_594 tw_79 tw_595) rfl rfl rfl (by decide +kernel) ⟨Nat.le_of_ble_eq_true rfl, Nat.le_of_ble_eq_true rfl⟩) (pS hS hAlo hlo hP hK hDL hZ [] (by decide) rfl) rfl rfl hl.1 rfl (lv_room (Nat.le_of_ble_eq_true rfl)) dX7_told_16 ⟨Nat.le_of_ble_eq_true rfl, Nat.le_of_ble_eq_true rfl⟩) hS hA hP (fun r_4 H locs hw_4 hP hS => ?_)
    try dsimp only at hw_4
    rcases hw_4 with ⟨rfl, hw_4⟩ | ⟨rfl, hw_4⟩
    · refine lv_if_eq (tgt := 36) hx hb dX7_told_19 (by decide) (fun h => absurd h (by decide)) (fun _ => ?_)
      obtain ⟨nb_5, hnl_5, hnh_5, rfl⟩ := inB_ofc (a := 0) (b := 9) (by omega) (by omega) hw_4
      refine lv_aload_n hx hb dX7_told_22 rfl (lv_at hl 0 rfl) ?_
      refine va_get (D := D) (ci := 7) (v := .ref (a 3)) (C := RX7) (T := TX7) (N := 12) hx hb hts inX7 hown hK hP 0 rfl rfl 1 (by decide) (hts _ tw_306) (fun _ h9 => h9) rfl dX7_told_23 ?_
      refine lv_iload_n hx hb dX7_told_26 rfl (lv_at hl 1 rfl) ?_
      refine va_aldq hx hb hK hP 1 3 rfl rfl (by unfold vp_in; decide) dX7_told_27 ?_
      refine lv_tr (y := .ref (a 9)) rfl ?_
      refine va_get (D := D) (ci := 5) (v := .ref (a 10)) (C := RX5) (T := TX5) (N := 4) hx hb hts inX5 hown hK hP 6 rfl rfl 0 (by decide) (hts _ tw_149) (fun _ h9 => h9) rfl dX7_told_28 ?_
      refine lv_iload_n hx hb dX7_told_31 rfl (lv_at hl 2 rfl) ?_
      refine va_iald hx hb hK hP 7 1 rfl rfl (vp_in_nI (by omega) (by decide)) dX7_told_32 ?_
      refine lv_ti (y := ((vv n1 see1 tm1 g1) nb_5)) (by rw [nI_clamp (by omega)]) ?_
      refine lv_goto (tgt := 39) hx hb dX7_told_33 (by decide) ?_
      exact W.iret (v := ((vv n1 see1 tm1 g1) nb_5)) hx hb hr (fun t ht hW => ⟨⟨((vv n1 see1 tm1 g1) nb_5), (), rfl, to_at (s := 1) (by omega) (show 0 < n1 by omega) (show toA (sdX n1 see1 tm1 g1 ff1 fp1) _ _ from toXk (by omega)), trivial⟩, hS.F ht⟩) hS.2.2 dX7_told_39
    · refine lv_if_eq (tgt := 36) hx hb dX7_told_19 (by decide) (fun _ => ?_) (fun h => absurd (by decide) h)
      refine lv_sipush (v := (-1002)) hx hb dX7_told_36 (by decide) ?_
      exact W.iret (v := (-1002)) hx hb hr (fun t ht hW => ⟨⟨(-1002), (), rfl, to_at (s := 1) (by omega) (show 0 < n1 by omega) (toO hw_4), trivial⟩, hS.F ht⟩) hS.2.2 dX7_told_39
  · refine lv_if_ne (tgt := 12) hx hb dX7_told_5 (by decide) (fun _ => ?_) (fun h => absurd h (by decide))
    refine lv_iload_n hx hb dX7_told_12 rfl (lv_at hl 2 rfl) ?_
    refine lv_iconst (v := 0) hx hb dX7_told_13 (by decide) ?_
    refine lv_bipush (v := 9) hx hb dX7_told_14 (by decide) ?_
    refine ro_i (D := D) (va_runS (As := [.int p1, .int 0, .int 9]) (rest := []) ⟨hx, hb, hml, hown, hts⟩ ((k_isIn l D k st lo p1 0 9) H.size) (va_cwS 3 hts (gS tw_593 tw_594 tw_79 tw_595) rfl rfl rfl (by decide +kernel) ⟨Nat.le_of_ble_eq_true rfl, Nat.le_of_ble_eq_true rfl⟩) (pS hS hAlo hlo hP hK hDL hZ [] (by decide) rfl) rfl rfl hl.1 rfl (lv_room (Nat.le_of_ble_eq_true rfl)) dX7_told_16 ⟨Nat.le_of_ble_eq_true rfl, Nat.le_of_ble_eq_true rfl⟩) hS hA hP (fun r_6 H locs hw_6 hP hS => ?_)
    try dsimp only at hw_6
    rcases hw_6 with ⟨rfl, hw_6⟩ | ⟨rfl, hw_6⟩
    · refine lv_if_eq (tgt := 36) hx hb dX7_told_19 (by decide) (fun h => absurd h (by decide)) (fun _ => ?_)
      obtain ⟨nb_7, hnl_7, hnh_7, rfl⟩ := inB_ofc (a := 0) (b := 9) (by omega) (by omega) hw_6
      refine lv_aload_n hx hb dX7_told_22 rfl (lv_at hl 0 rfl) ?_
      refine va_get (D := D) (ci := 7) (v := .ref (a 3)) (C := RX7) (T := TX7) (N := 12) hx hb hts inX7 hown hK hP 0 rfl rfl 1 (by decide) (hts _ tw_306) (fun _ h9 => h9) rfl dX7_told_23 ?_
      refine lv_iload_n hx hb dX7_told_26 rfl (lv_at hl 1 rfl) ?_
      refine va_aldq hx hb hK hP 1 3 rfl rfl (by unfold vp_in; decide) dX7_told_27 ?_
      refine lv_tr (y := .ref (a 14)) rfl ?_
      refine va_get (D := D) (ci := 5) (v := .ref (a 15)) (C := RX5) (T := TX5) (N := 4) hx hb hts inX5 hown hK hP 10 rfl rfl 0 (by decide) (hts _ tw_149) (fun _ h9 => h9) rfl dX7_told_28 ?_
      refine lv_iload_n hx hb dX7_told_31 rfl (lv_at hl 2 rfl) ?_
      refine va_iald hx hb hK hP 11 1 rfl rfl (vp_in_nI (by omega) (by decide)) dX7_told_32 ?_
      refine lv_ti (y := ((vv n2 see2 tm2 g2) nb_7)) (by rw [nI_clamp (by omega)]) ?_
      refine lv_goto (tgt := 39) hx hb dX7_told_33 (by decide) ?_
      exact W.iret (v := ((vv n2 see2 tm2 g2) nb_7)) hx hb hr (fun t ht hW => ⟨⟨((vv n2 see2 tm2 g2) nb_7), (), rfl, to_at (s := 2) (by omega) (show 0 < n2 by omega) (show toA (sdX n2 see2 tm2 g2 ff2 fp2) _ _ from toXk (by omega)), trivial⟩, hS.F ht⟩) hS.2.2 dX7_told_39
    · refine lv_if_eq (tgt := 36) hx hb dX7_told_19 (by decide) (fun _ => ?_) (fun h => absurd (by decide) h)
      refine lv_sipush (v := (-1002)) hx hb dX7_told_36 (by decide) ?_
      exact W.iret (v := (-1002)) hx hb hr (fun t ht hW => ⟨⟨(-1002), (), rfl, to_at (s := 2) (by omega) (show 0 < n2 by omega) (toO hw_6), trivial⟩, hS.F ht⟩) hS.2.2 dX7_told_39
  · refine lv_if_ne (tgt := 12) hx hb dX7_told_5 (by decide) (fun h => absurd (by decide) h) (fun _ => ?_)
    refine lv_sipush (v := (-1001)) hx hb dX7_told_8 (by decide) ?_
    exact W.iret (v := (-1001)) hx hb hr (fun t ht hW => ⟨⟨(-1001), (), rfl, to_no (fun s h1 h2 h3 => hw_1 s h1 h2 (by rw [d3_n] at h3; exact h3)), trivial⟩, hS.F ht⟩) hS.2.2 dX7_told_11


set_option maxHeartbeats 4000000 in
set_option maxRecDepth 100000 in
theorem y_door (l : Launch) (D : va_G) (k : Nat → ClassId) (st : Nat → Nat) (lo : Nat) (a : Nat → Nat) (rk : Nat) (lfa : Int32) (n0 : Nat) (see0 : Nat) (tm0 : Nat) (g0 : Nat → Int32) (ff0 : Nat → Int32) (fp0 : Nat → Int32) (n1 : Nat) (see1 : Nat) (tm1 : Nat) (g1 : Nat → Int32) (ff1 : Nat → Int32) (fp1 : Nat → Int32) (n2 : Nat) (see2 : Nat) (tm2 : Nat) (g2 : Nat → Int32) (ff2 : Nat → Int32) (fp2 : Nat → Int32) (p0 : Int32) (p1 : Int32) (p2 : Int32) (hn0 : n0 ≤ 24) (hse0 : see0 ≤ 2) (htm0 : tm0 ≤ 3) (hn1 : n1 ≤ 24) (hse1 : see1 ≤ 2) (htm1 : tm1 ≤ 3) (hn2 : n2 ≤ 24) (hse2 : see2 ≤ 2) (htm2 : tm2 ≤ 3) : CRi l D k st lo yX7_door cX7_door 4 (some .int) ({ frames := 3, cells := 0, slots := 0, locals := 63 }) [.ref (a 0), .int p0, .int p1, .int p2] [((a 0), .inr (7, (fX7 (a 1) (a 3) (a 19) (a 35) (a 40) (nI rk) lfa (a 53) (a 56) (a 63) (a 64) (a 68)))), ((a 3), .inl (k 3, 3, .inr (.inr (.inr (.inr (a3 (a 4) (a 9) (a 14))))))), ((a 4), .inr (5, (fX5 (a 5) (a 6) (a 7) (a 8)))), (aI k (a 5) 10 (vv n0 see0 tm0 g0)), (aI k (a 6) 24 ff0), (aI k (a 7) 24 fp0), ((a 9), .inr (5, (fX5 (a 10) (a 11) (a 12) (a 13)))), (aI k (a 10) 10 (vv n1 see1 tm1 g1)), (aI k (a 11) 24 ff1), (aI k (a 12) 24 fp1), ((a 14), .inr (5, (fX5 (a 15) (a 16) (a 17) (a 18)))), (aI k (a 15) 10 (vv n2 see2 tm2 g2)), (aI k (a 16) 24 ff2), (aI k (a 17) 24 fp2)] (fun r => doP (d3 (sdX n0 see0 tm0 g0 ff0 fp0) (sdX n1 see1 tm1 g1 ff1 fp1) (sdX n2 see2 tm2 g2 ff2 fp2)) p0 p1 p2 r) := by
  intro sz
  refine Met.ofW (cc := cX7_door) (maxL := 4) (ret := (some .int)) (by decide) rfl ?_
  intro p e s m args below meth c s₁ B hml hv
  obtain ⟨rfl, hsz, hlo, hP, hK, hDL, hZ⟩ := hv
  have hx := B.exec
  have hb := B.bytes
  have hr := B.returns
  have hts := WS_ts B.pre
  have hown : s.vm.findClass RX7 = some m.cls := findClass_of_methodNamed B.named
  have hlocks := B.notSynchronized
  subst hsz
  have hA : ∀ q : Nat, s.heap.size ≤ q → (fun q : Nat => s.heap.size ≤ q) q := fun _ h => h
  have hAlo : ∀ q : Nat, (fun q : Nat => s.heap.size ≤ q) q → lo ≤ q := fun q h => Nat.le_trans hlo h
  have hS : va_S (fun q : Nat => s.heap.size ≤ q) s.heap s.heap [] := va_S.rf
  have hl := lv_entry ([.ref (a 0), .int p0, .int p1, .int p2]) (n := 4) (Nat.le_of_ble_eq_true rfl)
  rw [lg_entry_eq]
  generalize (lg_sl ([.ref (a 0), .int p0, .int p1, .int p2]) ++ List.replicate (4 - (lg_sl ([.ref (a 0), .int p0, .int p1, .int p2])).length) Slot.unset).toArray = ls at hl ⊢
  have hl : lv_has ls 4 [(0, .ref (a 0)), (1, .int p0), (2, .int p1), (3, .int p2)] := hl
  refine lv_aload_n hx hb dX7_door_0 rfl (lv_at hl 0 rfl) ?_
  refine lv_iload_n hx hb dX7_door_1 rfl (lv_at hl 1 rfl) ?_
  refine lv_iload_n hx hb dX7_door_2 rfl (lv_at hl 2 rfl) ?_
  refine ro_i (D := D) (va_runV (As := [.int p0, .int p1]) (rest := []) ⟨hx, hb, hml, hown, hts⟩ ((y_isDoor l D k st lo a rk lfa n0 see0 tm0 g0 n1 see1 tm1 g1 n2 see2 tm2 g2 p0 p1 (by first | assumption | omega) (by first | assumption | omega) (by first | assumption | omega)) s.heap.size) (cwV 2 hts (gV tw_600 tw_602 tw_9 tw_79 tw_603) rfl rfl rfl (by decide +kernel) ⟨Nat.le_of_ble_eq_true rfl, Nat.le_of_ble_eq_true rfl⟩) (pV hS hAlo hlo hP hK hDL hZ [0, 1, 2, 3, 6, 7, 10, 11] (by decide) rfl (ci := 7) (q := (RX7, TX7, 12)) (q0 := 0) rfl rfl) rfl rfl hl.1 rfl (lv_room (Nat.le_of_ble_eq_true rfl)) dX7_door_3 ⟨Nat.le_of_ble_eq_true rfl, Nat.le_of_ble_eq_true rfl⟩) hS hA hP (fun r_1 H locs hw_1 hP hS => ?_)
  try dsimp only at hw_1
  rcases hw_1 with ⟨rfl, ⟨rfl, id_2, hid_2, rfl⟩ | ⟨rfl, id_2, hid_2, rfl⟩ | ⟨rfl, id_2, hid_2, rfl⟩⟩ | ⟨rfl, hw_1⟩
  · refine lv_if_ne (tgt := 13) hx hb dX7_door_6 (by decide) (fun _ => ?_) (fun h => absurd h (by decide))
    refine lv_iload_n hx hb dX7_door_13 rfl (lv_at hl 3 rfl) ?_
    refine lv_iconst (v := 0) hx hb dX7_door_14 (by decide) ?_
    refine lv_iconst (v := 1) hx hb dX7_door_15 (by decide) ?_
    refine ro_i (D := D) (va_runS (As := [.int p2, .int 0, .int 1]) (rest := []) ⟨hx, hb, hml, hown, hts⟩ ((k_isIn l D k st lo p2 0 1) H.size) (va_cwS 3 hts (gS tw_593 tw_594 tw_79 tw_595) rfl rfl rfl (by decide +kernel) ⟨Nat.le_of_ble_eq_true rfl, Nat.le_of_ble_eq_true rfl⟩) (pS hS hAlo hlo hP hK hDL hZ [] (by decide) rfl) rfl rfl hl.1 rfl (lv_room (Nat.le_of_ble_eq_true rfl)) dX7_door_16 ⟨Nat.le_of_ble_eq_true rfl, Nat.le_of_ble_eq_true rfl⟩) hS hA hP (fun r_3 H locs hw_3 hP hS => ?_)
    try dsimp only at hw_3
    rcases hw_3 with ⟨rfl, hw_3⟩ | ⟨rfl, hw_3⟩
    · refine lv_if_ne (tgt := 26) hx hb dX7_door_19 (by decide) (fun _ => ?_) (fun h => absurd h (by decide))
      refine lv_iload_n hx hb dX7_door_26 rfl (lv_at hl 3 rfl) ?_
      refine lv_if_ne (tgt := 44) hx hb dX7_door_27 (by decide) (fun c_4 => ?_) (fun c_4 => ?_)
      · refine lv_aload_n hx hb dX7_door_44 rfl (lv_at hl 0 rfl) ?_
        refine va_get (D := D) (ci := 7) (v := .ref (a 3)) (C := RX7) (T := TX7) (N := 12) hx hb hts inX7 hown hK hP 0 rfl rfl 1 (by decide) (hts _ tw_306) (fun _ h9 => h9) rfl dX7_door_45 ?_
        refine lv_iload_n hx hb dX7_door_48 rfl (lv_at hl 1 rfl) ?_
        refine va_aldq hx hb hK hP 1 3 rfl rfl (by unfold vp_in; decide) dX7_door_49 ?_
        refine lv_tr (y := .ref (a 4)) rfl ?_
        refine va_get (D := D) (ci := 5) (v := .ref (a 7)) (C := RX5) (T := TX5) (N := 4) hx hb hts inX5 hown hK hP 2 rfl rfl 2 (by decide) (hts _ tw_153) (fun _ h9 => h9) rfl dX7_door_50 ?_
        refine lv_iload_n hx hb dX7_door_53 rfl (lv_at hl 2 rfl) ?_
        refine va_iald hx hb hK hP 5 1 rfl rfl (vp_in_nI (by omega) (by decide)) dX7_door_54 ?_
        refine lv_ti (y := (fp0 id_2)) (by rw [nI_clamp (by omega)]) ?_
        exact W.iret (v := (fp0 id_2)) hx hb hr (fun t ht hW => ⟨⟨(fp0 id_2), (), rfl, do_at (s := 0) (by omega) (show n0 ≤ 24 by omega) (show id_2 < n0 by omega) (doF1 (by omega) (is01 hw_3 c_4)), trivial⟩, hS.F ht⟩) hS.2.2 dX7_door_55
      · refine lv_aload_n hx hb dX7_door_30 rfl (lv_at hl 0 rfl) ?_
        refine va_get (D := D) (ci := 7) (v := .ref (a 3)) (C := RX7) (T := TX7) (N := 12) hx hb hts inX7 hown hK hP 0 rfl rfl 1 (by decide) (hts _ tw_306) (fun _ h9 => h9) rfl dX7_door_31 ?_
        refine lv_iload_n hx hb dX7_door_34 rfl (lv_at hl 1 rfl) ?_
        refine va_aldq hx hb hK hP 1 3 rfl rfl (by unfold vp_in; decide) dX7_door_35 ?_
        refine lv_tr (y := .ref (a 4)) rfl ?_
        refine va_get (D := D) (ci := 5) (v := .ref (a 6)) (C := RX5) (T := TX5) (N := 4) hx hb hts inX5 hown hK hP 2 rfl rfl 1 (by decide) (hts _ tw_151) (fun _ h9 => h9) rfl dX7_door_36 ?_
        refine lv_iload_n hx hb dX7_door_39 rfl (lv_at hl 2 rfl) ?_
        refine va_iald hx hb hK hP 4 1 rfl rfl (vp_in_nI (by omega) (by decide)) dX7_door_40 ?_
        refine lv_ti (y := (ff0 id_2)) (by rw [nI_clamp (by omega)]) ?_
        refine lv_goto (tgt := 55) hx hb dX7_door_41 (by decide) ?_
        exact W.iret (v := (ff0 id_2)) hx hb hr (fun t ht hW => ⟨⟨(ff0 id_2), (), rfl, do_at (s := 0) (by omega) (show n0 ≤ 24 by omega) (show id_2 < n0 by omega) (doF0 (by omega) c_4), trivial⟩, hS.F ht⟩) hS.2.2 dX7_door_55
    · refine lv_if_ne (tgt := 26) hx hb dX7_door_19 (by decide) (fun h => absurd (by decide) h) (fun _ => ?_)
      refine lv_sipush (v := (-1002)) hx hb dX7_door_22 (by decide) ?_
      exact W.iret (v := (-1002)) hx hb hr (fun t ht hW => ⟨⟨(-1002), (), rfl, do_at (s := 0) (by omega) (show n0 ≤ 24 by omega) (show id_2 < n0 by omega) (doFo (not01 hw_3).1 (not01 hw_3).2), trivial⟩, hS.F ht⟩) hS.2.2 dX7_door_25
  · refine lv_if_ne (tgt := 13) hx hb dX7_door_6 (by decide) (fun _ => ?_) (fun h => absurd h (by decide))
    refine lv_iload_n hx hb dX7_door_13 rfl (lv_at hl 3 rfl) ?_
    refine lv_iconst (v := 0) hx hb dX7_door_14 (by decide) ?_
    refine lv_iconst (v := 1) hx hb dX7_door_15 (by decide) ?_
    refine ro_i (D := D) (va_runS (As := [.int p2, .int 0, .int 1]) (rest := []) ⟨hx, hb, hml, hown, hts⟩ ((k_isIn l D k st lo p2 0 1) H.size) (va_cwS 3 hts (gS tw_593 tw_594 tw_79 tw_595) rfl rfl rfl (by decide +kernel) ⟨Nat.le_of_ble_eq_true rfl, Nat.le_of_ble_eq_true rfl⟩) (pS hS hAlo hlo hP hK hDL hZ [] (by decide) rfl) rfl rfl hl.1 rfl (lv_room (Nat.le_of_ble_eq_true rfl)) dX7_door_16 ⟨Nat.le_of_ble_eq_true rfl, Nat.le_of_ble_eq_true rfl⟩) hS hA hP (fun r_5 H locs hw_5 hP hS => ?_)
    try dsimp only at hw_5
    rcases hw_5 with ⟨rfl, hw_5⟩ | ⟨rfl, hw_5⟩
    · refine lv_if_ne (tgt := 26) hx hb dX7_door_19 (by decide) (fun _ => ?_) (fun h => absurd h (by decide))
      refine lv_iload_n hx hb dX7_door_26 rfl (lv_at hl 3 rfl) ?_
      refine lv_if_ne (tgt := 44) hx hb dX7_door_27 (by decide) (fun c_6 => ?_) (fun c_6 => ?_)
      · refine lv_aload_n hx hb dX7_door_44 rfl (lv_at hl 0 rfl) ?_
        refine va_get (D := D) (ci := 7) (v := .ref (a 3)) (C := RX7) (T := TX7) (N := 12) hx hb hts inX7 hown hK hP 0 rfl rfl 1 (by decide) (hts _ tw_306) (fun _ h9 => h9) rfl dX7_door_45 ?_
        refine lv_iload_n hx hb dX7_door_48 rfl (lv_at hl 1 rfl) ?_
        refine va_aldq hx hb hK hP 1 3 rfl rfl (by unfold vp_in; decide) dX7_door_49 ?_
        refine lv_tr (y := .ref (a 9)) rfl ?_
        refine va_get (D := D) (ci := 5) (v := .ref (a 12)) (C := RX5) (T := TX5) (N := 4) hx hb hts inX5 hown hK hP 6 rfl rfl 2 (by decide) (hts _ tw_153) (fun _ h9 => h9) rfl dX7_door_50 ?_
        refine lv_iload_n hx hb dX7_door_53 rfl (lv_at hl 2 rfl) ?_
        refine va_iald hx hb hK hP 9 1 rfl rfl (vp_in_nI (by omega) (by decide)) dX7_door_54 ?_
        refine lv_ti (y := (fp1 id_2)) (by rw [nI_clamp (by omega)]) ?_
        exact W.iret (v := (fp1 id_2)) hx hb hr (fun t ht hW => ⟨⟨(fp1 id_2), (), rfl, do_at (s := 1) (by omega) (show n1 ≤ 24 by omega) (show id_2 < n1 by omega) (doF1 (by omega) (is01 hw_5 c_6)), trivial⟩, hS.F ht⟩) hS.2.2 dX7_door_55
      · refine lv_aload_n hx hb dX7_door_30 rfl (lv_at hl 0 rfl) ?_
        refine va_get (D := D) (ci := 7) (v := .ref (a 3)) (C := RX7) (T := TX7) (N := 12) hx hb hts inX7 hown hK hP 0 rfl rfl 1 (by decide) (hts _ tw_306) (fun _ h9 => h9) rfl dX7_door_31 ?_
        refine lv_iload_n hx hb dX7_door_34 rfl (lv_at hl 1 rfl) ?_
        refine va_aldq hx hb hK hP 1 3 rfl rfl (by unfold vp_in; decide) dX7_door_35 ?_
        refine lv_tr (y := .ref (a 9)) rfl ?_
        refine va_get (D := D) (ci := 5) (v := .ref (a 11)) (C := RX5) (T := TX5) (N := 4) hx hb hts inX5 hown hK hP 6 rfl rfl 1 (by decide) (hts _ tw_151) (fun _ h9 => h9) rfl dX7_door_36 ?_
        refine lv_iload_n hx hb dX7_door_39 rfl (lv_at hl 2 rfl) ?_
        refine va_iald hx hb hK hP 8 1 rfl rfl (vp_in_nI (by omega) (by decide)) dX7_door_40 ?_
        refine lv_ti (y := (ff1 id_2)) (by rw [nI_clamp (by omega)]) ?_
        refine lv_goto (tgt := 55) hx hb dX7_door_41 (by decide) ?_
        exact W.iret (v := (ff1 id_2)) hx hb hr (fun t ht hW => ⟨⟨(ff1 id_2), (), rfl, do_at (s := 1) (by omega) (show n1 ≤ 24 by omega) (show id_2 < n1 by omega) (doF0 (by omega) c_6), trivial⟩, hS.F ht⟩) hS.2.2 dX7_door_55
    · refine lv_if_ne (tgt := 26) hx hb dX7_door_19 (by decide) (fun h => absurd (by decide) h) (fun _ => ?_)
      refine lv_sipush (v := (-1002)) hx hb dX7_door_22 (by decide) ?_
      exact W.iret (v := (-1002)) hx hb hr (fun t ht hW => ⟨⟨(-1002), (), rfl, do_at (s := 1) (by omega) (show n1 ≤ 24 by omega) (show id_2 < n1 by omega) (doFo (not01 hw_5).1 (not01 hw_5).2), trivial⟩, hS.F ht⟩) hS.2.2 dX7_door_25
  · refine lv_if_ne (tgt := 13) hx hb dX7_door_6 (by decide) (fun _ => ?_) (fun h => absurd h (by decide))
    refine lv_iload_n hx hb dX7_door_13 rfl (lv_at hl 3 rfl) ?_
    refine lv_iconst (v := 0) hx hb dX7_door_14 (by decide) ?_
    refine lv_iconst (v := 1) hx hb dX7_door_15 (by decide) ?_
    refine ro_i (D := D) (va_runS (As := [.int p2, .int 0, .int 1]) (rest := []) ⟨hx, hb, hml, hown, hts⟩ ((k_isIn l D k st lo p2 0 1) H.size) (va_cwS 3 hts (gS tw_593 tw_594 tw_79 tw_595) rfl rfl rfl (by decide +kernel) ⟨Nat.le_of_ble_eq_true rfl, Nat.le_of_ble_eq_true rfl⟩) (pS hS hAlo hlo hP hK hDL hZ [] (by decide) rfl) rfl rfl hl.1 rfl (lv_room (Nat.le_of_ble_eq_true rfl)) dX7_door_16 ⟨Nat.le_of_ble_eq_true rfl, Nat.le_of_ble_eq_true rfl⟩) hS hA hP (fun r_7 H locs hw_7 hP hS => ?_)
    try dsimp only at hw_7
    rcases hw_7 with ⟨rfl, hw_7⟩ | ⟨rfl, hw_7⟩
    · refine lv_if_ne (tgt := 26) hx hb dX7_door_19 (by decide) (fun _ => ?_) (fun h => absurd h (by decide))
      refine lv_iload_n hx hb dX7_door_26 rfl (lv_at hl 3 rfl) ?_
      refine lv_if_ne (tgt := 44) hx hb dX7_door_27 (by decide) (fun c_8 => ?_) (fun c_8 => ?_)
      · refine lv_aload_n hx hb dX7_door_44 rfl (lv_at hl 0 rfl) ?_
        refine va_get (D := D) (ci := 7) (v := .ref (a 3)) (C := RX7) (T := TX7) (N := 12) hx hb hts inX7 hown hK hP 0 rfl rfl 1 (by decide) (hts _ tw_306) (fun _ h9 => h9) rfl dX7_door_45 ?_
        refine lv_iload_n hx hb dX7_door_48 rfl (lv_at hl 1 rfl) ?_
        refine va_aldq hx hb hK hP 1 3 rfl rfl (by unfold vp_in; decide) dX7_door_49 ?_
        refine lv_tr (y := .ref (a 14)) rfl ?_
        refine va_get (D := D) (ci := 5) (v := .ref (a 17)) (C := RX5) (T := TX5) (N := 4) hx hb hts inX5 hown hK hP 10 rfl rfl 2 (by decide) (hts _ tw_153) (fun _ h9 => h9) rfl dX7_door_50 ?_
        refine lv_iload_n hx hb dX7_door_53 rfl (lv_at hl 2 rfl) ?_
        refine va_iald hx hb hK hP 13 1 rfl rfl (vp_in_nI (by omega) (by decide)) dX7_door_54 ?_
        refine lv_ti (y := (fp2 id_2)) (by rw [nI_clamp (by omega)]) ?_
        exact W.iret (v := (fp2 id_2)) hx hb hr (fun t ht hW => ⟨⟨(fp2 id_2), (), rfl, do_at (s := 2) (by omega) (show n2 ≤ 24 by omega) (show id_2 < n2 by omega) (doF1 (by omega) (is01 hw_7 c_8)), trivial⟩, hS.F ht⟩) hS.2.2 dX7_door_55
      · refine lv_aload_n hx hb dX7_door_30 rfl (lv_at hl 0 rfl) ?_
        refine va_get (D := D) (ci := 7) (v := .ref (a 3)) (C := RX7) (T := TX7) (N := 12) hx hb hts inX7 hown hK hP 0 rfl rfl 1 (by decide) (hts _ tw_306) (fun _ h9 => h9) rfl dX7_door_31 ?_
        refine lv_iload_n hx hb dX7_door_34 rfl (lv_at hl 1 rfl) ?_
        refine va_aldq hx hb hK hP 1 3 rfl rfl (by unfold vp_in; decide) dX7_door_35 ?_
        refine lv_tr (y := .ref (a 14)) rfl ?_
        refine va_get (D := D) (ci := 5) (v := .ref (a 16)) (C := RX5) (T := TX5) (N := 4) hx hb hts inX5 hown hK hP 10 rfl rfl 1 (by decide) (hts _ tw_151) (fun _ h9 => h9) rfl dX7_door_36 ?_
        refine lv_iload_n hx hb dX7_door_39 rfl (lv_at hl 2 rfl) ?_
        refine va_iald hx hb hK hP 12 1 rfl rfl (vp_in_nI (by omega) (by decide)) dX7_door_40 ?_
        refine lv_ti (y := (ff2 id_2)) (by rw [nI_clamp (by omega)]) ?_
        refine lv_goto (tgt := 55) hx hb dX7_door_41 (by decide) ?_
        exact W.iret (v := (ff2 id_2)) hx hb hr (fun t ht hW => ⟨⟨(ff2 id_2), (), rfl, do_at (s := 2) (by omega) (show n2 ≤ 24 by omega) (show id_2 < n2 by omega) (doF0 (by omega) c_8), trivial⟩, hS.F ht⟩) hS.2.2 dX7_door_55
    · refine lv_if_ne (tgt := 26) hx hb dX7_door_19 (by decide) (fun h => absurd (by decide) h) (fun _ => ?_)
      refine lv_sipush (v := (-1002)) hx hb dX7_door_22 (by decide) ?_
      exact W.iret (v := (-1002)) hx hb hr (fun t ht hW => ⟨⟨(-1002), (), rfl, do_at (s := 2) (by omega) (show n2 ≤ 24 by omega) (show id_2 < n2 by omega) (doFo (not01 hw_7).1 (not01 hw_7).2), trivial⟩, hS.F ht⟩) hS.2.2 dX7_door_25
  · refine lv_if_ne (tgt := 13) hx hb dX7_door_6 (by decide) (fun h => absurd (by decide) h) (fun _ => ?_)
    refine lv_sipush (v := (-1001)) hx hb dX7_door_9 (by decide) ?_
    exact W.iret (v := (-1001)) hx hb hr (fun t ht hW => ⟨⟨(-1001), (), rfl, do_no (fun s h1 h2 i h3 h4 => hw_1 s h1 h2 i h3 (by rw [d3_n] at h4; exact h4)), trivial⟩, hS.F ht⟩) hS.2.2 dX7_door_12


set_option maxHeartbeats 4000000 in
set_option maxRecDepth 100000 in
theorem n_isStreet (l : Launch) (D : va_G) (k : Nat → ClassId) (st : Nat → Nat) (lo : Nat) (a : Nat → Nat) (tx : Nat) (t0 : Nat) (we : Nat) (rd : Nat) (ru : Nat) (rw : Nat) (ca : Nat) (fp : Int32) (wd : Int64) (nu : Int32) (na : Int32) (ts : Int32) (df : Int32) (db : Int32) (sd : Int32) (dn : Nat → Nat) (pz : Int32) (hdn : ∀ j, dn j ≤ 24) : CRi l D k st lo yX8_isStreet cX8_isStreet 2 (some .boolean) ({ frames := 1, cells := 0, slots := 0, locals := 25 }) [.ref (a 0), .int pz] [((a 0), .inr (8, (fX8 a (nI tx) fp (nI t0) wd (nI we) nu na (nI rd) ts (nI ru) (nI rw) (nI ca) df db sd))), (aI k (a 1) 3 (nF dn))] (fun r => (r = 1 ∧ ∃ j : Nat, j < 3 ∧ pz = nI j ∧ 0 < dn j) ∨ (r = 0 ∧ ∀ s, s < 3 → pz = nI s → ¬ 0 < dn s)) := by
  intro sz
  refine Met.ofW (cc := cX8_isStreet) (maxL := 2) (ret := (some .boolean)) (by decide) rfl ?_
  intro p e s m args below meth c s₁ B hml hv
  obtain ⟨rfl, hsz, hlo, hP, hK, hDL, hZ⟩ := hv
  have hx := B.exec
  have hb := B.bytes
  have hr := B.returns
  have hts := WS_ts B.pre
  have hown : s.vm.findClass RX8 = some m.cls := findClass_of_methodNamed B.named
  have hlocks := B.notSynchronized
  subst hsz
  have hA : ∀ q : Nat, s.heap.size ≤ q → (fun q : Nat => s.heap.size ≤ q) q := fun _ h => h
  have hAlo : ∀ q : Nat, (fun q : Nat => s.heap.size ≤ q) q → lo ≤ q := fun q h => Nat.le_trans hlo h
  have hS : va_S (fun q : Nat => s.heap.size ≤ q) s.heap s.heap [] := va_S.rf
  have hl := lv_entry ([.ref (a 0), .int pz]) (n := 2) (Nat.le_of_ble_eq_true rfl)
  rw [lg_entry_eq]
  generalize (lg_sl ([.ref (a 0), .int pz]) ++ List.replicate (2 - (lg_sl ([.ref (a 0), .int pz])).length) Slot.unset).toArray = ls at hl ⊢
  have hl : lv_has ls 2 [(0, .ref (a 0)), (1, .int pz)] := hl
  refine lv_iload_n hx hb dX8_isStreet_0 rfl (lv_at hl 1 rfl) ?_
  refine lv_i2l (v := pz.toInt64) hx hb dX8_isStreet_1 rfl ?_
  refine lv_lconst (v := (0 : Int32).toInt64) hx hb dX8_isStreet_2 (by decide) ?_
  refine lv_ldc2 hx hb hown (hts _ tw_1119) dX8_isStreet_3 ?_
  refine lv_tl (y := ((2 : Int32).toInt64)) (by decide) ?_
  refine ro_i (D := D) (va_runS (As := [.long (pz.toInt64), .long ((0 : Int32).toInt64), .long ((2 : Int32).toInt64)]) (rest := []) ⟨hx, hb, hml, hown, hts⟩ ((k_in l D k st lo pz (0 : Int32) (2 : Int32)) s.heap.size) (va_cwS 3 hts (gS tw_1111 tw_1112 tw_87 tw_1113) rfl rfl rfl (by decide +kernel) ⟨Nat.le_of_ble_eq_true rfl, Nat.le_of_ble_eq_true rfl⟩) (pS hS hAlo hlo hP hK hDL hZ [] (by decide) rfl) rfl rfl hl.1 rfl (lv_room (Nat.le_of_ble_eq_true rfl)) dX8_isStreet_6 ⟨Nat.le_of_ble_eq_true rfl, Nat.le_of_ble_eq_true rfl⟩) hS hA hP (fun r_1 H locs hw_1 hP hS => ?_)
  try dsimp only at hw_1
  rcases hw_1 with ⟨rfl, hw_1⟩ | ⟨rfl, hw_1⟩
  · refine lv_if_eq (tgt := 25) hx hb dX8_isStreet_9 (by decide) (fun h => absurd h (by decide)) (fun _ => ?_)
    obtain ⟨j_9, -, hj_9, rfl⟩ := inB_ofc (a := 0) (b := 2) (by omega) (by omega) hw_1
    have hd_9 := hdn j_9
    refine lv_aload_n hx hb dX8_isStreet_12 rfl (lv_at hl 0 rfl) ?_
    refine va_get (D := D) (ci := 8) (v := .ref (a 1)) (C := RX8) (T := TX8) (N := 44) hx hb hts inX8 hown hK hP 0 rfl rfl 0 (by decide) (hts _ tw_973) (fun _ h9 => h9) rfl dX8_isStreet_13 ?_
    refine lv_iload_n hx hb dX8_isStreet_16 rfl (lv_at hl 1 rfl) ?_
    refine va_iald hx hb hK hP 1 1 rfl rfl (vp_in_nI (by omega) (by decide)) dX8_isStreet_17 ?_
    refine lv_ti (y := (nI (dn j_9))) (by rw [nI_clamp (by omega)]; rfl) ?_
    refine lv_if_le (tgt := 25) hx hb dX8_isStreet_18 (by decide) (fun c_2 => ?_) (fun c_2 => ?_)
    · have c_2 := (nI_leI (a := (dn j_9)) (b := 0) (by omega) (by omega)).mp c_2
      refine lv_iconst (v := 0) hx hb dX8_isStreet_25 (by decide) ?_
      exact W.zret (v := 0) (ty := .boolean) hx hb hr rfl (fun t ht hW => ⟨⟨0, (), rfl, .inr ⟨rfl, fun s h1 h2 h3 => by have h9 := nI_inj (by omega) (by omega) h2; subst h9; omega⟩, trivial⟩, hS.F ht⟩) hS.2.2 dX8_isStreet_26
    · have c_2 : ¬ ((dn j_9) ≤ 0) := fun h => c_2 ((nI_leI (a := (dn j_9)) (b := 0) (by omega) (by omega)).mpr h)
      refine lv_iconst (v := 1) hx hb dX8_isStreet_21 (by decide) ?_
      refine lv_goto (tgt := 26) hx hb dX8_isStreet_22 (by decide) ?_
      exact W.zret (v := 1) (ty := .boolean) hx hb hr rfl (fun t ht hW => ⟨⟨1, (), rfl, .inl ⟨rfl, j_9, by omega, rfl, by omega⟩, trivial⟩, hS.F ht⟩) hS.2.2 dX8_isStreet_26
  · refine lv_if_eq (tgt := 25) hx hb dX8_isStreet_9 (by decide) (fun _ => ?_) (fun h => absurd (by decide) h)
    refine lv_iconst (v := 0) hx hb dX8_isStreet_25 (by decide) ?_
    exact W.zret (v := 0) (ty := .boolean) hx hb hr rfl (fun t ht hW => ⟨⟨0, (), rfl, .inr ⟨rfl, fun s h1 h2 _ => hw_1 (by rw [h2]; exact in02 h1)⟩, trivial⟩, hS.F ht⟩) hS.2.2 dX8_isStreet_26


set_option maxHeartbeats 4000000 in
set_option maxRecDepth 100000 in
theorem n_isDoor (l : Launch) (D : va_G) (k : Nat → ClassId) (st : Nat → Nat) (lo : Nat) (a : Nat → Nat) (tx : Nat) (t0 : Nat) (we : Nat) (rd : Nat) (ru : Nat) (rw : Nat) (ca : Nat) (fp : Int32) (wd : Int64) (nu : Int32) (na : Int32) (ts : Int32) (df : Int32) (db : Int32) (sd : Int32) (dn : Nat → Nat) (sn : Nat) (pz : Int32) (hdn : ∀ j, dn j ≤ 24) (hs : sn < 3) : CRi l D k st lo yX8_isDoor cX8_isDoor 3 (some .boolean) ({ frames := 1, cells := 0, slots := 0, locals := 25 }) [.ref (a 0), .int (nI sn), .int pz] [((a 0), .inr (8, (fX8 a (nI tx) fp (nI t0) wd (nI we) nu na (nI rd) ts (nI ru) (nI rw) (nI ca) df db sd))), (aI k (a 1) 3 (nF dn))] (fun r => (r = 1 ∧ ∃ j : Nat, j < dn sn ∧ pz = nI j ∧ True) ∨ (r = 0 ∧ ∀ j, pz = nI j → ¬ j < dn sn)) := by
  intro sz
  refine Met.ofW (cc := cX8_isDoor) (maxL := 3) (ret := (some .boolean)) (by decide) rfl ?_
  intro p e s m args below meth c s₁ B hml hv
  obtain ⟨rfl, hsz, hlo, hP, hK, hDL, hZ⟩ := hv
  have hx := B.exec
  have hb := B.bytes
  have hr := B.returns
  have hts := WS_ts B.pre
  have hown : s.vm.findClass RX8 = some m.cls := findClass_of_methodNamed B.named
  have hlocks := B.notSynchronized
  subst hsz
  have hA : ∀ q : Nat, s.heap.size ≤ q → (fun q : Nat => s.heap.size ≤ q) q := fun _ h => h
  have hAlo : ∀ q : Nat, (fun q : Nat => s.heap.size ≤ q) q → lo ≤ q := fun q h => Nat.le_trans hlo h
  have hS : va_S (fun q : Nat => s.heap.size ≤ q) s.heap s.heap [] := va_S.rf
  have hl := lv_entry ([.ref (a 0), .int (nI sn), .int pz]) (n := 3) (Nat.le_of_ble_eq_true rfl)
  rw [lg_entry_eq]
  generalize (lg_sl ([.ref (a 0), .int (nI sn), .int pz]) ++ List.replicate (3 - (lg_sl ([.ref (a 0), .int (nI sn), .int pz])).length) Slot.unset).toArray = ls at hl ⊢
  have hl : lv_has ls 3 [(0, .ref (a 0)), (1, .int (nI sn)), (2, .int pz)] := hl
  have hd_9 := hdn sn
  refine lv_iload_n hx hb dX8_isDoor_0 rfl (lv_at hl 2 rfl) ?_
  refine lv_i2l (v := pz.toInt64) hx hb dX8_isDoor_1 rfl ?_
  refine lv_lconst (v := (0 : Int32).toInt64) hx hb dX8_isDoor_2 (by decide) ?_
  refine lv_aload_n hx hb dX8_isDoor_3 rfl (lv_at hl 0 rfl) ?_
  refine va_get (D := D) (ci := 8) (v := .ref (a 1)) (C := RX8) (T := TX8) (N := 44) hx hb hts inX8 hown hK hP 0 rfl rfl 0 (by decide) (hts _ tw_973) (fun _ h9 => h9) rfl dX8_isDoor_4 ?_
  refine lv_iload_n hx hb dX8_isDoor_7 rfl (lv_at hl 1 rfl) ?_
  refine va_iald hx hb hK hP 1 1 rfl rfl (vp_in_nI (by omega) (by decide)) dX8_isDoor_8 ?_
  refine lv_ti (y := (nI (dn sn))) (by rw [nI_clamp (by omega)]; rfl) ?_
  refine lv_iconst (v := 1) hx hb dX8_isDoor_9 (by decide) ?_
  refine lv_isub hx hb dX8_isDoor_10 ?_
  refine lv_topi (fun x_1 ex_1 => ?_)
  refine lv_i2l (v := x_1.toInt64) hx hb dX8_isDoor_11 rfl ?_
  refine ro_i (D := D) (va_runS (As := [.long (pz.toInt64), .long ((0 : Int32).toInt64), .long (x_1.toInt64)]) (rest := []) ⟨hx, hb, hml, hown, hts⟩ ((k_in l D k st lo pz (0 : Int32) x_1) s.heap.size) (va_cwS 3 hts (gS tw_1111 tw_1112 tw_87 tw_1113) rfl rfl rfl (by decide +kernel) ⟨Nat.le_of_ble_eq_true rfl, Nat.le_of_ble_eq_true rfl⟩) (pS hS hAlo hlo hP hK hDL hZ [] (by decide) rfl) rfl rfl hl.1 rfl (lv_room (Nat.le_of_ble_eq_true rfl)) dX8_isDoor_12 ⟨Nat.le_of_ble_eq_true rfl, Nat.le_of_ble_eq_true rfl⟩) hS hA hP (fun r_2 H locs hw_2 hP hS => ?_)
  try dsimp only at hw_2
  rcases hw_2 with ⟨rfl, hw_2⟩ | ⟨rfl, hw_2⟩
  · exact W.zret (v := 1) (ty := .boolean) hx hb hr rfl (fun t ht hW => ⟨⟨1, (), rfl, .inl ⟨rfl, (by rw [ex_1] at hw_2; obtain ⟨j, hj, e⟩ := inB_of1 (by omega) hw_2; exact ⟨j, hj, e, trivial⟩)⟩, trivial⟩, hS.F ht⟩) hS.2.2 dX8_isDoor_15
  · exact W.zret (v := 0) (ty := .boolean) hx hb hr rfl (fun t ht hW => ⟨⟨0, (), rfl, .inr ⟨rfl, fun j e hj => hw_2 (by rw [e, ex_1]; exact in0n hj (by omega))⟩, trivial⟩, hS.F ht⟩) hS.2.2 dX8_isDoor_15


set_option maxHeartbeats 4000000 in
set_option maxRecDepth 100000 in
theorem n_told (l : Launch) (D : va_G) (k : Nat → ClassId) (st : Nat → Nat) (lo : Nat) (a : Nat → Nat) (tx : Nat) (t0 : Nat) (we : Nat) (rd : Nat) (ru : Nat) (rw : Nat) (ca : Nat) (fp : Int32) (wd : Int64) (nu : Int32) (na : Int32) (ts : Int32) (df : Int32) (db : Int32) (sd : Int32) (dn : Nat → Nat) (se : Nat → Nat) (tm : Nat → Nat) (gs : Nat → Int32) (ffrees : Nat → Int32) (fprices : Nat → Int32) (p0 : Int32) (p1 : Int32) (hdn : ∀ j, dn j ≤ 24) : CRi l D k st lo yX8_told cX8_told 3 (some .int) ({ frames := 2, cells := 0, slots := 0, locals := 46 }) [.ref (a 0), .int p0, .int p1] [((a 0), .inr (8, (fX8 a (nI tx) fp (nI t0) wd (nI we) nu na (nI rd) ts (nI ru) (nI rw) (nI ca) df db sd))), (aI k (a 1) 3 (nF dn)), (aI k (a 4) 27 (sg se tm gs)), (aI k (a 2) 72 ffrees), (aI k (a 3) 72 fprices)] (fun r => toP (sdM dn (sg se tm gs) ffrees fprices) p0 p1 r) := by
  intro sz
  refine Met.ofW (cc := cX8_told) (maxL := 3) (ret := (some .int)) (by decide) rfl ?_
  intro p e s m args below meth c s₁ B hml hv
  obtain ⟨rfl, hsz, hlo, hP, hK, hDL, hZ⟩ := hv
  have hx := B.exec
  have hb := B.bytes
  have hr := B.returns
  have hts := WS_ts B.pre
  have hown : s.vm.findClass RX8 = some m.cls := findClass_of_methodNamed B.named
  have hlocks := B.notSynchronized
  subst hsz
  have hA : ∀ q : Nat, s.heap.size ≤ q → (fun q : Nat => s.heap.size ≤ q) q := fun _ h => h
  have hAlo : ∀ q : Nat, (fun q : Nat => s.heap.size ≤ q) q → lo ≤ q := fun q h => Nat.le_trans hlo h
  have hS : va_S (fun q : Nat => s.heap.size ≤ q) s.heap s.heap [] := va_S.rf
  have hl := lv_entry ([.ref (a 0), .int p0, .int p1]) (n := 3) (Nat.le_of_ble_eq_true rfl)
  rw [lg_entry_eq]
  generalize (lg_sl ([.ref (a 0), .int p0, .int p1]) ++ List.replicate (3 - (lg_sl ([.ref (a 0), .int p0, .int p1])).length) Slot.unset).toArray = ls at hl ⊢
  have hl : lv_has ls 3 [(0, .ref (a 0)), (1, .int p0), (2, .int p1)] := hl
  refine lv_aload_n hx hb dX8_told_0 rfl (lv_at hl 0 rfl) ?_
  refine lv_iload_n hx hb dX8_told_1 rfl (lv_at hl 1 rfl) ?_
  refine ro_i (D := D) (va_runV (As := [.int p0]) (rest := []) ⟨hx, hb, hml, hown, hts⟩ ((n_isStreet l D k st lo a tx t0 we rd ru rw ca fp wd nu na ts df db sd dn p0 hdn) s.heap.size) (cwV 1 hts (gV tw_1189 tw_1191 tw_38 tw_87 tw_1192) rfl rfl rfl (by decide +kernel) ⟨Nat.le_of_ble_eq_true rfl, Nat.le_of_ble_eq_true rfl⟩) (pV hS hAlo hlo hP hK hDL hZ [0, 1] (by decide) rfl (ci := 8) (q := (RX8, TX8, 44)) (q0 := 0) rfl rfl) rfl rfl hl.1 rfl (lv_room (Nat.le_of_ble_eq_true rfl)) dX8_told_2 ⟨Nat.le_of_ble_eq_true rfl, Nat.le_of_ble_eq_true rfl⟩) hS hA hP (fun r_1 H locs hw_1 hP hS => ?_)
  try dsimp only at hw_1
  rcases hw_1 with ⟨rfl, j_2, hj_2, rfl, hw_1⟩ | ⟨rfl, hw_1⟩
  · have hdj_2 := hdn j_2
    refine lv_if_ne (tgt := 12) hx hb dX8_told_5 (by decide) (fun _ => ?_) (fun h => absurd h (by decide))
    refine lv_iload_n hx hb dX8_told_12 rfl (lv_at hl 2 rfl) ?_
    refine lv_if_ne (tgt := 25) hx hb dX8_told_13 (by decide) (fun c_3 => ?_) (fun c_3 => ?_)
    · refine lv_iload_n hx hb dX8_told_25 rfl (lv_at hl 2 rfl) ?_
      refine lv_i2l (v := p1.toInt64) hx hb dX8_told_26 rfl ?_
      refine lv_lconst (v := (1 : Int32).toInt64) hx hb dX8_told_27 (by decide) ?_
      refine lv_ldc2 hx hb hown (hts _ tw_1193) dX8_told_28 ?_
      refine lv_tl (y := ((9 : Int32).toInt64)) (by decide) ?_
      refine ro_i (D := D) (va_runS (As := [.long (p1.toInt64), .long ((1 : Int32).toInt64), .long ((9 : Int32).toInt64)]) (rest := []) ⟨hx, hb, hml, hown, hts⟩ ((k_in l D k st lo p1 (1 : Int32) (9 : Int32)) H.size) (va_cwS 3 hts (gS tw_1111 tw_1112 tw_87 tw_1113) rfl rfl rfl (by decide +kernel) ⟨Nat.le_of_ble_eq_true rfl, Nat.le_of_ble_eq_true rfl⟩) (pS hS hAlo hlo hP hK hDL hZ [] (by decide) rfl) rfl rfl hl.1 rfl (lv_room (Nat.le_of_ble_eq_true rfl)) dX8_told_31 ⟨Nat.le_of_ble_eq_true rfl, Nat.le_of_ble_eq_true rfl⟩) hS hA hP (fun r_4 H locs hw_4 hP hS => ?_)
      try dsimp only at hw_4
      rcases hw_4 with ⟨rfl, hw_4⟩ | ⟨rfl, hw_4⟩
      · refine lv_if_eq (tgt := 48) hx hb dX8_told_34 (by decide) (fun h => absurd h (by decide)) (fun _ => ?_)
        obtain ⟨wn_9, hwa_9, hwb_9, rfl⟩ := inB_ofc (a := 1) (b := 9) (by omega) (by omega) hw_4
        refine lv_aload_n hx hb dX8_told_37 rfl (lv_at hl 0 rfl) ?_
        refine lv_iload_n hx hb dX8_told_38 rfl (lv_at hl 1 rfl) ?_
        refine lv_iload_n hx hb dX8_told_39 rfl (lv_at hl 2 rfl) ?_
        refine lv_iconst (v := 1) hx hb dX8_told_40 (by decide) ?_
        refine lv_isub hx hb dX8_told_41 ?_
        refine lv_ti (y := (nI (wn_9 - 1))) (pk_sub (a := wn_9) (b := 1) (by omega)) ?_
        refine ro_i (D := D) (va_runV (As := [.int (nI j_2), .int (nI (wn_9 - 1))]) (rest := []) ⟨hx, hb, hml, hown, hts⟩ ((m_of l D k st lo a tx t0 we rd ru rw ca fp wd nu na ts df db sd se tm gs j_2 (wn_9 - 1) (by first | assumption | omega) (by first | assumption | omega)) H.size) (cwV 2 hts (gV tw_1194 tw_1196 tw_39 tw_87 tw_1197) rfl rfl rfl (by decide +kernel) ⟨Nat.le_of_ble_eq_true rfl, Nat.le_of_ble_eq_true rfl⟩) (pV hS hAlo hlo hP hK hDL hZ [0, 2] (by decide) rfl (ci := 8) (q := (RX8, TX8, 44)) (q0 := 0) rfl rfl) rfl rfl hl.1 rfl (lv_room (Nat.le_of_ble_eq_true rfl)) dX8_told_42 ⟨Nat.le_of_ble_eq_true rfl, Nat.le_of_ble_eq_true rfl⟩) hS hA hP (fun r_5 H locs hw_5 hP hS => ?_)
        try dsimp only at hw_5
        refine lv_goto (tgt := 51) hx hb dX8_told_45 (by decide) ?_
        exact W.iret (v := r_5) hx hb hr (fun t ht hW => ⟨⟨r_5, (), rfl, to_at (s := j_2) (by omega) (show 0 < dn j_2 by omega) (by rw [hw_5]; exact toMk (by omega) (by omega)), trivial⟩, hS.F ht⟩) hS.2.2 dX8_told_51
      · refine lv_if_eq (tgt := 48) hx hb dX8_told_34 (by decide) (fun _ => ?_) (fun h => absurd (by decide) h)
        refine lv_sipush (v := (-1002)) hx hb dX8_told_48 (by decide) ?_
        exact W.iret (v := (-1002)) hx hb hr (fun t ht hW => ⟨⟨(-1002), (), rfl, to_at (s := j_2) (by omega) (show 0 < dn j_2 by omega) (toMo c_3 hw_4), trivial⟩, hS.F ht⟩) hS.2.2 dX8_told_51
    · refine lv_aload_n hx hb dX8_told_16 rfl (lv_at hl 0 rfl) ?_
      refine va_get (D := D) (ci := 8) (v := .ref (a 1)) (C := RX8) (T := TX8) (N := 44) hx hb hts inX8 hown hK hP 0 rfl rfl 0 (by decide) (hts _ tw_973) (fun _ h9 => h9) rfl dX8_told_17 ?_
      refine lv_iload_n hx hb dX8_told_20 rfl (lv_at hl 1 rfl) ?_
      refine va_iald hx hb hK hP 1 1 rfl rfl (vp_in_nI (by omega) (by decide)) dX8_told_21 ?_
      refine lv_ti (y := (nI (dn j_2))) (by rw [nI_clamp (by omega)]; rfl) ?_
      refine lv_goto (tgt := 51) hx hb dX8_told_22 (by decide) ?_
      exact W.iret (v := (nI (dn j_2))) hx hb hr (fun t ht hW => ⟨⟨(nI (dn j_2)), (), rfl, to_at (s := j_2) (by omega) (show 0 < dn j_2 by omega) (toM0 c_3), trivial⟩, hS.F ht⟩) hS.2.2 dX8_told_51
  · refine lv_if_ne (tgt := 12) hx hb dX8_told_5 (by decide) (fun h => absurd (by decide) h) (fun _ => ?_)
    refine lv_sipush (v := (-1001)) hx hb dX8_told_8 (by decide) ?_
    exact W.iret (v := (-1001)) hx hb hr (fun t ht hW => ⟨⟨(-1001), (), rfl, to_no (fun s h1 h2 h3 => hw_1 s h1 h2 h3), trivial⟩, hS.F ht⟩) hS.2.2 dX8_told_11


set_option maxHeartbeats 4000000 in
set_option maxRecDepth 100000 in
theorem n_door (l : Launch) (D : va_G) (k : Nat → ClassId) (st : Nat → Nat) (lo : Nat) (a : Nat → Nat) (tx : Nat) (t0 : Nat) (we : Nat) (rd : Nat) (ru : Nat) (rw : Nat) (ca : Nat) (fp : Int32) (wd : Int64) (nu : Int32) (na : Int32) (ts : Int32) (df : Int32) (db : Int32) (sd : Int32) (dn : Nat → Nat) (se : Nat → Nat) (tm : Nat → Nat) (gs : Nat → Int32) (ffrees : Nat → Int32) (fprices : Nat → Int32) (p0 : Int32) (p1 : Int32) (p2 : Int32) (hdn : ∀ j, dn j ≤ 24) (hse : ∀ j, se j ≤ 2) (htm : ∀ j, tm j ≤ 3) : CRi l D k st lo yX8_door cX8_door 4 (some .int) ({ frames := 2, cells := 0, slots := 0, locals := 47 }) [.ref (a 0), .int p0, .int p1, .int p2] [((a 0), .inr (8, (fX8 a (nI tx) fp (nI t0) wd (nI we) nu na (nI rd) ts (nI ru) (nI rw) (nI ca) df db sd))), (aI k (a 1) 3 (nF dn)), (aI k (a 4) 27 (sg se tm gs)), (aI k (a 2) 72 ffrees), (aI k (a 3) 72 fprices)] (fun r => doP (sdM dn (sg se tm gs) ffrees fprices) p0 p1 p2 r) := by
  intro sz
  refine Met.ofW (cc := cX8_door) (maxL := 4) (ret := (some .int)) (by decide) rfl ?_
  intro p e s m args below meth c s₁ B hml hv
  obtain ⟨rfl, hsz, hlo, hP, hK, hDL, hZ⟩ := hv
  have hx := B.exec
  have hb := B.bytes
  have hr := B.returns
  have hts := WS_ts B.pre
  have hown : s.vm.findClass RX8 = some m.cls := findClass_of_methodNamed B.named
  have hlocks := B.notSynchronized
  subst hsz
  have hA : ∀ q : Nat, s.heap.size ≤ q → (fun q : Nat => s.heap.size ≤ q) q := fun _ h => h
  have hAlo : ∀ q : Nat, (fun q : Nat => s.heap.size ≤ q) q → lo ≤ q := fun q h => Nat.le_trans hlo h
  have hS : va_S (fun q : Nat => s.heap.size ≤ q) s.heap s.heap [] := va_S.rf
  have hl := lv_entry ([.ref (a 0), .int p0, .int p1, .int p2]) (n := 4) (Nat.le_of_ble_eq_true rfl)
  rw [lg_entry_eq]
  generalize (lg_sl ([.ref (a 0), .int p0, .int p1, .int p2]) ++ List.replicate (4 - (lg_sl ([.ref (a 0), .int p0, .int p1, .int p2])).length) Slot.unset).toArray = ls at hl ⊢
  have hl : lv_has ls 4 [(0, .ref (a 0)), (1, .int p0), (2, .int p1), (3, .int p2)] := hl
  refine lv_aload_n hx hb dX8_door_0 rfl (lv_at hl 0 rfl) ?_
  refine lv_iload_n hx hb dX8_door_1 rfl (lv_at hl 1 rfl) ?_
  refine ro_i (D := D) (va_runV (As := [.int p0]) (rest := []) ⟨hx, hb, hml, hown, hts⟩ ((n_isStreet l D k st lo a tx t0 we rd ru rw ca fp wd nu na ts df db sd dn p0 hdn) s.heap.size) (cwV 1 hts (gV tw_1189 tw_1191 tw_38 tw_87 tw_1192) rfl rfl rfl (by decide +kernel) ⟨Nat.le_of_ble_eq_true rfl, Nat.le_of_ble_eq_true rfl⟩) (pV hS hAlo hlo hP hK hDL hZ [0, 1] (by decide) rfl (ci := 8) (q := (RX8, TX8, 44)) (q0 := 0) rfl rfl) rfl rfl hl.1 rfl (lv_room (Nat.le_of_ble_eq_true rfl)) dX8_door_2 ⟨Nat.le_of_ble_eq_true rfl, Nat.le_of_ble_eq_true rfl⟩) hS hA hP (fun r_1 H locs hw_1 hP hS => ?_)
  try dsimp only at hw_1
  rcases hw_1 with ⟨rfl, j_2, hj_2, rfl, hw_1⟩ | ⟨rfl, hw_1⟩
  · have hdj_2 := hdn j_2
    have htj_2 := htm j_2
    refine lv_if_eq (tgt := 17) hx hb dX8_door_5 (by decide) (fun h => absurd h (by decide)) (fun _ => ?_)
    refine lv_aload_n hx hb dX8_door_8 rfl (lv_at hl 0 rfl) ?_
    refine lv_iload_n hx hb dX8_door_9 rfl (lv_at hl 1 rfl) ?_
    refine lv_iload_n hx hb dX8_door_10 rfl (lv_at hl 2 rfl) ?_
    refine ro_i (D := D) (va_runV (As := [.int (nI j_2), .int p1]) (rest := []) ⟨hx, hb, hml, hown, hts⟩ ((n_isDoor l D k st lo a tx t0 we rd ru rw ca fp wd nu na ts df db sd dn j_2 p1 hdn (by first | assumption | omega)) H.size) (cwV 2 hts (gV tw_1202 tw_1204 tw_40 tw_87 tw_1205) rfl rfl rfl (by decide +kernel) ⟨Nat.le_of_ble_eq_true rfl, Nat.le_of_ble_eq_true rfl⟩) (pV hS hAlo hlo hP hK hDL hZ [0, 1] (by decide) rfl (ci := 8) (q := (RX8, TX8, 44)) (q0 := 0) rfl rfl) rfl rfl hl.1 rfl (lv_room (Nat.le_of_ble_eq_true rfl)) dX8_door_11 ⟨Nat.le_of_ble_eq_true rfl, Nat.le_of_ble_eq_true rfl⟩) hS hA hP (fun r_3 H locs hw_3 hP hS => ?_)
    try dsimp only at hw_3
    rcases hw_3 with ⟨rfl, j_4, hj_4, rfl, hw_3⟩ | ⟨rfl, hw_3⟩
    · refine lv_if_ne (tgt := 21) hx hb dX8_door_14 (by decide) (fun _ => ?_) (fun h => absurd h (by decide))
      refine lv_iload_n hx hb dX8_door_21 rfl (lv_at hl 3 rfl) ?_
      refine lv_if_ne (tgt := 39) hx hb dX8_door_22 (by decide) (fun c_5 => ?_) (fun c_5 => ?_)
      · refine lv_iload_n hx hb dX8_door_39 rfl (lv_at hl 3 rfl) ?_
        refine lv_iconst (v := 1) hx hb dX8_door_40 (by decide) ?_
        refine lv_icmp_ne (tgt := 58) hx hb dX8_door_41 (by decide) (fun c_6 => ?_) (fun c_6 => ?_)
        · refine lv_sipush (v := (-1002)) hx hb dX8_door_58 (by decide) ?_
          exact W.iret (v := (-1002)) hx hb hr (fun t ht hW => ⟨⟨(-1002), (), rfl, do_at (s := j_2) (by omega) (show dn j_2 ≤ 24 by omega) (show j_4 < dn j_2 by omega) (doFo c_5 c_6), trivial⟩, hS.F ht⟩) hS.2.2 dX8_door_61
        · refine lv_aload_n hx hb dX8_door_44 rfl (lv_at hl 0 rfl) ?_
          refine va_get (D := D) (ci := 8) (v := .ref (a 3)) (C := RX8) (T := TX8) (N := 44) hx hb hts inX8 hown hK hP 0 rfl rfl 2 (by decide) (hts _ tw_975) (fun _ h9 => h9) rfl dX8_door_45 ?_
          refine lv_bipush (v := 24) hx hb dX8_door_48 (by decide) ?_
          refine lv_iload_n hx hb dX8_door_50 rfl (lv_at hl 1 rfl) ?_
          refine lv_imul hx hb dX8_door_51 ?_
          refine lv_ti (y := (nI (24 * j_2))) (pk_mul 24 j_2) ?_
          refine lv_iload_n hx hb dX8_door_52 rfl (lv_at hl 2 rfl) ?_
          refine lv_iadd hx hb dX8_door_53 ?_
          refine lv_ti (y := (nI (24 * j_2 + j_4))) (nI_add (24 * j_2) j_4) ?_
          refine va_iald hx hb hK hP 4 1 rfl rfl (vp_in_nI (by omega) (by decide)) dX8_door_54 ?_
          refine lv_ti (y := (fprices (24 * j_2 + j_4))) (by rw [nI_clamp (by omega)]) ?_
          refine lv_goto (tgt := 61) hx hb dX8_door_55 (by decide) ?_
          exact W.iret (v := (fprices (24 * j_2 + j_4))) hx hb hr (fun t ht hW => ⟨⟨(fprices (24 * j_2 + j_4)), (), rfl, do_at (s := j_2) (by omega) (show dn j_2 ≤ 24 by omega) (show j_4 < dn j_2 by omega) (doF1 (g := fun i => fprices (24 * j_2 + i)) (by omega) c_6), trivial⟩, hS.F ht⟩) hS.2.2 dX8_door_61
      · refine lv_aload_n hx hb dX8_door_25 rfl (lv_at hl 0 rfl) ?_
        refine va_get (D := D) (ci := 8) (v := .ref (a 2)) (C := RX8) (T := TX8) (N := 44) hx hb hts inX8 hown hK hP 0 rfl rfl 1 (by decide) (hts _ tw_974) (fun _ h9 => h9) rfl dX8_door_26 ?_
        refine lv_bipush (v := 24) hx hb dX8_door_29 (by decide) ?_
        refine lv_iload_n hx hb dX8_door_31 rfl (lv_at hl 1 rfl) ?_
        refine lv_imul hx hb dX8_door_32 ?_
        refine lv_ti (y := (nI (24 * j_2))) (pk_mul 24 j_2) ?_
        refine lv_iload_n hx hb dX8_door_33 rfl (lv_at hl 2 rfl) ?_
        refine lv_iadd hx hb dX8_door_34 ?_
        refine lv_ti (y := (nI (24 * j_2 + j_4))) (nI_add (24 * j_2) j_4) ?_
        refine va_iald hx hb hK hP 3 1 rfl rfl (vp_in_nI (by omega) (by decide)) dX8_door_35 ?_
        refine lv_ti (y := (ffrees (24 * j_2 + j_4))) (by rw [nI_clamp (by omega)]) ?_
        refine lv_goto (tgt := 61) hx hb dX8_door_36 (by decide) ?_
        exact W.iret (v := (ffrees (24 * j_2 + j_4))) hx hb hr (fun t ht hW => ⟨⟨(ffrees (24 * j_2 + j_4)), (), rfl, do_at (s := j_2) (by omega) (show dn j_2 ≤ 24 by omega) (show j_4 < dn j_2 by omega) (doF0 (f := fun i => ffrees (24 * j_2 + i)) (by omega) c_5), trivial⟩, hS.F ht⟩) hS.2.2 dX8_door_61
    · refine lv_if_ne (tgt := 21) hx hb dX8_door_14 (by decide) (fun h => absurd (by decide) h) (fun _ => ?_)
      refine lv_sipush (v := (-1001)) hx hb dX8_door_17 (by decide) ?_
      exact W.iret (v := (-1001)) hx hb hr (fun t ht hW => ⟨⟨(-1001), (), rfl, do_no (fun s h1 h2 i h3 h4 => by have h9 := nI_inj (by omega) (by omega) h2; subst h9; exact hw_3 i h3 h4), trivial⟩, hS.F ht⟩) hS.2.2 dX8_door_20
  · refine lv_if_eq (tgt := 17) hx hb dX8_door_5 (by decide) (fun _ => ?_) (fun h => absurd (by decide) h)
    refine lv_sipush (v := (-1001)) hx hb dX8_door_17 (by decide) ?_
    exact W.iret (v := (-1001)) hx hb hr (fun t ht hW => ⟨⟨(-1001), (), rfl, do_no (fun s h1 h2 i h3 h4 => hw_1 s h1 h2 (by show 0 < dn s; replace h4 : i < dn s := h4; omega)), trivial⟩, hS.F ht⟩) hS.2.2 dX8_door_20

theorem f_glueP14 : True := trivial
/-! what a street's text told comes to: chances, costs -/
def pz0 (z : Int32) : Int32 := if 0 ≤ z then z else 0
def pLate (d : SDt) (r : Nat) : Int32 := d.2.1 4 * pz0 (nI r * (nI d.1 + d.2.1 7) + nI d.1 - d.2.1 5)
def pTakeBy (d : SDt) (w : Int32) (r i : Nat) : Int32 := (d.2.2.2 i + w * (nI d.1 - nI i) + pLate d r) * 1000
def pTake (d : SDt) (r i : Nat) : Int32 := pTakeBy d (d.2.1 2) r i
def pGar (d : SDt) (r : Nat) : Int32 := (d.2.1 9 + pLate d r) * 1000
def pPass (d : SDt) : Int32 := d.2.1 3 * 1000
def pRnd (d : SDt) : Int32 := d.2.1 3 * d.2.1 7 * 1000
def pCl (v : Int32) : Int32 := if 0 ≤ v then (if v ≤ 100 then v else 100) else 0
def pChance (d : SDt) (i : Nat) (p : Int32) : Int32 := pCl (if i = 0 then d.2.2.1 i else (if p = 0 then d.2.2.1 i - d.2.1 1 else d.2.2.1 i + d.2.1 1))
theorem clp_in {n i : Nat} {f : Nat → Int32} (h : i < n) : clp n f i = f i := if_pos h
theorem nG_in {k : Nat} {f : Nat → Int32} (h1 : 1 ≤ k) (h2 : k ≤ 9) : nG f k = f k := if_pos ⟨h1, h2⟩
theorem vv_in {n see tm k : Nat} {g : Nat → Int32} (h0 : k ≠ 0) (h6 : k ≠ 6) (h8 : k ≠ 8) : vv n see tm g k = g k := by
  unfold vv
  rw [if_neg h0, if_neg h6, if_neg h8]
theorem gX {n see tm k : Nat} {g ff fp : Nat → Int32} (h : k = 1 ∨ k = 2 ∨ k = 3 ∨ k = 4 ∨ k = 5 ∨ k = 7 ∨ k = 9) : (sdX n see tm g ff fp).2.1 k = g k := by
  show nG (vv n see tm g) k = g k
  rw [nG_in (by omega) (by omega), vv_in (by omega) (by omega) (by omega)]
theorem gM' {dn : Nat → Nat} {f ff fp : Nat → Int32} {s k : Nat} (h1 : 1 ≤ k) (h2 : k ≤ 9) : (sdM dn f ff fp s).2.1 k = f (9 * s + (k - 1)) := by
  show nG (fun j => f (9 * s + (j - 1))) k = _
  rw [nG_in h1 h2]
theorem ac_sub (a i n : Int32) : a + i + n - i = a + n := by
  rw [Int32.add_assoc, Int32.add_comm i n, ← Int32.add_assoc, Int32.add_sub_cancel]
theorem lt_le {a b : Int32} : a < b ↔ ¬ b ≤ a := by
  rw [Int32.lt_iff_toInt_lt, Int32.le_iff_toInt_le]
  omega
theorem pCl_X (v : Int32) : (if 0 < (if v < 100 then v else 100) then (if v < 100 then v else 100) else 0) = pCl v := by
  have e0 : (0 : Int32).toInt = 0 := by decide
  have e1 : (100 : Int32).toInt = 100 := by decide
  unfold pCl
  by_cases h1 : v < 100
  · have k1 := Int32.lt_iff_toInt_lt.mp h1
    have h2 : v ≤ 100 := Int32.le_iff_toInt_le.mpr (by omega)
    rw [if_pos h1, if_pos h2]
    by_cases h3 : 0 < v
    · have k3 := Int32.lt_iff_toInt_lt.mp h3
      rw [if_pos h3, if_pos (Int32.le_iff_toInt_le.mpr (by omega))]
    · have k3 : ¬ (0 : Int32).toInt < v.toInt := fun q => h3 (Int32.lt_iff_toInt_lt.mpr q)
      rw [if_neg h3]
      by_cases h4 : 0 ≤ v
      · have k4 := Int32.le_iff_toInt_le.mp h4
        rw [if_pos h4]
        exact Int32.toInt_inj.mp (by omega)
      · rw [if_neg h4]
  · have k1 : ¬ v.toInt < (100 : Int32).toInt := fun q => h1 (Int32.lt_iff_toInt_lt.mpr q)
    rw [if_neg h1, if_pos (by decide), if_pos (Int32.le_iff_toInt_le.mpr (by omega))]
    by_cases h2 : v ≤ 100
    · have k2 := Int32.le_iff_toInt_le.mp h2
      rw [if_pos h2]
      exact Int32.toInt_inj.mp (by omega)
    · rw [if_neg h2]
theorem pCl_id {v : Int32} (h : inB v 0 100) : pCl v = v := by
  unfold pCl
  rw [if_pos h.1, if_pos h.2]
theorem xChance {n see tm i : Nat} {g ff fp : Nat → Int32} {p : Int32} (hi : i < n) (hb : inB (ff i) 0 100) : fX_chance g ff i p = pChance (sdX n see tm g ff fp) i p := by
  unfold fX_chance pChance
  rw [gX (by omega)]
  show _ = pCl (if i = 0 then clp n ff i else (if p = 0 then clp n ff i - g 1 else clp n ff i + g 1))
  rw [clp_in hi]
  by_cases h : i = 0
  · rw [if_pos h, if_pos h, pCl_id hb]
  · rw [if_neg h, if_neg h, pCl_X]
theorem mChance {dn se tm : Nat → Nat} {gs ffr fpr : Nat → Int32} {s i : Nat} {p : Int32} (hi : i < dn s) : fM_chance ffr se tm gs s i p = pChance (sdM dn (sg se tm gs) ffr fpr s) i p := by
  unfold fM_chance pChance
  rw [gM' (by omega) (by omega)]
  show _ = pCl (if i = 0 then clp (dn s) (fun i => ffr (24 * s + i)) i else (if p = 0 then clp (dn s) (fun i => ffr (24 * s + i)) i - sg se tm gs (9 * s + (1 - 1)) else clp (dn s) (fun i => ffr (24 * s + i)) i + sg se tm gs (9 * s + (1 - 1))))
  rw [clp_in hi]
  rfl
theorem xTakeBy {n see tm r i : Nat} {g ff fp fl : Nat → Int32} {w : Int32} (hi : i < n) (hl : fl r = pLate (sdX n see tm g ff fp) r) : fX_takingBy n fp fl w r i = pTakeBy (sdX n see tm g ff fp) w r i := by
  unfold fX_takingBy pTakeBy
  show _ = (clp n fp i + w * (nI n - nI i) + pLate (sdX n see tm g ff fp) r) * 1000
  rw [clp_in hi, hl]
theorem xTake {n see tm r i : Nat} {g ff fp fl : Nat → Int32} (hi : i < n) (hl : fl r = pLate (sdX n see tm g ff fp) r) : fX_taking n g fp fl r i = pTake (sdX n see tm g ff fp) r i := by
  unfold fX_taking pTake
  rw [xTakeBy hi hl, gX (by omega)]
theorem xGar {n see tm r : Nat} {g ff fp fl : Nat → Int32} (hl : fl r = pLate (sdX n see tm g ff fp) r) : fX_garage g fl r = pGar (sdX n see tm g ff fp) r := by
  unfold fX_garage pGar
  rw [gX (by omega), hl]
theorem xPass {n see tm : Nat} {g ff fp : Nat → Int32} : fX_passing g = pPass (sdX n see tm g ff fp) := by
  unfold fX_passing pPass
  rw [gX (by omega)]
theorem xRnd {n see tm : Nat} {g ff fp : Nat → Int32} : fX_round g = pRnd (sdX n see tm g ff fp) := by
  unfold fX_round pRnd
  rw [gX (by omega), gX (by omega)]
theorem mLate {dn se tm : Nat → Nat} {gs ffr fpr : Nat → Int32} {s r : Nat} : sg se tm gs (9 * s + 3) * fM_late se tm gs s (nI r * (nI (dn s) + sg se tm gs (9 * s + 6)) + nI (dn s)) = pLate (sdM dn (sg se tm gs) ffr fpr s) r := by
  unfold fM_late pLate pz0
  rw [gM' (by omega) (by omega), gM' (by omega) (by omega), gM' (by omega) (by omega)]
  rfl
theorem mTakeBy {dn se tm : Nat → Nat} {gs ffr fpr : Nat → Int32} {s r i : Nat} {w : Int32} (hi : i < dn s) : fM_takingBy dn se tm gs fpr s i (nI r) w = pTakeBy (sdM dn (sg se tm gs) ffr fpr s) w r i := by
  unfold fM_takingBy pTakeBy fM_tick
  rw [ac_sub, mLate (ffr := ffr) (fpr := fpr)]
  show _ = (clp (dn s) (fun i => fpr (24 * s + i)) i + w * (nI (dn s) - nI i) + _) * 1000
  rw [clp_in hi]
theorem mTake {dn se tm : Nat → Nat} {gs ffr fpr : Nat → Int32} {s r i : Nat} (hi : i < dn s) : fM_taking dn se tm gs fpr s i (nI r) = pTake (sdM dn (sg se tm gs) ffr fpr s) r i := by
  unfold fM_taking pTake
  rw [mTakeBy (ffr := ffr) hi, gM' (by omega) (by omega)]
theorem mGar {dn se tm : Nat → Nat} {gs ffr fpr : Nat → Int32} {s r : Nat} : fM_garage dn se tm gs s (nI r) = pGar (sdM dn (sg se tm gs) ffr fpr s) r := by
  unfold fM_garage pGar fM_tick
  rw [mLate (ffr := ffr) (fpr := fpr), gM' (by omega) (by omega)]
/-! answers at a door of a street -/
def dqP (sd : Nat → SDt) (p0 p1 : Int32) (F : SDt → Nat → Int32 → Prop) (r : Int32) : Prop := ((∀ s, s < 3 → p0 = nI s → ∀ i, p1 = nI i → ¬ i < (sd s).1) → r = -1001) ∧ ∀ s, s < 3 → p0 = nI s → ∀ i, p1 = nI i → i < (sd s).1 → F (sd s) i r
theorem dq_fun {sd se : Nat → SDt} {p0 p1 r q : Int32} {F : SDt → Nat → Int32 → Prop} (hF : ∀ d i x y, F d i x → F d i y → x = y) (h : dqP sd p0 p1 F r) (g : dqP se p0 p1 F q) (e : ∀ i, i < 3 → sd i = se i) : r = q := by
  rcases Classical.em (∃ s i, s < 3 ∧ p0 = nI s ∧ p1 = nI i ∧ i < (sd s).1) with ⟨s, i, h1, h2, h3, h4⟩ | hn
  · have a := h.2 s h1 h2 i h3 h4
    have b := g.2 s h1 h2 i h3 (by rw [← e s h1]; exact h4)
    rw [← e s h1] at b
    exact hF _ _ _ _ a b
  · have a := h.1 (fun s h1 h2 i h3 h4 => hn ⟨s, i, h1, h2, h3, h4⟩)
    have b := g.1 (fun s h1 h2 i h3 h4 => hn ⟨s, i, h1, h2, h3, by rw [e s h1]; exact h4⟩)
    exact a.trans b.symm
theorem dq_no {sd : Nat → SDt} {p0 p1 : Int32} {F : SDt → Nat → Int32 → Prop} (h : ∀ s, s < 3 → p0 = nI s → ∀ i, p1 = nI i → ¬ i < (sd s).1) : dqP sd p0 p1 F (-1001) := ⟨fun _ => rfl, fun s h1 h2 i h3 h4 => absurd h4 (h s h1 h2 i h3)⟩
theorem dq_at {sd : Nat → SDt} {s i : Nat} {r : Int32} {F : SDt → Nat → Int32 → Prop} (hs : s < 3) (hb : (sd s).1 ≤ 24) (hi : i < (sd s).1) (h : F (sd s) i r) : dqP sd (nI s) (nI i) F r := by
  refine ⟨fun q => absurd hi (q s hs rfl i rfl), fun t h1 h2 j h3 h4 => ?_⟩
  have := nI_inj (by omega) (by omega) h2
  subst this
  have := nI_inj (by omega) (by omega) h3
  subst this
  exact h
/-- chance -/
def chA (p2 : Int32) (d : SDt) (i : Nat) (r : Int32) : Prop := r = pChance d i p2
/-- taking: the round in its bounds or not -/
def tkA (p1 : Int32) (d : SDt) (i : Nat) (r : Int32) : Prop := (¬ inB p1 0 (d.2.1 8) → r = -1002) ∧ ∀ k : Nat, k < 2 ^ 31 → p1 = nI k → inB p1 0 (d.2.1 8) → r = pTake d k i
theorem tkA_fun {p1 : Int32} (d : SDt) (i : Nat) (x y : Int32) (h : tkA p1 d i x) (g : tkA p1 d i y) : x = y := by
  rcases Classical.em (inB p1 0 (d.2.1 8)) with c | c
  · obtain ⟨k, h2, e⟩ := nI_of (Int32.not_lt.mpr c.1)
    exact (h.2 k h2 e c).trans (g.2 k h2 e c).symm
  · exact (h.1 c).trans (g.1 c).symm
theorem tk_o {p1 : Int32} {d : SDt} {i : Nat} (h : ¬ inB p1 0 (d.2.1 8)) : tkA p1 d i (-1002) := ⟨fun _ => rfl, fun _ _ _ c => absurd c h⟩
theorem tk_i {k : Nat} {d : SDt} {i : Nat} {r : Int32} (hk : k ≤ 3) (hi : inB (nI k) 0 (d.2.1 8)) (h : r = pTake d k i) : tkA (nI k) d i r := by
  refine ⟨fun c => absurd hi c, fun q hq e _ => ?_⟩
  have := nI_inj (by omega) hq e
  subst this
  exact h
theorem rdX {n see tm : Nat} {g ff fp : Nat → Int32} : (sdX n see tm g ff fp).2.1 8 = nI tm := by
  show nG (vv n see tm g) 8 = nI tm
  rw [nG_in (by omega) (by omega)]
  rfl
theorem rdM {dn se tm : Nat → Nat} {gs ffr fpr : Nat → Int32} {s : Nat} : (sdM dn (sg se tm gs) ffr fpr s).2.1 8 = nI (tm s) := by
  rw [gM' (by omega) (by omega)]
  exact sg_tm _ _ _ _
theorem inr {k t : Nat} (h : k ≤ t) (ht : t ≤ 3) : inB (nI k) 0 (nI t) := ⟨nI_ge0 (by omega), (nI_leI (by omega) (by omega)).mpr h⟩
/-! chances told are within 0 and 100 -/
theorem doF_in {b : Nat → Int32} {n rd t p t1 m : Nat} {v3 v5 : Int32} (h : doF b n rd t = (0, p, t1, m, v3, v5)) : inB v3 0 100 := by
  unfold doF at h
  rcases h1 : nuR b n false 1 24 t with ⟨e1, p1, u1, v1, q1⟩
  simp only [h1] at h
  by_cases c1 : e1 = 0
  · rw [if_pos c1] at h
    by_cases c2 : rd + v1.toNatClampNeg ≤ 24
    · rw [if_pos c2] at h
      rcases h2 : wdR b n (sByt.getD 10 []) u1 with ⟨e2, p2, u2⟩
      simp only [h2] at h
      by_cases c3 : e2 = 0
      · rw [if_pos c3] at h
        rcases h3 : nuR b n false 0 100 u2 with ⟨e3, p3, u3, w3, q3⟩
        simp only [h3] at h
        by_cases c4 : e3 = 0
        · rw [if_pos c4] at h
          rcases h4 : wdR b n (sByt.getD 11 []) u3 with ⟨e4, p4, u4⟩
          simp only [h4] at h
          by_cases c5 : e4 = 0
          · rw [if_pos c5] at h
            rcases h5 : nuR b n false 0 999 u4 with ⟨e5, p5, u5, w5, q5⟩
            simp only [h5] at h
            by_cases c6 : e5 = 0
            · rw [if_pos c6] at h
              have e : w3 = v3 := congrArg (fun z => z.2.2.2.2.1) h
              rw [c4] at h3
              rw [← e]
              exact (nuR_in h3).1
            · rw [if_neg c6] at h
              exact absurd (congrArg Prod.fst h) c6
          · rw [if_neg c5] at h
            exact absurd (congrArg Prod.fst h) c5
        · rw [if_neg c4] at h
          exact absurd (congrArg Prod.fst h) c4
      · rw [if_neg c3] at h
        exact absurd (congrArg Prod.fst h) c3
    · rw [if_neg c2] at h
      exact absurd (show (4 : Nat) = 0 from congrArg Prod.fst h) (by decide)
  · rw [if_neg c1] at h
    exact absurd (congrArg Prod.fst h) c1
theorem doC_in {b : Nat → Int32} {n rd t p t1 m : Nat} {v3 v5 : Int32} (h : doC b n rd t = (0, p, t1, m, v3, v5)) : inB v3 0 100 := by
  unfold doC at h
  rcases h1 : doF b n rd t with ⟨e, p1, u1, m1, w3, w5⟩
  simp only [h1] at h
  by_cases c1 : e = 0
  · rw [if_pos c1] at h
    rcases h2 : smR b n u1 with ⟨e6, p6, u6⟩
    simp only [h2] at h
    by_cases c2 : e6 = 0
    · rw [if_pos c2] at h
      have e3 : w3 = v3 := congrArg (fun z => z.2.2.2.2.1) h
      rw [c1] at h1
      rw [← e3]
      exact doF_in h1
    · rw [if_neg c2] at h
      exact absurd (congrArg Prod.fst h) c2
  · rw [if_neg c1] at h
    exact absurd (congrArg Prod.fst h) c1
def okS (σ : PSt) : Prop := ∀ i, i < σ.1 → inB (σ.2.2.1 i) 0 100
theorem okS_cl {b : Nat → Int32} {n t : Nat} {σ : PSt} (h : (clF b n t σ).1 = 0) (ho : okS σ) : okS (clF b n t σ).2.2.2 := by
  unfold clF at h ⊢
  by_cases c1 : kwN (letA b n (skA b n t)) = 10
  · rw [if_pos c1] at h
    exact absurd (show (1 : Nat) = 0 from h) (by decide)
  · rw [if_neg c1] at h ⊢
    by_cases c2 : kwN (letA b n (skA b n t)) = 0
    · rw [if_pos c2] at h ⊢
      rcases h1 : doC b n σ.1 (skA b n t + (letA b n (skA b n t)).length) with ⟨e, p, u1, m, v3, v5⟩
      simp only [h1] at h ⊢
      by_cases c3 : e = 0
      · rw [if_pos c3]
        rw [c3] at h1
        intro i hi
        have hi2 : i < σ.1 + m := hi
        show inB (if σ.1 ≤ i ∧ i < σ.1 + m then v3 else σ.2.2.1 i) 0 100
        by_cases c4 : σ.1 ≤ i ∧ i < σ.1 + m
        · rw [if_pos c4]
          exact doC_in h1
        · rw [if_neg c4]
          exact ho i (by omega)
      · rw [if_neg c3] at h
        exact absurd h c3
    · rw [if_neg c2] at h ⊢
      by_cases c3 : σ.2.2.2.2 (kwN (letA b n (skA b n t))) = true
      · rw [if_pos c3] at h
        exact absurd (show (3 : Nat) = 0 from h) (by decide)
      · rw [if_neg c3] at h ⊢
        rcases h1 : siC b n (kwN (letA b n (skA b n t))) (skA b n t + (letA b n (skA b n t)).length) with ⟨e, p, u1, v, v2⟩
        simp only [h1] at h ⊢
        by_cases c4 : e = 0
        · rw [if_pos c4]
          exact ho
        · rw [if_neg c4] at h
          exact absurd h c4
theorem okS_L {b : Nat → Int32} {n : Nat} : ∀ k t σ, (stL b n k t σ).1 = 0 → okS σ → okS (stL b n k t σ).2.2 := by
  intro k
  induction k with
  | zero => intro t σ _ ho; exact ho
  | succ k ih =>
    intro t σ h ho
    have e : stL b n (k + 1) t σ = (if skA b n t < n then (if (clF b n t σ).1 = 0 then stL b n k (clF b n t σ).2.2.1 (clF b n t σ).2.2.2 else ((clF b n t σ).1, (clF b n t σ).2.1, σ)) else (0, 0, σ)) := rfl
    rw [e] at h ⊢
    by_cases c1 : skA b n t < n
    · rw [if_pos c1] at h ⊢
      by_cases c2 : (clF b n t σ).1 = 0
      · rw [if_pos c2] at h ⊢
        exact ih _ _ h (okS_cl c2 ho)
      · rw [if_neg c2] at h
        exact absurd h c2
    · rw [if_neg c1]
      exact ho
theorem okS_F {b : Nat → Int32} {n t : Nat} {σ : PSt} (h : stF b n t = (0, 0, σ)) : okS σ := by
  unfold stF at h
  by_cases c : (stL b n 240 t st0).1 = 0 ∧ (stL b n 240 t st0).2.2.1 = 0
  · rw [if_pos c] at h
    exact absurd (show (1 : Nat) = 0 from congrArg Prod.fst h) (by decide)
  · rw [if_neg c] at h
    have h1 := okS_L 240 t st0 (show (stL b n 240 t st0).1 = 0 by rw [h]) (fun i hi => absurd hi (Nat.not_lt_zero i))
    rw [h] at h1
    exact h1
def okD (d : SDt) : Prop := ∀ i, i < d.1 → inB (d.2.2.1 i) 0 100
theorem stP_ok {pz : Int32} {b : Nat → Int32} {n n' : Nat} {fp r fp' : Int32} {sd sd' : Nat → SDt} (h : stP pz b n fp sd r n' fp' sd') (e : ∀ i, i < 3 → okD (sd i)) : ∀ i, i < 3 → okD (sd' i) := by
  intro i hi3
  rcases Classical.em (inB pz 0 2) with hi | hi
  · obtain ⟨h1, h2⟩ := h.2 hi
    rcases h2 with ⟨e1, pl, a1, a2, a3, a4, a5, a6, a7⟩ | ⟨sn, σ, a1, a2, a3, a4, a5, a6, a7⟩
    · rw [a7 i hi3]
      exact e i hi3
    · by_cases hs : i = sn
      · rw [hs, a6]
        exact okS_F a3
      · rw [a7 i hi3 hs]
        exact e i hi3
  · rw [(h.1 hi).2.2.2 i hi3]
    exact e i hi3
theorem okX {n see tm i : Nat} {g ff fp : Nat → Int32} (h : okD (sdX n see tm g ff fp)) (hi : i < n) : inB (ff i) 0 100 := by
  have h1 : inB (clp n ff i) 0 100 := h i hi
  rw [clp_in hi] at h1
  exact h1
/-! how late one is, reckoned once -/
theorem pz0_x (z : Int32) : (if 0 < z then z else 0) = pz0 z := by
  have e0 : (0 : Int32).toInt = 0 := by decide
  unfold pz0
  by_cases h : 0 < z
  · have k := Int32.lt_iff_toInt_lt.mp h
    rw [if_pos h, if_pos (Int32.le_iff_toInt_le.mpr (by omega))]
  · have k : ¬ (0 : Int32).toInt < z.toInt := fun q => h (Int32.lt_iff_toInt_lt.mpr q)
    rw [if_neg h]
    by_cases h2 : 0 ≤ z
    · have k2 := Int32.le_iff_toInt_le.mp h2
      rw [if_pos h2]
      exact Int32.toInt_inj.mp (by omega)
    · rw [if_neg h2]
theorem la_step {n see tm r : Nat} {g g0 gg ff fp : Nat → Int32} {a b c q : Int32} (hg : gg = va_cpy g g0 0 0 10) (h0 : q = fX_arrival n gg r) (h1 : a = q - gg 5) (h2 : b = if 0 < a then a else 0) (h3 : c = gg 4 * b) : c = pLate (sdX n see tm g ff fp) r := by
  have e : ∀ k, k < 10 → gg k = g k := by
    intro k hk
    rw [hg, pk_cpy_in (by omega) (by omega), show 0 + (k - 0) = k by omega]
  rw [h3, h2, pz0_x, h1, h0]
  unfold pLate fX_arrival
  rw [gX (by omega), gX (by omega), gX (by omega), e 4 (by omega), e 5 (by omega), e 7 (by omega)]
  rfl
theorem la_upd {f F : Nat → Int32} {k : Nat} {c : Int32} (h : ∀ r, r < k → f r = F r) (hc : c = F k) : ∀ r, r < k + 1 → upd f k c r = F r := by
  intro r hr
  by_cases h1 : r = k
  · rw [h1, pk_us]
    exact hc
  · rw [pk_un h1]
    exact h r (by omega)
def ltP (fl : Nat → Nat → Int32) (sd : Nat → SDt) : Prop := ∀ i, i < 3 → ∀ r, r < 4 → fl i r = pLate (sd i) r


set_option maxHeartbeats 4000000 in
set_option maxRecDepth 100000 in
theorem y_become2 (l : Launch) (D : va_G) (k : Nat → ClassId) (st : Nat → Nat) (lo : Nat) (h0 : Nat) (h1 : Nat) (h2 : Nat) (h3 : Nat) (h4 : Nat) (n : Nat) (see : Nat) (tm : Nat) (g : Nat → Int32) (ff : Nat → Int32) (fp : Nat → Int32) (fl : Nat → Int32) (d0 : Nat) (d1 : Nat) (d2 : Nat) (d3 : Nat) (d4 : Nat) (nq : Nat) (seeq : Nat) (tmq : Nat) (gq : Nat → Int32) (ffq : Nat → Int32) (fpq : Nat → Int32) (flq : Nat → Int32) (hn : nq ≤ 24) : CWv l D k st lo yX5_become cX5_become 3 none ({ frames := 1, cells := 0, slots := 0, locals := 60 }) 0 0 [.ref h0, .ref d0] [(h0, .inr (5, (fX5 h1 h2 h3 h4))), (aI k h1 10 (vv n see tm g)), (aI k h2 24 ff), (aI k h3 24 fp), (aI k h4 4 fl), (d0, .inr (5, (fX5 d1 d2 d3 d4))), (aI k d1 10 (vv nq seeq tmq gq)), (aI k d2 24 ffq), (aI k d3 24 fpq), (aI k d4 4 flq)] (fun (u : Nat × Nat × Nat × (Nat → Int32) × (Nat → Int32) × (Nat → Int32) × (Nat → Int32)) => match u with | (n_, see_, tm_, g_, ff_, fp_, fl_) => n_ = nq ∧ see_ = seeq ∧ tm_ = tmq ∧ sdX nq seeq tmq g_ ff_ fp_ = (sdX nq seeq tmq gq ffq fpq) ∧ ∀ r, r < 4 → fl_ r = pLate (sdX nq seeq tmq gq ffq fpq) r) (fun (u : Nat × Nat × Nat × (Nat → Int32) × (Nat → Int32) × (Nat → Int32) × (Nat → Int32)) => match u with | (n_, see_, tm_, g_, ff_, fp_, fl_) => [(h0, .inr (5, (fX5 h1 h2 h3 h4))), (aI k h1 10 (vv n_ see_ tm_ g_)), (aI k h2 24 ff_), (aI k h3 24 fp_), (aI k h4 4 fl_), (d0, .inr (5, (fX5 d1 d2 d3 d4))), (aI k d1 10 (vv nq seeq tmq gq)), (aI k d2 24 ffq), (aI k d3 24 fpq), (aI k d4 4 flq)]) := by
  intro sz
  refine Met.ofW (cc := cX5_become) (maxL := 3) (ret := none) (by decide) rfl ?_
  intro p e s m args below meth c s₁ B hml hv
  obtain ⟨rfl, hsz, hlo, hP, hK, hDL, hZ⟩ := hv
  have hx := B.exec
  have hb := B.bytes
  have hr := B.returns
  have hts := WS_ts B.pre
  have hown : s.vm.findClass RX5 = some m.cls := findClass_of_methodNamed B.named
  have hlocks := B.notSynchronized
  subst hsz
  have hD := hDL.self (sz := s.heap.size)
  have hAlo := A_lo hDL hlo
  generalize hAe : va_A [(h0, .inr (5, (fX5 h1 h2 h3 h4))), (aI k h1 10 (vv n see tm g)), (aI k h2 24 ff), (aI k h3 24 fp), (aI k h4 4 fl), (d0, .inr (5, (fX5 d1 d2 d3 d4))), (aI k d1 10 (vv nq seeq tmq gq)), (aI k d2 24 ffq), (aI k d3 24 fpq), (aI k d4 4 flq)] s.heap.size = A at hD hAlo ⊢
  have hA : ∀ q : Nat, s.heap.size ≤ q → A q := fun q h => by rw [← hAe]; exact Or.inr h
  have hS : va_S A s.heap s.heap [] := va_S.rf
  have hl := lv_entry ([.ref h0, .ref d0]) (n := 3) (Nat.le_of_ble_eq_true rfl)
  rw [lg_entry_eq]
  generalize (lg_sl ([.ref h0, .ref d0]) ++ List.replicate (3 - (lg_sl ([.ref h0, .ref d0])).length) Slot.unset).toArray = ls at hl ⊢
  have hl : lv_has ls 3 [(0, .ref h0), (1, .ref d0)] := hl
  refine lv_aload_n hx hb dX5_become_0 rfl (lv_at hl 1 rfl) ?_
  refine va_get (D := D) (ci := 5) (v := .ref d1) (C := RX5) (T := TX5) (N := 4) hx hb hts inX5 hown hK hP 5 rfl rfl 0 (by decide) (hts _ tw_146) (fun _ h9 => h9) rfl dX5_become_1 ?_
  refine lv_iconst (v := 0) hx hb dX5_become_4 (by decide) ?_
  refine lv_aload_n hx hb dX5_become_5 rfl (lv_at hl 0 rfl) ?_
  refine va_get (D := D) (ci := 5) (v := .ref h1) (C := RX5) (T := TX5) (N := 4) hx hb hts inX5 hown hK hP 0 rfl rfl 0 (by decide) (hts _ tw_146) (fun _ h9 => h9) rfl dX5_become_6 ?_
  refine lv_iconst (v := 0) hx hb dX5_become_9 (by decide) ?_
  refine lv_bipush (v := 10) hx hb dX5_become_10 (by decide) ?_
  refine va_copyi hx hb (by rw [hml]; exact hl.1.symm) hown (hts _ tw_364) (hts _ tw_366) (hts _ tw_365) (hts _ tw_88) hK hP hD hS 6 1 1 1 rfl rfl rfl rfl rfl (by decide) (by decide) (by decide) (by decide) (by decide) (fun _ _ => rfl) (Nat.le_of_ble_eq_true rfl) (Nat.le_of_ble_eq_true rfl) dX5_become_12 (fun H locs hP hD hS => ?_)
  have hQ9 := pd_mk [(h0, .inr (5, (fX5 h1 h2 h3 h4))), (aI k h1 10 (va_cpy (vv nq seeq tmq gq) (vv n see tm g) 0 0 10)), (aI k h2 24 ff), (aI k h3 24 fp), (aI k h4 4 fl), (d0, .inr (5, (fX5 d1 d2 d3 d4))), (aI k d1 10 (vv nq seeq tmq gq)), (aI k d2 24 ffq), (aI k d3 24 fpq), (aI k d4 4 flq)] hP hD
  clear hP hD
  obtain ⟨hP, hD⟩ := hQ9
  rw [show va_cpy (vv nq seeq tmq gq) (vv n see tm g) 0 0 10 = vv nq seeq tmq (va_cpy gq g 0 0 10) from vv_cpy _ _ _ _ _ _ _ _] at hP hD
  obtain ⟨gg_1, hgg_1⟩ : ∃ z : Nat → Int32, z = va_cpy gq g 0 0 10 := ⟨_, rfl⟩
  rw [← hgg_1] at hP hD
  have hQ9 := pd_mk [(h0, .inr (5, (fX5 h1 h2 h3 h4))), (aI k h1 10 (vv nq seeq tmq gg_1)), (aI k h2 24 ff), (aI k h3 24 fp), (aI k h4 4 fl), (d0, .inr (5, (fX5 d1 d2 d3 d4))), (aI k d1 10 (vv nq seeq tmq gq)), (aI k d2 24 ffq), (aI k d3 24 fpq), (aI k d4 4 flq)] hP hD
  clear hP hD
  obtain ⟨hP, hD⟩ := hQ9
  refine lv_aload_n hx hb dX5_become_15 rfl (lv_at hl 1 rfl) ?_
  refine va_get (D := D) (ci := 5) (v := .ref d2) (C := RX5) (T := TX5) (N := 4) hx hb hts inX5 hown hK hP 5 rfl rfl 1 (by decide) (hts _ tw_150) (fun _ h9 => h9) rfl dX5_become_16 ?_
  refine lv_iconst (v := 0) hx hb dX5_become_19 (by decide) ?_
  refine lv_aload_n hx hb dX5_become_20 rfl (lv_at hl 0 rfl) ?_
  refine va_get (D := D) (ci := 5) (v := .ref h2) (C := RX5) (T := TX5) (N := 4) hx hb hts inX5 hown hK hP 0 rfl rfl 1 (by decide) (hts _ tw_150) (fun _ h9 => h9) rfl dX5_become_21 ?_
  refine lv_iconst (v := 0) hx hb dX5_become_24 (by decide) ?_
  refine lv_bipush (v := 24) hx hb dX5_become_25 (by decide) ?_
  refine va_copyi hx hb (by rw [hml]; exact hl.1.symm) hown (hts _ tw_364) (hts _ tw_366) (hts _ tw_365) (hts _ tw_88) hK hP hD hS 7 2 1 1 rfl rfl rfl rfl rfl (by decide) (by decide) (by decide) (by decide) (by decide) (fun _ _ => rfl) (Nat.le_of_ble_eq_true rfl) (Nat.le_of_ble_eq_true rfl) dX5_become_27 (fun H locs hP hD hS => ?_)
  have hQ9 := pd_mk [(h0, .inr (5, (fX5 h1 h2 h3 h4))), (aI k h1 10 (vv nq seeq tmq gg_1)), (aI k h2 24 (va_cpy ffq ff 0 0 24)), (aI k h3 24 fp), (aI k h4 4 fl), (d0, .inr (5, (fX5 d1 d2 d3 d4))), (aI k d1 10 (vv nq seeq tmq gq)), (aI k d2 24 ffq), (aI k d3 24 fpq), (aI k d4 4 flq)] hP hD
  clear hP hD
  obtain ⟨hP, hD⟩ := hQ9
  refine lv_aload_n hx hb dX5_become_30 rfl (lv_at hl 1 rfl) ?_
  refine va_get (D := D) (ci := 5) (v := .ref d3) (C := RX5) (T := TX5) (N := 4) hx hb hts inX5 hown hK hP 5 rfl rfl 2 (by decide) (hts _ tw_152) (fun _ h9 => h9) rfl dX5_become_31 ?_
  refine lv_iconst (v := 0) hx hb dX5_become_34 (by decide) ?_
  refine lv_aload_n hx hb dX5_become_35 rfl (lv_at hl 0 rfl) ?_
  refine va_get (D := D) (ci := 5) (v := .ref h3) (C := RX5) (T := TX5) (N := 4) hx hb hts inX5 hown hK hP 0 rfl rfl 2 (by decide) (hts _ tw_152) (fun _ h9 => h9) rfl dX5_become_36 ?_
  refine lv_iconst (v := 0) hx hb dX5_become_39 (by decide) ?_
  refine lv_bipush (v := 24) hx hb dX5_become_40 (by decide) ?_
  refine va_copyi hx hb (by rw [hml]; exact hl.1.symm) hown (hts _ tw_364) (hts _ tw_366) (hts _ tw_365) (hts _ tw_88) hK hP hD hS 8 3 1 1 rfl rfl rfl rfl rfl (by decide) (by decide) (by decide) (by decide) (by decide) (fun _ _ => rfl) (Nat.le_of_ble_eq_true rfl) (Nat.le_of_ble_eq_true rfl) dX5_become_42 (fun H locs hP hD hS => ?_)
  have hQ9 := pd_mk [(h0, .inr (5, (fX5 h1 h2 h3 h4))), (aI k h1 10 (vv nq seeq tmq gg_1)), (aI k h2 24 (va_cpy ffq ff 0 0 24)), (aI k h3 24 (va_cpy fpq fp 0 0 24)), (aI k h4 4 fl), (d0, .inr (5, (fX5 d1 d2 d3 d4))), (aI k d1 10 (vv nq seeq tmq gq)), (aI k d2 24 ffq), (aI k d3 24 fpq), (aI k d4 4 flq)] hP hD
  clear hP hD
  obtain ⟨hP, hD⟩ := hQ9
  refine lv_iconst (v := 0) hx hb dX5_become_45 (by decide) ?_
  refine lv_istore_n (lv' := [(2, .int 0), (0, .ref h0), (1, .ref d0)]) hx hb dX5_become_46 rfl hl (by decide) rfl (fun ls hl => ?_)
  refine W_loop (σ := Nat × (Nat → Int32)) (fun (n_ : Nat) (x_ : Nat × (Nat → Int32)) (H : Heap) (locs : List Loc) (ls : Array Slot) => match x_ with | (rn2_7, fl2_7) => n_ = 4 - rn2_7 ∧ (rn2_7 ≤ 4 ∧ ∀ r, r < rn2_7 → fl2_7 r = pLate (sdX nq seeq tmq gq ffq fpq) r) ∧ va_P D classes [(h0, .inr (5, (fX5 h1 h2 h3 h4))), (aI k h1 10 (vv nq seeq tmq gg_1)), (aI k h2 24 (va_cpy ffq ff 0 0 24)), (aI k h3 24 (va_cpy fpq fp 0 0 24)), (aI k h4 4 fl2_7), (d0, .inr (5, (fX5 d1 d2 d3 d4))), (aI k d1 10 (vv nq seeq tmq gq)), (aI k d2 24 ffq), (aI k d3 24 fpq), (aI k d4 4 flq)] H ∧ va_D A [(h0, .inr (5, (fX5 h1 h2 h3 h4))), (aI k h1 10 (vv nq seeq tmq gg_1)), (aI k h2 24 (va_cpy ffq ff 0 0 24)), (aI k h3 24 (va_cpy fpq fp 0 0 24)), (aI k h4 4 fl2_7), (d0, .inr (5, (fX5 d1 d2 d3 d4))), (aI k d1 10 (vv nq seeq tmq gq)), (aI k d2 24 ffq), (aI k d3 24 fpq), (aI k d4 4 flq)] ∧ va_S A s.heap H locs ∧ lv_has ls 3 [(2, .int (nI rn2_7)), (0, .ref h0), (1, .ref d0)]) (fun n_7 x_7 H locs ls hI ih_7 => ?_) _ (0, fl) ⟨rfl, ⟨by omega, fun r hr => absurd hr (Nat.not_lt_zero r)⟩, hP, hD, hS, (lv_sub hl [0, 1, 2] rfl)⟩
  obtain ⟨rn2_7, fl2_7⟩ := x_7
  obtain ⟨hm_7, hv_7, hP, hD, hS, hl⟩ := hI
  subst hm_7
  refine lv_iload_n hx hb dX5_become_47 rfl (lv_at hl 0 rfl) ?_
  refine lv_iconst (v := 4) hx hb dX5_become_48 (by decide) ?_
  refine lv_icmp_ge (tgt := 87) hx hb dX5_become_49 (by decide) (fun c_8 => ?_) (fun c_8 => ?_)
  · have c_8 := (nI_leI (a := 4) (b := rn2_7) (by omega) (by omega)).mp c_8
    obtain ⟨hP9, hD9⟩ := pd_sub [(h0, .inr (5, (fX5 h1 h2 h3 h4))), (aI k h1 10 (vv nq seeq tmq gg_1)), (aI k h2 24 (va_cpy ffq ff 0 0 24)), (aI k h3 24 (va_cpy fpq fp 0 0 24)), (aI k h4 4 fl2_7), (d0, .inr (5, (fX5 d1 d2 d3 d4))), (aI k d1 10 (vv nq seeq tmq gq)), (aI k d2 24 ffq), (aI k d3 24 fpq), (aI k d4 4 flq)] [0, 1, 2, 3, 4, 5, 6, 7, 8, 9] hP hD (by decide +kernel) rfl
    exact W.vret hx hb hr (fun t ht hW => ⟨⟨(nq, seeq, tmq, gg_1, (va_cpy ffq ff 0 0 24), (va_cpy fpq fp 0 0 24), fl2_7), rfl, ⟨rfl, rfl, rfl, sd_cp (by omega) hgg_1, fun r hr => hv_7.2 r (by omega)⟩, by rw [ht]; exact hP9, hD9⟩, hS.F ht⟩) hS.2.2 dX5_become_87
  · have c_8 : ¬ (4 ≤ rn2_7) := fun h => c_8 ((nI_leI (a := 4) (b := rn2_7) (by omega) (by omega)).mpr h)
    refine lv_aload_n hx hb dX5_become_52 rfl (lv_at hl 1 rfl) ?_
    refine va_get (D := D) (ci := 5) (v := .ref h4) (C := RX5) (T := TX5) (N := 4) hx hb hts inX5 hown hK hP 0 rfl rfl 3 (by decide) (hts _ tw_154) (fun _ h9 => h9) rfl dX5_become_53 ?_
    refine lv_iload_n hx hb dX5_become_56 rfl (lv_at hl 0 rfl) ?_
    refine lv_aload_n hx hb dX5_become_57 rfl (lv_at hl 1 rfl) ?_
    refine va_get (D := D) (ci := 5) (v := .ref h1) (C := RX5) (T := TX5) (N := 4) hx hb hts inX5 hown hK hP 0 rfl rfl 0 (by decide) (hts _ tw_146) (fun _ h9 => h9) rfl dX5_become_58 ?_
    refine lv_iconst (v := 4) hx hb dX5_become_61 (by decide) ?_
    refine va_iald hx hb hK hP 1 1 rfl rfl (by unfold vp_in; decide) dX5_become_62 ?_
    refine lv_ti (y := (gg_1 4)) (by rfl) ?_
    refine lv_iconst (v := 0) hx hb dX5_become_63 (by decide) ?_
    refine lv_aload_n hx hb dX5_become_64 rfl (lv_at hl 1 rfl) ?_
    refine lv_iload_n hx hb dX5_become_65 rfl (lv_at hl 0 rfl) ?_
    refine ro_i (D := D) (va_runV (As := [.int (nI rn2_7)]) (rest := [.int 0, .int (gg_1 4), .int (nI rn2_7), .ref h4]) ⟨hx, hb, hml, hown, hts⟩ ((y_arrivalOf l D k st lo h0 h1 h2 h3 h4 nq seeq tmq gg_1 rn2_7) H.size) (cwV 1 hts (gV tw_505 tw_507 tw_3 tw_81 tw_508) rfl rfl rfl (by decide +kernel) ⟨Nat.le_of_ble_eq_true rfl, Nat.le_of_ble_eq_true rfl⟩) (pV hS hAlo hlo hP hK (va_Dlo hD hAlo) hZ [0, 1] (by decide) rfl (ci := 5) (q := (RX5, TX5, 4)) (q0 := 0) rfl rfl) rfl rfl hl.1 rfl (lv_room (Nat.le_of_ble_eq_true rfl)) dX5_become_66 ⟨Nat.le_of_ble_eq_true rfl, Nat.le_of_ble_eq_true rfl⟩) hS hA hP (fun r_9 H locs hw_9 hP hS => ?_)
    try dsimp only at hw_9
    refine lv_aload_n hx hb dX5_become_69 rfl (lv_at hl 1 rfl) ?_
    refine va_get (D := D) (ci := 5) (v := .ref h1) (C := RX5) (T := TX5) (N := 4) hx hb hts inX5 hown hK hP 0 rfl rfl 0 (by decide) (hts _ tw_146) (fun _ h9 => h9) rfl dX5_become_70 ?_
    refine lv_iconst (v := 5) hx hb dX5_become_73 (by decide) ?_
    refine va_iald hx hb hK hP 1 1 rfl rfl (by unfold vp_in; decide) dX5_become_74 ?_
    refine lv_ti (y := (gg_1 5)) (by rfl) ?_
    refine lv_isub hx hb dX5_become_75 ?_
    refine lv_topi (fun x_10 ex_10 => ?_)
    refine va_mmax hx hb (by rw [hml]; exact hl.1.symm) hown (hts _ tw_509) (hts _ tw_510) (hts _ tw_93) (hts _ tw_511) (Nat.le_of_ble_eq_true rfl) (Nat.le_of_ble_eq_true rfl) (Nat.le_of_ble_eq_true rfl) (Nat.le_of_ble_eq_true rfl) dX5_become_76 ?_
    refine lv_topi (fun x_11 ex_11 => ?_)
    refine lv_imul hx hb dX5_become_79 ?_
    refine lv_topi (fun x_12 ex_12 => ?_)
    refine va_iast hx hb hK hP hD hS 4 1 rfl rfl (vp_in_nI (by omega) (by decide)) dX5_become_80 (fun H locs hP hD hS => ?_)
    have hQ9 := pd_mk [(h0, .inr (5, (fX5 h1 h2 h3 h4))), (aI k h1 10 (vv nq seeq tmq gg_1)), (aI k h2 24 (va_cpy ffq ff 0 0 24)), (aI k h3 24 (va_cpy fpq fp 0 0 24)), (aI k h4 4 (upd fl2_7 (Int32.toNatClampNeg (nI rn2_7)) x_12)), (d0, .inr (5, (fX5 d1 d2 d3 d4))), (aI k d1 10 (vv nq seeq tmq gq)), (aI k d2 24 ffq), (aI k d3 24 fpq), (aI k d4 4 flq)] hP hD
    clear hP hD
    obtain ⟨hP, hD⟩ := hQ9
    rw [nI_clamp (n := rn2_7) (by omega)] at hP hD
    have hQ9 := pd_mk [(h0, .inr (5, (fX5 h1 h2 h3 h4))), (aI k h1 10 (vv nq seeq tmq gg_1)), (aI k h2 24 (va_cpy ffq ff 0 0 24)), (aI k h3 24 (va_cpy fpq fp 0 0 24)), (aI k h4 4 (upd fl2_7 rn2_7 x_12)), (d0, .inr (5, (fX5 d1 d2 d3 d4))), (aI k d1 10 (vv nq seeq tmq gq)), (aI k d2 24 ffq), (aI k d3 24 fpq), (aI k d4 4 flq)] hP hD
    clear hP hD
    obtain ⟨hP, hD⟩ := hQ9
    refine lv_iinc (v := (nI (rn2_7 + 1))) (lv' := [(2, .int (nI (rn2_7 + 1))), (0, .ref h0), (1, .ref d0)]) hx hb dX5_become_81 hl (k := 0) rfl (nI_add rn2_7 1) (by decide) rfl (fun ls hl => ?_)
    refine lv_goto (tgt := 47) hx hb dX5_become_84 (by decide) ?_
    exact ih_7 _ (rn2_7 + 1, (upd fl2_7 rn2_7 x_12)) _ _ _ (by omega) ⟨rfl, ⟨by omega, la_upd hv_7.2 (la_step hgg_1 hw_9 ex_10 ex_11 ex_12)⟩, hP, hD, hS, (lv_sub hl [0, 1, 2] rfl)⟩


set_option maxHeartbeats 4000000 in
set_option maxRecDepth 100000 in
theorem y_chance (l : Launch) (D : va_G) (k : Nat → ClassId) (st : Nat → Nat) (lo : Nat) (a : Nat → Nat) (rk : Nat) (lfa : Int32) (n0 : Nat) (see0 : Nat) (tm0 : Nat) (g0 : Nat → Int32) (ff0 : Nat → Int32) (fp0 : Nat → Int32) (n1 : Nat) (see1 : Nat) (tm1 : Nat) (g1 : Nat → Int32) (ff1 : Nat → Int32) (fp1 : Nat → Int32) (n2 : Nat) (see2 : Nat) (tm2 : Nat) (g2 : Nat → Int32) (ff2 : Nat → Int32) (fp2 : Nat → Int32) (p0 : Int32) (p1 : Int32) (p2 : Int32) (hn0 : n0 ≤ 24) (hse0 : see0 ≤ 2) (htm0 : tm0 ≤ 3) (hn1 : n1 ≤ 24) (hse1 : see1 ≤ 2) (htm1 : tm1 ≤ 3) (hn2 : n2 ≤ 24) (hse2 : see2 ≤ 2) (htm2 : tm2 ≤ 3) (hok : ∀ i, i < 3 → okD ((d3 (sdX n0 see0 tm0 g0 ff0 fp0) (sdX n1 see1 tm1 g1 ff1 fp1) (sdX n2 see2 tm2 g2 ff2 fp2)) i)) : CRi l D k st lo yX7_chance cX7_chance 4 (some .int) ({ frames := 3, cells := 0, slots := 0, locals := 83 }) [.ref (a 0), .int p0, .int p1, .int p2] [((a 0), .inr (7, (fX7 (a 1) (a 3) (a 19) (a 35) (a 40) (nI rk) lfa (a 53) (a 56) (a 63) (a 64) (a 68)))), ((a 3), .inl (k 3, 3, .inr (.inr (.inr (.inr (a3 (a 4) (a 9) (a 14))))))), ((a 4), .inr (5, (fX5 (a 5) (a 6) (a 7) (a 8)))), (aI k (a 5) 10 (vv n0 see0 tm0 g0)), (aI k (a 6) 24 ff0), (aI k (a 7) 24 fp0), ((a 9), .inr (5, (fX5 (a 10) (a 11) (a 12) (a 13)))), (aI k (a 10) 10 (vv n1 see1 tm1 g1)), (aI k (a 11) 24 ff1), (aI k (a 12) 24 fp1), ((a 14), .inr (5, (fX5 (a 15) (a 16) (a 17) (a 18)))), (aI k (a 15) 10 (vv n2 see2 tm2 g2)), (aI k (a 16) 24 ff2), (aI k (a 17) 24 fp2)] (fun r => dqP (d3 (sdX n0 see0 tm0 g0 ff0 fp0) (sdX n1 see1 tm1 g1 ff1 fp1) (sdX n2 see2 tm2 g2 ff2 fp2)) p0 p1 (chA p2) r) := by
  intro sz
  refine Met.ofW (cc := cX7_chance) (maxL := 4) (ret := (some .int)) (by decide) rfl ?_
  intro p e s m args below meth c s₁ B hml hv
  obtain ⟨rfl, hsz, hlo, hP, hK, hDL, hZ⟩ := hv
  have hx := B.exec
  have hb := B.bytes
  have hr := B.returns
  have hts := WS_ts B.pre
  have hown : s.vm.findClass RX7 = some m.cls := findClass_of_methodNamed B.named
  have hlocks := B.notSynchronized
  subst hsz
  have hA : ∀ q : Nat, s.heap.size ≤ q → (fun q : Nat => s.heap.size ≤ q) q := fun _ h => h
  have hAlo : ∀ q : Nat, (fun q : Nat => s.heap.size ≤ q) q → lo ≤ q := fun q h => Nat.le_trans hlo h
  have hS : va_S (fun q : Nat => s.heap.size ≤ q) s.heap s.heap [] := va_S.rf
  have hl := lv_entry ([.ref (a 0), .int p0, .int p1, .int p2]) (n := 4) (Nat.le_of_ble_eq_true rfl)
  rw [lg_entry_eq]
  generalize (lg_sl ([.ref (a 0), .int p0, .int p1, .int p2]) ++ List.replicate (4 - (lg_sl ([.ref (a 0), .int p0, .int p1, .int p2])).length) Slot.unset).toArray = ls at hl ⊢
  have hl : lv_has ls 4 [(0, .ref (a 0)), (1, .int p0), (2, .int p1), (3, .int p2)] := hl
  refine lv_aload_n hx hb dX7_chance_0 rfl (lv_at hl 0 rfl) ?_
  refine lv_iload_n hx hb dX7_chance_1 rfl (lv_at hl 1 rfl) ?_
  refine lv_iload_n hx hb dX7_chance_2 rfl (lv_at hl 2 rfl) ?_
  refine ro_i (D := D) (va_runV (As := [.int p0, .int p1]) (rest := []) ⟨hx, hb, hml, hown, hts⟩ ((y_isDoor l D k st lo a rk lfa n0 see0 tm0 g0 n1 see1 tm1 g1 n2 see2 tm2 g2 p0 p1 (by first | assumption | omega) (by first | assumption | omega) (by first | assumption | omega)) s.heap.size) (cwV 2 hts (gV tw_600 tw_602 tw_9 tw_79 tw_603) rfl rfl rfl (by decide +kernel) ⟨Nat.le_of_ble_eq_true rfl, Nat.le_of_ble_eq_true rfl⟩) (pV hS hAlo hlo hP hK hDL hZ [0, 1, 2, 3, 6, 7, 10, 11] (by decide) rfl (ci := 7) (q := (RX7, TX7, 12)) (q0 := 0) rfl rfl) rfl rfl hl.1 rfl (lv_room (Nat.le_of_ble_eq_true rfl)) dX7_chance_3 ⟨Nat.le_of_ble_eq_true rfl, Nat.le_of_ble_eq_true rfl⟩) hS hA hP (fun r_1 H locs hw_1 hP hS => ?_)
  try dsimp only at hw_1
  rcases hw_1 with ⟨rfl, ⟨rfl, id_2, hid_2, rfl⟩ | ⟨rfl, id_2, hid_2, rfl⟩ | ⟨rfl, id_2, hid_2, rfl⟩⟩ | ⟨rfl, hw_1⟩
  · refine lv_if_eq (tgt := 23) hx hb dX7_chance_6 (by decide) (fun h => absurd h (by decide)) (fun _ => ?_)
    refine lv_aload_n hx hb dX7_chance_9 rfl (lv_at hl 0 rfl) ?_
    refine va_get (D := D) (ci := 7) (v := .ref (a 3)) (C := RX7) (T := TX7) (N := 12) hx hb hts inX7 hown hK hP 0 rfl rfl 1 (by decide) (hts _ tw_306) (fun _ h9 => h9) rfl dX7_chance_10 ?_
    refine lv_iload_n hx hb dX7_chance_13 rfl (lv_at hl 1 rfl) ?_
    refine va_aldq hx hb hK hP 1 3 rfl rfl (by unfold vp_in; decide) dX7_chance_14 ?_
    refine lv_tr (y := .ref (a 4)) rfl ?_
    refine lv_iload_n hx hb dX7_chance_15 rfl (lv_at hl 2 rfl) ?_
    refine lv_iload_n hx hb dX7_chance_16 rfl (lv_at hl 3 rfl) ?_
    refine ro_i (D := D) (va_runV (As := [.int (nI id_2), .int p2]) (rest := []) ⟨hx, hb, hml, hown, hts⟩ ((y_chanceOf l D k st lo (a 4) (a 5) (a 6) (a 7) (a 8) n0 see0 tm0 g0 ff0 id_2 p2 (by first | assumption | omega)) H.size) (cwV 2 hts (gV tw_608 tw_565 tw_566 tw_81 tw_567) rfl rfl rfl (by decide +kernel) ⟨Nat.le_of_ble_eq_true rfl, Nat.le_of_ble_eq_true rfl⟩) (pV hS hAlo hlo hP hK hDL hZ [2, 3, 4] (by decide) rfl (ci := 5) (q := (RX5, TX5, 4)) (q0 := 0) rfl rfl) rfl rfl hl.1 rfl (lv_room (Nat.le_of_ble_eq_true rfl)) dX7_chance_17 ⟨Nat.le_of_ble_eq_true rfl, Nat.le_of_ble_eq_true rfl⟩) hS hA hP (fun r_3 H locs hw_3 hP hS => ?_)
    try dsimp only at hw_3
    refine lv_goto (tgt := 26) hx hb dX7_chance_20 (by decide) ?_
    exact W.iret (v := r_3) hx hb hr (fun t ht hW => ⟨⟨r_3, (), rfl, dq_at (s := 0) (by omega) (show n0 ≤ 24 by omega) (show id_2 < n0 by omega) (show chA p2 (sdX n0 see0 tm0 g0 ff0 fp0) _ _ from hw_3.trans (xChance (by omega) (okX (hok 0 (by omega)) (by omega)))), trivial⟩, hS.F ht⟩) hS.2.2 dX7_chance_26
  · refine lv_if_eq (tgt := 23) hx hb dX7_chance_6 (by decide) (fun h => absurd h (by decide)) (fun _ => ?_)
    refine lv_aload_n hx hb dX7_chance_9 rfl (lv_at hl 0 rfl) ?_
    refine va_get (D := D) (ci := 7) (v := .ref (a 3)) (C := RX7) (T := TX7) (N := 12) hx hb hts inX7 hown hK hP 0 rfl rfl 1 (by decide) (hts _ tw_306) (fun _ h9 => h9) rfl dX7_chance_10 ?_
    refine lv_iload_n hx hb dX7_chance_13 rfl (lv_at hl 1 rfl) ?_
    refine va_aldq hx hb hK hP 1 3 rfl rfl (by unfold vp_in; decide) dX7_chance_14 ?_
    refine lv_tr (y := .ref (a 9)) rfl ?_
    refine lv_iload_n hx hb dX7_chance_15 rfl (lv_at hl 2 rfl) ?_
    refine lv_iload_n hx hb dX7_chance_16 rfl (lv_at hl 3 rfl) ?_
    refine ro_i (D := D) (va_runV (As := [.int (nI id_2), .int p2]) (rest := []) ⟨hx, hb, hml, hown, hts⟩ ((y_chanceOf l D k st lo (a 9) (a 10) (a 11) (a 12) (a 13) n1 see1 tm1 g1 ff1 id_2 p2 (by first | assumption | omega)) H.size) (cwV 2 hts (gV tw_608 tw_565 tw_566 tw_81 tw_567) rfl rfl rfl (by decide +kernel) ⟨Nat.le_of_ble_eq_true rfl, Nat.le_of_ble_eq_true rfl⟩) (pV hS hAlo hlo hP hK hDL hZ [6, 7, 8] (by decide) rfl (ci := 5) (q := (RX5, TX5, 4)) (q0 := 0) rfl rfl) rfl rfl hl.1 rfl (lv_room (Nat.le_of_ble_eq_true rfl)) dX7_chance_17 ⟨Nat.le_of_ble_eq_true rfl, Nat.le_of_ble_eq_true rfl⟩) hS hA hP (fun r_4 H locs hw_4 hP hS => ?_)
    try dsimp only at hw_4
    refine lv_goto (tgt := 26) hx hb dX7_chance_20 (by decide) ?_
    exact W.iret (v := r_4) hx hb hr (fun t ht hW => ⟨⟨r_4, (), rfl, dq_at (s := 1) (by omega) (show n1 ≤ 24 by omega) (show id_2 < n1 by omega) (show chA p2 (sdX n1 see1 tm1 g1 ff1 fp1) _ _ from hw_4.trans (xChance (by omega) (okX (hok 1 (by omega)) (by omega)))), trivial⟩, hS.F ht⟩) hS.2.2 dX7_chance_26
  · refine lv_if_eq (tgt := 23) hx hb dX7_chance_6 (by decide) (fun h => absurd h (by decide)) (fun _ => ?_)
    refine lv_aload_n hx hb dX7_chance_9 rfl (lv_at hl 0 rfl) ?_
    refine va_get (D := D) (ci := 7) (v := .ref (a 3)) (C := RX7) (T := TX7) (N := 12) hx hb hts inX7 hown hK hP 0 rfl rfl 1 (by decide) (hts _ tw_306) (fun _ h9 => h9) rfl dX7_chance_10 ?_
    refine lv_iload_n hx hb dX7_chance_13 rfl (lv_at hl 1 rfl) ?_
    refine va_aldq hx hb hK hP 1 3 rfl rfl (by unfold vp_in; decide) dX7_chance_14 ?_
    refine lv_tr (y := .ref (a 14)) rfl ?_
    refine lv_iload_n hx hb dX7_chance_15 rfl (lv_at hl 2 rfl) ?_
    refine lv_iload_n hx hb dX7_chance_16 rfl (lv_at hl 3 rfl) ?_
    refine ro_i (D := D) (va_runV (As := [.int (nI id_2), .int p2]) (rest := []) ⟨hx, hb, hml, hown, hts⟩ ((y_chanceOf l D k st lo (a 14) (a 15) (a 16) (a 17) (a 18) n2 see2 tm2 g2 ff2 id_2 p2 (by first | assumption | omega)) H.size) (cwV 2 hts (gV tw_608 tw_565 tw_566 tw_81 tw_567) rfl rfl rfl (by decide +kernel) ⟨Nat.le_of_ble_eq_true rfl, Nat.le_of_ble_eq_true rfl⟩) (pV hS hAlo hlo hP hK hDL hZ [10, 11, 12] (by decide) rfl (ci := 5) (q := (RX5, TX5, 4)) (q0 := 0) rfl rfl) rfl rfl hl.1 rfl (lv_room (Nat.le_of_ble_eq_true rfl)) dX7_chance_17 ⟨Nat.le_of_ble_eq_true rfl, Nat.le_of_ble_eq_true rfl⟩) hS hA hP (fun r_5 H locs hw_5 hP hS => ?_)
    try dsimp only at hw_5
    refine lv_goto (tgt := 26) hx hb dX7_chance_20 (by decide) ?_
    exact W.iret (v := r_5) hx hb hr (fun t ht hW => ⟨⟨r_5, (), rfl, dq_at (s := 2) (by omega) (show n2 ≤ 24 by omega) (show id_2 < n2 by omega) (show chA p2 (sdX n2 see2 tm2 g2 ff2 fp2) _ _ from hw_5.trans (xChance (by omega) (okX (hok 2 (by omega)) (by omega)))), trivial⟩, hS.F ht⟩) hS.2.2 dX7_chance_26
  · refine lv_if_eq (tgt := 23) hx hb dX7_chance_6 (by decide) (fun _ => ?_) (fun h => absurd (by decide) h)
    refine lv_sipush (v := (-1001)) hx hb dX7_chance_23 (by decide) ?_
    exact W.iret (v := (-1001)) hx hb hr (fun t ht hW => ⟨⟨(-1001), (), rfl, dq_no (fun s h1 h2 i h3 h4 => hw_1 s h1 h2 i h3 (by rw [d3_n] at h4; exact h4)), trivial⟩, hS.F ht⟩) hS.2.2 dX7_chance_26


set_option maxHeartbeats 4000000 in
set_option maxRecDepth 100000 in
theorem n_chance (l : Launch) (D : va_G) (k : Nat → ClassId) (st : Nat → Nat) (lo : Nat) (a : Nat → Nat) (tx : Nat) (t0 : Nat) (we : Nat) (rd : Nat) (ru : Nat) (rw : Nat) (ca : Nat) (fp : Int32) (wd : Int64) (nu : Int32) (na : Int32) (ts : Int32) (df : Int32) (db : Int32) (sd : Int32) (dn : Nat → Nat) (se : Nat → Nat) (tm : Nat → Nat) (gs : Nat → Int32) (ffrees : Nat → Int32) (fprices : Nat → Int32) (p0 : Int32) (p1 : Int32) (p2 : Int32) (hdn : ∀ j, dn j ≤ 24) (hse : ∀ j, se j ≤ 2) (htm : ∀ j, tm j ≤ 3) : CRi l D k st lo yX8_chance cX8_chance 4 (some .int) ({ frames := 2, cells := 0, slots := 0, locals := 47 }) [.ref (a 0), .int p0, .int p1, .int p2] [((a 0), .inr (8, (fX8 a (nI tx) fp (nI t0) wd (nI we) nu na (nI rd) ts (nI ru) (nI rw) (nI ca) df db sd))), (aI k (a 1) 3 (nF dn)), (aI k (a 4) 27 (sg se tm gs)), (aI k (a 2) 72 ffrees), (aI k (a 3) 72 fprices)] (fun r => dqP (sdM dn (sg se tm gs) ffrees fprices) p0 p1 (chA p2) r) := by
  intro sz
  refine Met.ofW (cc := cX8_chance) (maxL := 4) (ret := (some .int)) (by decide) rfl ?_
  intro p e s m args below meth c s₁ B hml hv
  obtain ⟨rfl, hsz, hlo, hP, hK, hDL, hZ⟩ := hv
  have hx := B.exec
  have hb := B.bytes
  have hr := B.returns
  have hts := WS_ts B.pre
  have hown : s.vm.findClass RX8 = some m.cls := findClass_of_methodNamed B.named
  have hlocks := B.notSynchronized
  subst hsz
  have hA : ∀ q : Nat, s.heap.size ≤ q → (fun q : Nat => s.heap.size ≤ q) q := fun _ h => h
  have hAlo : ∀ q : Nat, (fun q : Nat => s.heap.size ≤ q) q → lo ≤ q := fun q h => Nat.le_trans hlo h
  have hS : va_S (fun q : Nat => s.heap.size ≤ q) s.heap s.heap [] := va_S.rf
  have hl := lv_entry ([.ref (a 0), .int p0, .int p1, .int p2]) (n := 4) (Nat.le_of_ble_eq_true rfl)
  rw [lg_entry_eq]
  generalize (lg_sl ([.ref (a 0), .int p0, .int p1, .int p2]) ++ List.replicate (4 - (lg_sl ([.ref (a 0), .int p0, .int p1, .int p2])).length) Slot.unset).toArray = ls at hl ⊢
  have hl : lv_has ls 4 [(0, .ref (a 0)), (1, .int p0), (2, .int p1), (3, .int p2)] := hl
  refine lv_aload_n hx hb dX8_chance_0 rfl (lv_at hl 0 rfl) ?_
  refine lv_iload_n hx hb dX8_chance_1 rfl (lv_at hl 1 rfl) ?_
  refine ro_i (D := D) (va_runV (As := [.int p0]) (rest := []) ⟨hx, hb, hml, hown, hts⟩ ((n_isStreet l D k st lo a tx t0 we rd ru rw ca fp wd nu na ts df db sd dn p0 hdn) s.heap.size) (cwV 1 hts (gV tw_1189 tw_1191 tw_38 tw_87 tw_1192) rfl rfl rfl (by decide +kernel) ⟨Nat.le_of_ble_eq_true rfl, Nat.le_of_ble_eq_true rfl⟩) (pV hS hAlo hlo hP hK hDL hZ [0, 1] (by decide) rfl (ci := 8) (q := (RX8, TX8, 44)) (q0 := 0) rfl rfl) rfl rfl hl.1 rfl (lv_room (Nat.le_of_ble_eq_true rfl)) dX8_chance_2 ⟨Nat.le_of_ble_eq_true rfl, Nat.le_of_ble_eq_true rfl⟩) hS hA hP (fun r_1 H locs hw_1 hP hS => ?_)
  try dsimp only at hw_1
  rcases hw_1 with ⟨rfl, j_2, hj_2, rfl, hw_1⟩ | ⟨rfl, hw_1⟩
  · have hdj_2 := hdn j_2
    have htj_2 := htm j_2
    refine lv_if_eq (tgt := 27) hx hb dX8_chance_5 (by decide) (fun h => absurd h (by decide)) (fun _ => ?_)
    refine lv_aload_n hx hb dX8_chance_8 rfl (lv_at hl 0 rfl) ?_
    refine lv_iload_n hx hb dX8_chance_9 rfl (lv_at hl 1 rfl) ?_
    refine lv_iload_n hx hb dX8_chance_10 rfl (lv_at hl 2 rfl) ?_
    refine ro_i (D := D) (va_runV (As := [.int (nI j_2), .int p1]) (rest := []) ⟨hx, hb, hml, hown, hts⟩ ((n_isDoor l D k st lo a tx t0 we rd ru rw ca fp wd nu na ts df db sd dn j_2 p1 hdn (by first | assumption | omega)) H.size) (cwV 2 hts (gV tw_1202 tw_1204 tw_40 tw_87 tw_1205) rfl rfl rfl (by decide +kernel) ⟨Nat.le_of_ble_eq_true rfl, Nat.le_of_ble_eq_true rfl⟩) (pV hS hAlo hlo hP hK hDL hZ [0, 1] (by decide) rfl (ci := 8) (q := (RX8, TX8, 44)) (q0 := 0) rfl rfl) rfl rfl hl.1 rfl (lv_room (Nat.le_of_ble_eq_true rfl)) dX8_chance_11 ⟨Nat.le_of_ble_eq_true rfl, Nat.le_of_ble_eq_true rfl⟩) hS hA hP (fun r_3 H locs hw_3 hP hS => ?_)
    try dsimp only at hw_3
    rcases hw_3 with ⟨rfl, j_4, hj_4, rfl, hw_3⟩ | ⟨rfl, hw_3⟩
    · refine lv_if_eq (tgt := 27) hx hb dX8_chance_14 (by decide) (fun h => absurd h (by decide)) (fun _ => ?_)
      refine lv_aload_n hx hb dX8_chance_17 rfl (lv_at hl 0 rfl) ?_
      refine lv_iload_n hx hb dX8_chance_18 rfl (lv_at hl 1 rfl) ?_
      refine lv_iload_n hx hb dX8_chance_19 rfl (lv_at hl 2 rfl) ?_
      refine lv_iload_n hx hb dX8_chance_20 rfl (lv_at hl 3 rfl) ?_
      refine ro_i (D := D) (va_runV (As := [.int (nI j_2), .int (nI j_4), .int p2]) (rest := []) ⟨hx, hb, hml, hown, hts⟩ ((n_chanceOf l D k st lo a tx t0 we rd ru rw ca fp wd nu na ts df db sd ffrees se tm gs j_2 j_4 p2 (by first | assumption | omega) (by first | assumption | omega)) H.size) (cwV 3 hts (gV tw_1210 tw_1212 tw_41 tw_87 tw_1213) rfl rfl rfl (by decide +kernel) ⟨Nat.le_of_ble_eq_true rfl, Nat.le_of_ble_eq_true rfl⟩) (pV hS hAlo hlo hP hK hDL hZ [0, 3, 2] (by decide) rfl (ci := 8) (q := (RX8, TX8, 44)) (q0 := 0) rfl rfl) rfl rfl hl.1 rfl (lv_room (Nat.le_of_ble_eq_true rfl)) dX8_chance_21 ⟨Nat.le_of_ble_eq_true rfl, Nat.le_of_ble_eq_true rfl⟩) hS hA hP (fun r_5 H locs hw_5 hP hS => ?_)
      try dsimp only at hw_5
      refine lv_goto (tgt := 30) hx hb dX8_chance_24 (by decide) ?_
      exact W.iret (v := r_5) hx hb hr (fun t ht hW => ⟨⟨r_5, (), rfl, dq_at (s := j_2) (by omega) (show dn j_2 ≤ 24 by omega) (show j_4 < dn j_2 by omega) (hw_5.trans (mChance (by omega))), trivial⟩, hS.F ht⟩) hS.2.2 dX8_chance_30
    · refine lv_if_eq (tgt := 27) hx hb dX8_chance_14 (by decide) (fun _ => ?_) (fun h => absurd (by decide) h)
      refine lv_sipush (v := (-1001)) hx hb dX8_chance_27 (by decide) ?_
      exact W.iret (v := (-1001)) hx hb hr (fun t ht hW => ⟨⟨(-1001), (), rfl, dq_no (fun s h1 h2 i h3 h4 => by have h9 := nI_inj (by omega) (by omega) h2; subst h9; exact hw_3 i h3 h4), trivial⟩, hS.F ht⟩) hS.2.2 dX8_chance_30
  · refine lv_if_eq (tgt := 27) hx hb dX8_chance_5 (by decide) (fun _ => ?_) (fun h => absurd (by decide) h)
    refine lv_sipush (v := (-1001)) hx hb dX8_chance_27 (by decide) ?_
    exact W.iret (v := (-1001)) hx hb hr (fun t ht hW => ⟨⟨(-1001), (), rfl, dq_no (fun s h1 h2 i h3 h4 => hw_1 s h1 h2 (by show 0 < dn s; replace h4 : i < dn s := h4; omega)), trivial⟩, hS.F ht⟩) hS.2.2 dX8_chance_30


set_option maxHeartbeats 4000000 in
set_option maxRecDepth 100000 in
theorem y_isRound_0 (l : Launch) (D : va_G) (k : Nat → ClassId) (st : Nat → Nat) (lo : Nat) (a : Nat → Nat) (rk : Nat) (lfa : Int32) (n0 : Nat) (see0 : Nat) (tm0 : Nat) (g0 : Nat → Int32) (p1 : Int32) (htm0 : tm0 ≤ 3) : CRi l D k st lo yX7_isRound cX7_isRound 3 (some .boolean) ({ frames := 1, cells := 0, slots := 0, locals := 22 }) [.ref (a 0), .int 0, .int p1] [((a 0), .inr (7, (fX7 (a 1) (a 3) (a 19) (a 35) (a 40) (nI rk) lfa (a 53) (a 56) (a 63) (a 64) (a 68)))), ((a 3), .inl (k 3, 3, .inr (.inr (.inr (.inr (a3 (a 4) (a 9) (a 14))))))), ((a 4), .inr (5, (fX5 (a 5) (a 6) (a 7) (a 8)))), (aI k (a 5) 10 (vv n0 see0 tm0 g0))] (fun r => (r = 1 ∧ ∃ q : Nat, q ≤ tm0 ∧ p1 = nI q) ∨ (r = 0 ∧ ¬ inB p1 0 (nI tm0))) := by
  intro sz
  refine Met.ofW (cc := cX7_isRound) (maxL := 3) (ret := (some .boolean)) (by decide) rfl ?_
  intro p e s m args below meth c s₁ B hml hv
  obtain ⟨rfl, hsz, hlo, hP, hK, hDL, hZ⟩ := hv
  have hx := B.exec
  have hb := B.bytes
  have hr := B.returns
  have hts := WS_ts B.pre
  have hown : s.vm.findClass RX7 = some m.cls := findClass_of_methodNamed B.named
  have hlocks := B.notSynchronized
  subst hsz
  have hA : ∀ q : Nat, s.heap.size ≤ q → (fun q : Nat => s.heap.size ≤ q) q := fun _ h => h
  have hAlo : ∀ q : Nat, (fun q : Nat => s.heap.size ≤ q) q → lo ≤ q := fun q h => Nat.le_trans hlo h
  have hS : va_S (fun q : Nat => s.heap.size ≤ q) s.heap s.heap [] := va_S.rf
  have hl := lv_entry ([.ref (a 0), .int 0, .int p1]) (n := 3) (Nat.le_of_ble_eq_true rfl)
  rw [lg_entry_eq]
  generalize (lg_sl ([.ref (a 0), .int 0, .int p1]) ++ List.replicate (3 - (lg_sl ([.ref (a 0), .int 0, .int p1])).length) Slot.unset).toArray = ls at hl ⊢
  have hl : lv_has ls 3 [(0, .ref (a 0)), (1, .int 0), (2, .int p1)] := hl
  refine lv_iload_n hx hb dX7_isRound_0 rfl (lv_at hl 2 rfl) ?_
  refine lv_iconst (v := 0) hx hb dX7_isRound_1 (by decide) ?_
  refine lv_aload_n hx hb dX7_isRound_2 rfl (lv_at hl 0 rfl) ?_
  refine va_get (D := D) (ci := 7) (v := .ref (a 3)) (C := RX7) (T := TX7) (N := 12) hx hb hts inX7 hown hK hP 0 rfl rfl 1 (by decide) (hts _ tw_306) (fun _ h9 => h9) rfl dX7_isRound_3 ?_
  refine lv_iload_n hx hb dX7_isRound_6 rfl (lv_at hl 1 rfl) ?_
  refine va_aldq hx hb hK hP 1 3 rfl rfl (by unfold vp_in; decide) dX7_isRound_7 ?_
  refine lv_tr (y := .ref (a 4)) rfl ?_
  refine va_get (D := D) (ci := 5) (v := .ref (a 5)) (C := RX5) (T := TX5) (N := 4) hx hb hts inX5 hown hK hP 2 rfl rfl 0 (by decide) (hts _ tw_149) (fun _ h9 => h9) rfl dX7_isRound_8 ?_
  refine lv_bipush (v := 8) hx hb dX7_isRound_11 (by decide) ?_
  refine va_iald hx hb hK hP 3 1 rfl rfl (by unfold vp_in; decide) dX7_isRound_13 ?_
  refine lv_ti (y := (nI tm0)) (by rfl) ?_
  refine ro_i (D := D) (va_runS (As := [.int p1, .int 0, .int (nI tm0)]) (rest := []) ⟨hx, hb, hml, hown, hts⟩ ((k_isIn l D k st lo p1 0 (nI tm0)) s.heap.size) (va_cwS 3 hts (gS tw_593 tw_594 tw_79 tw_595) rfl rfl rfl (by decide +kernel) ⟨Nat.le_of_ble_eq_true rfl, Nat.le_of_ble_eq_true rfl⟩) (pS hS hAlo hlo hP hK hDL hZ [] (by decide) rfl) rfl rfl hl.1 rfl (lv_room (Nat.le_of_ble_eq_true rfl)) dX7_isRound_14 ⟨Nat.le_of_ble_eq_true rfl, Nat.le_of_ble_eq_true rfl⟩) hS hA hP (fun r_1 H locs hw_1 hP hS => ?_)
  try dsimp only at hw_1
  rcases hw_1 with ⟨rfl, hw_1⟩ | ⟨rfl, hw_1⟩
  · exact W.zret (v := 1) (ty := .boolean) hx hb hr rfl (fun t ht hW => ⟨⟨1, (), rfl, .inl ⟨rfl, (by obtain ⟨j, hj, e⟩ := inB_of (by omega) hw_1; exact ⟨j, hj, e⟩)⟩, trivial⟩, hS.F ht⟩) hS.2.2 dX7_isRound_17
  · exact W.zret (v := 0) (ty := .boolean) hx hb hr rfl (fun t ht hW => ⟨⟨0, (), rfl, .inr ⟨rfl, hw_1⟩, trivial⟩, hS.F ht⟩) hS.2.2 dX7_isRound_17


set_option maxHeartbeats 4000000 in
set_option maxRecDepth 100000 in
theorem y_isRound_1 (l : Launch) (D : va_G) (k : Nat → ClassId) (st : Nat → Nat) (lo : Nat) (a : Nat → Nat) (rk : Nat) (lfa : Int32) (n1 : Nat) (see1 : Nat) (tm1 : Nat) (g1 : Nat → Int32) (p1 : Int32) (htm1 : tm1 ≤ 3) : CRi l D k st lo yX7_isRound cX7_isRound 3 (some .boolean) ({ frames := 1, cells := 0, slots := 0, locals := 22 }) [.ref (a 0), .int 1, .int p1] [((a 0), .inr (7, (fX7 (a 1) (a 3) (a 19) (a 35) (a 40) (nI rk) lfa (a 53) (a 56) (a 63) (a 64) (a 68)))), ((a 3), .inl (k 3, 3, .inr (.inr (.inr (.inr (a3 (a 4) (a 9) (a 14))))))), ((a 9), .inr (5, (fX5 (a 10) (a 11) (a 12) (a 13)))), (aI k (a 10) 10 (vv n1 see1 tm1 g1))] (fun r => (r = 1 ∧ ∃ q : Nat, q ≤ tm1 ∧ p1 = nI q) ∨ (r = 0 ∧ ¬ inB p1 0 (nI tm1))) := by
  intro sz
  refine Met.ofW (cc := cX7_isRound) (maxL := 3) (ret := (some .boolean)) (by decide) rfl ?_
  intro p e s m args below meth c s₁ B hml hv
  obtain ⟨rfl, hsz, hlo, hP, hK, hDL, hZ⟩ := hv
  have hx := B.exec
  have hb := B.bytes
  have hr := B.returns
  have hts := WS_ts B.pre
  have hown : s.vm.findClass RX7 = some m.cls := findClass_of_methodNamed B.named
  have hlocks := B.notSynchronized
  subst hsz
  have hA : ∀ q : Nat, s.heap.size ≤ q → (fun q : Nat => s.heap.size ≤ q) q := fun _ h => h
  have hAlo : ∀ q : Nat, (fun q : Nat => s.heap.size ≤ q) q → lo ≤ q := fun q h => Nat.le_trans hlo h
  have hS : va_S (fun q : Nat => s.heap.size ≤ q) s.heap s.heap [] := va_S.rf
  have hl := lv_entry ([.ref (a 0), .int 1, .int p1]) (n := 3) (Nat.le_of_ble_eq_true rfl)
  rw [lg_entry_eq]
  generalize (lg_sl ([.ref (a 0), .int 1, .int p1]) ++ List.replicate (3 - (lg_sl ([.ref (a 0), .int 1, .int p1])).length) Slot.unset).toArray = ls at hl ⊢
  have hl : lv_has ls 3 [(0, .ref (a 0)), (1, .int 1), (2, .int p1)] := hl
  refine lv_iload_n hx hb dX7_isRound_0 rfl (lv_at hl 2 rfl) ?_
  refine lv_iconst (v := 0) hx hb dX7_isRound_1 (by decide) ?_
  refine lv_aload_n hx hb dX7_isRound_2 rfl (lv_at hl 0 rfl) ?_
  refine va_get (D := D) (ci := 7) (v := .ref (a 3)) (C := RX7) (T := TX7) (N := 12) hx hb hts inX7 hown hK hP 0 rfl rfl 1 (by decide) (hts _ tw_306) (fun _ h9 => h9) rfl dX7_isRound_3 ?_
  refine lv_iload_n hx hb dX7_isRound_6 rfl (lv_at hl 1 rfl) ?_
  refine va_aldq hx hb hK hP 1 3 rfl rfl (by unfold vp_in; decide) dX7_isRound_7 ?_
  refine lv_tr (y := .ref (a 9)) rfl ?_
  refine va_get (D := D) (ci := 5) (v := .ref (a 10)) (C := RX5) (T := TX5) (N := 4) hx hb hts inX5 hown hK hP 2 rfl rfl 0 (by decide) (hts _ tw_149) (fun _ h9 => h9) rfl dX7_isRound_8 ?_
  refine lv_bipush (v := 8) hx hb dX7_isRound_11 (by decide) ?_
  refine va_iald hx hb hK hP 3 1 rfl rfl (by unfold vp_in; decide) dX7_isRound_13 ?_
  refine lv_ti (y := (nI tm1)) (by rfl) ?_
  refine ro_i (D := D) (va_runS (As := [.int p1, .int 0, .int (nI tm1)]) (rest := []) ⟨hx, hb, hml, hown, hts⟩ ((k_isIn l D k st lo p1 0 (nI tm1)) s.heap.size) (va_cwS 3 hts (gS tw_593 tw_594 tw_79 tw_595) rfl rfl rfl (by decide +kernel) ⟨Nat.le_of_ble_eq_true rfl, Nat.le_of_ble_eq_true rfl⟩) (pS hS hAlo hlo hP hK hDL hZ [] (by decide) rfl) rfl rfl hl.1 rfl (lv_room (Nat.le_of_ble_eq_true rfl)) dX7_isRound_14 ⟨Nat.le_of_ble_eq_true rfl, Nat.le_of_ble_eq_true rfl⟩) hS hA hP (fun r_1 H locs hw_1 hP hS => ?_)
  try dsimp only at hw_1
  rcases hw_1 with ⟨rfl, hw_1⟩ | ⟨rfl, hw_1⟩
  · exact W.zret (v := 1) (ty := .boolean) hx hb hr rfl (fun t ht hW => ⟨⟨1, (), rfl, .inl ⟨rfl, (by obtain ⟨j, hj, e⟩ := inB_of (by omega) hw_1; exact ⟨j, hj, e⟩)⟩, trivial⟩, hS.F ht⟩) hS.2.2 dX7_isRound_17
  · exact W.zret (v := 0) (ty := .boolean) hx hb hr rfl (fun t ht hW => ⟨⟨0, (), rfl, .inr ⟨rfl, hw_1⟩, trivial⟩, hS.F ht⟩) hS.2.2 dX7_isRound_17


set_option maxHeartbeats 4000000 in
set_option maxRecDepth 100000 in
theorem y_isRound_2 (l : Launch) (D : va_G) (k : Nat → ClassId) (st : Nat → Nat) (lo : Nat) (a : Nat → Nat) (rk : Nat) (lfa : Int32) (n2 : Nat) (see2 : Nat) (tm2 : Nat) (g2 : Nat → Int32) (p1 : Int32) (htm2 : tm2 ≤ 3) : CRi l D k st lo yX7_isRound cX7_isRound 3 (some .boolean) ({ frames := 1, cells := 0, slots := 0, locals := 22 }) [.ref (a 0), .int 2, .int p1] [((a 0), .inr (7, (fX7 (a 1) (a 3) (a 19) (a 35) (a 40) (nI rk) lfa (a 53) (a 56) (a 63) (a 64) (a 68)))), ((a 3), .inl (k 3, 3, .inr (.inr (.inr (.inr (a3 (a 4) (a 9) (a 14))))))), ((a 14), .inr (5, (fX5 (a 15) (a 16) (a 17) (a 18)))), (aI k (a 15) 10 (vv n2 see2 tm2 g2))] (fun r => (r = 1 ∧ ∃ q : Nat, q ≤ tm2 ∧ p1 = nI q) ∨ (r = 0 ∧ ¬ inB p1 0 (nI tm2))) := by
  intro sz
  refine Met.ofW (cc := cX7_isRound) (maxL := 3) (ret := (some .boolean)) (by decide) rfl ?_
  intro p e s m args below meth c s₁ B hml hv
  obtain ⟨rfl, hsz, hlo, hP, hK, hDL, hZ⟩ := hv
  have hx := B.exec
  have hb := B.bytes
  have hr := B.returns
  have hts := WS_ts B.pre
  have hown : s.vm.findClass RX7 = some m.cls := findClass_of_methodNamed B.named
  have hlocks := B.notSynchronized
  subst hsz
  have hA : ∀ q : Nat, s.heap.size ≤ q → (fun q : Nat => s.heap.size ≤ q) q := fun _ h => h
  have hAlo : ∀ q : Nat, (fun q : Nat => s.heap.size ≤ q) q → lo ≤ q := fun q h => Nat.le_trans hlo h
  have hS : va_S (fun q : Nat => s.heap.size ≤ q) s.heap s.heap [] := va_S.rf
  have hl := lv_entry ([.ref (a 0), .int 2, .int p1]) (n := 3) (Nat.le_of_ble_eq_true rfl)
  rw [lg_entry_eq]
  generalize (lg_sl ([.ref (a 0), .int 2, .int p1]) ++ List.replicate (3 - (lg_sl ([.ref (a 0), .int 2, .int p1])).length) Slot.unset).toArray = ls at hl ⊢
  have hl : lv_has ls 3 [(0, .ref (a 0)), (1, .int 2), (2, .int p1)] := hl
  refine lv_iload_n hx hb dX7_isRound_0 rfl (lv_at hl 2 rfl) ?_
  refine lv_iconst (v := 0) hx hb dX7_isRound_1 (by decide) ?_
  refine lv_aload_n hx hb dX7_isRound_2 rfl (lv_at hl 0 rfl) ?_
  refine va_get (D := D) (ci := 7) (v := .ref (a 3)) (C := RX7) (T := TX7) (N := 12) hx hb hts inX7 hown hK hP 0 rfl rfl 1 (by decide) (hts _ tw_306) (fun _ h9 => h9) rfl dX7_isRound_3 ?_
  refine lv_iload_n hx hb dX7_isRound_6 rfl (lv_at hl 1 rfl) ?_
  refine va_aldq hx hb hK hP 1 3 rfl rfl (by unfold vp_in; decide) dX7_isRound_7 ?_
  refine lv_tr (y := .ref (a 14)) rfl ?_
  refine va_get (D := D) (ci := 5) (v := .ref (a 15)) (C := RX5) (T := TX5) (N := 4) hx hb hts inX5 hown hK hP 2 rfl rfl 0 (by decide) (hts _ tw_149) (fun _ h9 => h9) rfl dX7_isRound_8 ?_
  refine lv_bipush (v := 8) hx hb dX7_isRound_11 (by decide) ?_
  refine va_iald hx hb hK hP 3 1 rfl rfl (by unfold vp_in; decide) dX7_isRound_13 ?_
  refine lv_ti (y := (nI tm2)) (by rfl) ?_
  refine ro_i (D := D) (va_runS (As := [.int p1, .int 0, .int (nI tm2)]) (rest := []) ⟨hx, hb, hml, hown, hts⟩ ((k_isIn l D k st lo p1 0 (nI tm2)) s.heap.size) (va_cwS 3 hts (gS tw_593 tw_594 tw_79 tw_595) rfl rfl rfl (by decide +kernel) ⟨Nat.le_of_ble_eq_true rfl, Nat.le_of_ble_eq_true rfl⟩) (pS hS hAlo hlo hP hK hDL hZ [] (by decide) rfl) rfl rfl hl.1 rfl (lv_room (Nat.le_of_ble_eq_true rfl)) dX7_isRound_14 ⟨Nat.le_of_ble_eq_true rfl, Nat.le_of_ble_eq_true rfl⟩) hS hA hP (fun r_1 H locs hw_1 hP hS => ?_)
  try dsimp only at hw_1
  rcases hw_1 with ⟨rfl, hw_1⟩ | ⟨rfl, hw_1⟩
  · exact W.zret (v := 1) (ty := .boolean) hx hb hr rfl (fun t ht hW => ⟨⟨1, (), rfl, .inl ⟨rfl, (by obtain ⟨j, hj, e⟩ := inB_of (by omega) hw_1; exact ⟨j, hj, e⟩)⟩, trivial⟩, hS.F ht⟩) hS.2.2 dX7_isRound_17
  · exact W.zret (v := 0) (ty := .boolean) hx hb hr rfl (fun t ht hW => ⟨⟨0, (), rfl, .inr ⟨rfl, hw_1⟩, trivial⟩, hS.F ht⟩) hS.2.2 dX7_isRound_17


set_option maxHeartbeats 4000000 in
set_option maxRecDepth 100000 in
theorem n_isRound (l : Launch) (D : va_G) (k : Nat → ClassId) (st : Nat → Nat) (lo : Nat) (a : Nat → Nat) (tx : Nat) (t0 : Nat) (we : Nat) (rd : Nat) (ru : Nat) (rw : Nat) (ca : Nat) (fp : Int32) (wd : Int64) (nu : Int32) (na : Int32) (ts : Int32) (df : Int32) (db : Int32) (sd : Int32) (se : Nat → Nat) (tm : Nat → Nat) (gs : Nat → Int32) (sn : Nat) (pz : Int32) (htm : ∀ j, tm j ≤ 3) (hs : sn < 3) : CRi l D k st lo yX8_isRound cX8_isRound 3 (some .boolean) ({ frames := 1, cells := 0, slots := 0, locals := 25 }) [.ref (a 0), .int (nI sn), .int pz] [((a 0), .inr (8, (fX8 a (nI tx) fp (nI t0) wd (nI we) nu na (nI rd) ts (nI ru) (nI rw) (nI ca) df db sd))), (aI k (a 4) 27 (sg se tm gs))] (fun r => (r = 1 ∧ ∃ j : Nat, j ≤ tm sn ∧ pz = nI j ∧ True) ∨ (r = 0 ∧ ¬ inB pz 0 (nI (tm sn)))) := by
  intro sz
  refine Met.ofW (cc := cX8_isRound) (maxL := 3) (ret := (some .boolean)) (by decide) rfl ?_
  intro p e s m args below meth c s₁ B hml hv
  obtain ⟨rfl, hsz, hlo, hP, hK, hDL, hZ⟩ := hv
  have hx := B.exec
  have hb := B.bytes
  have hr := B.returns
  have hts := WS_ts B.pre
  have hown : s.vm.findClass RX8 = some m.cls := findClass_of_methodNamed B.named
  have hlocks := B.notSynchronized
  subst hsz
  have hA : ∀ q : Nat, s.heap.size ≤ q → (fun q : Nat => s.heap.size ≤ q) q := fun _ h => h
  have hAlo : ∀ q : Nat, (fun q : Nat => s.heap.size ≤ q) q → lo ≤ q := fun q h => Nat.le_trans hlo h
  have hS : va_S (fun q : Nat => s.heap.size ≤ q) s.heap s.heap [] := va_S.rf
  have hl := lv_entry ([.ref (a 0), .int (nI sn), .int pz]) (n := 3) (Nat.le_of_ble_eq_true rfl)
  rw [lg_entry_eq]
  generalize (lg_sl ([.ref (a 0), .int (nI sn), .int pz]) ++ List.replicate (3 - (lg_sl ([.ref (a 0), .int (nI sn), .int pz])).length) Slot.unset).toArray = ls at hl ⊢
  have hl : lv_has ls 3 [(0, .ref (a 0)), (1, .int (nI sn)), (2, .int pz)] := hl
  have hd_9 := htm sn
  refine lv_iload_n hx hb dX8_isRound_0 rfl (lv_at hl 2 rfl) ?_
  refine lv_i2l (v := pz.toInt64) hx hb dX8_isRound_1 rfl ?_
  refine lv_lconst (v := (0 : Int32).toInt64) hx hb dX8_isRound_2 (by decide) ?_
  refine lv_aload_n hx hb dX8_isRound_3 rfl (lv_at hl 0 rfl) ?_
  refine lv_iload_n hx hb dX8_isRound_4 rfl (lv_at hl 1 rfl) ?_
  refine lv_bipush (v := 7) hx hb dX8_isRound_5 (by decide) ?_
  refine ro_i (D := D) (va_runV (As := [.int (nI sn), .int 7]) (rest := [.long ((0 : Int32).toInt64), .long (pz.toInt64)]) ⟨hx, hb, hml, hown, hts⟩ ((m_of l D k st lo a tx t0 we rd ru rw ca fp wd nu na ts df db sd se tm gs sn 7 (by first | assumption | omega) (by first | assumption | omega)) s.heap.size) (cwV 2 hts (gV tw_1194 tw_1196 tw_39 tw_87 tw_1197) rfl rfl rfl (by decide +kernel) ⟨Nat.le_of_ble_eq_true rfl, Nat.le_of_ble_eq_true rfl⟩) (pV hS hAlo hlo hP hK hDL hZ [0, 1] (by decide) rfl (ci := 8) (q := (RX8, TX8, 44)) (q0 := 0) rfl rfl) rfl rfl hl.1 rfl (lv_room (Nat.le_of_ble_eq_true rfl)) dX8_isRound_7 ⟨Nat.le_of_ble_eq_true rfl, Nat.le_of_ble_eq_true rfl⟩) hS hA hP (fun r_1 H locs hw_1 hP hS => ?_)
  try dsimp only at hw_1
  obtain rfl := hw_1.trans (sg_tm _ _ _ _)
  refine lv_i2l (v := (nI (tm sn)).toInt64) hx hb dX8_isRound_10 rfl ?_
  refine ro_i (D := D) (va_runS (As := [.long (pz.toInt64), .long ((0 : Int32).toInt64), .long ((nI (tm sn)).toInt64)]) (rest := []) ⟨hx, hb, hml, hown, hts⟩ ((k_in l D k st lo pz (0 : Int32) (nI (tm sn))) H.size) (va_cwS 3 hts (gS tw_1111 tw_1112 tw_87 tw_1113) rfl rfl rfl (by decide +kernel) ⟨Nat.le_of_ble_eq_true rfl, Nat.le_of_ble_eq_true rfl⟩) (pS hS hAlo hlo hP hK hDL hZ [] (by decide) rfl) rfl rfl hl.1 rfl (lv_room (Nat.le_of_ble_eq_true rfl)) dX8_isRound_11 ⟨Nat.le_of_ble_eq_true rfl, Nat.le_of_ble_eq_true rfl⟩) hS hA hP (fun r_2 H locs hw_2 hP hS => ?_)
  try dsimp only at hw_2
  rcases hw_2 with ⟨rfl, hw_2⟩ | ⟨rfl, hw_2⟩
  · exact W.zret (v := 1) (ty := .boolean) hx hb hr rfl (fun t ht hW => ⟨⟨1, (), rfl, .inl ⟨rfl, (by obtain ⟨j, hj, e⟩ := inB_of (by omega) hw_2; exact ⟨j, hj, e, trivial⟩)⟩, trivial⟩, hS.F ht⟩) hS.2.2 dX8_isRound_14
  · exact W.zret (v := 0) (ty := .boolean) hx hb hr rfl (fun t ht hW => ⟨⟨0, (), rfl, .inr ⟨rfl, hw_2⟩, trivial⟩, hS.F ht⟩) hS.2.2 dX8_isRound_14


set_option maxHeartbeats 4000000 in
set_option maxRecDepth 100000 in
theorem y_taking (l : Launch) (D : va_G) (k : Nat → ClassId) (st : Nat → Nat) (lo : Nat) (a : Nat → Nat) (rk : Nat) (lfa : Int32) (n0 : Nat) (see0 : Nat) (tm0 : Nat) (g0 : Nat → Int32) (ff0 : Nat → Int32) (fp0 : Nat → Int32) (fl0 : Nat → Int32) (n1 : Nat) (see1 : Nat) (tm1 : Nat) (g1 : Nat → Int32) (ff1 : Nat → Int32) (fp1 : Nat → Int32) (fl1 : Nat → Int32) (n2 : Nat) (see2 : Nat) (tm2 : Nat) (g2 : Nat → Int32) (ff2 : Nat → Int32) (fp2 : Nat → Int32) (fl2 : Nat → Int32) (p0 : Int32) (p1 : Int32) (p2 : Int32) (hn0 : n0 ≤ 24) (hse0 : see0 ≤ 2) (htm0 : tm0 ≤ 3) (hn1 : n1 ≤ 24) (hse1 : see1 ≤ 2) (htm1 : tm1 ≤ 3) (hn2 : n2 ≤ 24) (hse2 : see2 ≤ 2) (htm2 : tm2 ≤ 3) (hlt : ltP (d3 fl0 fl1 fl2) (d3 (sdX n0 see0 tm0 g0 ff0 fp0) (sdX n1 see1 tm1 g1 ff1 fp1) (sdX n2 see2 tm2 g2 ff2 fp2))) : CRi l D k st lo yX7_taking cX7_taking 4 (some .int) ({ frames := 3, cells := 0, slots := 0, locals := 63 }) [.ref (a 0), .int p0, .int p1, .int p2] [((a 0), .inr (7, (fX7 (a 1) (a 3) (a 19) (a 35) (a 40) (nI rk) lfa (a 53) (a 56) (a 63) (a 64) (a 68)))), ((a 3), .inl (k 3, 3, .inr (.inr (.inr (.inr (a3 (a 4) (a 9) (a 14))))))), ((a 4), .inr (5, (fX5 (a 5) (a 6) (a 7) (a 8)))), (aI k (a 5) 10 (vv n0 see0 tm0 g0)), (aI k (a 6) 24 ff0), (aI k (a 7) 24 fp0), (aI k (a 8) 4 fl0), ((a 9), .inr (5, (fX5 (a 10) (a 11) (a 12) (a 13)))), (aI k (a 10) 10 (vv n1 see1 tm1 g1)), (aI k (a 11) 24 ff1), (aI k (a 12) 24 fp1), (aI k (a 13) 4 fl1), ((a 14), .inr (5, (fX5 (a 15) (a 16) (a 17) (a 18)))), (aI k (a 15) 10 (vv n2 see2 tm2 g2)), (aI k (a 16) 24 ff2), (aI k (a 17) 24 fp2), (aI k (a 18) 4 fl2)] (fun r => dqP (d3 (sdX n0 see0 tm0 g0 ff0 fp0) (sdX n1 see1 tm1 g1 ff1 fp1) (sdX n2 see2 tm2 g2 ff2 fp2)) p0 p2 (tkA p1) r) := by
  intro sz
  refine Met.ofW (cc := cX7_taking) (maxL := 4) (ret := (some .int)) (by decide) rfl ?_
  intro p e s m args below meth c s₁ B hml hv
  obtain ⟨rfl, hsz, hlo, hP, hK, hDL, hZ⟩ := hv
  have hx := B.exec
  have hb := B.bytes
  have hr := B.returns
  have hts := WS_ts B.pre
  have hown : s.vm.findClass RX7 = some m.cls := findClass_of_methodNamed B.named
  have hlocks := B.notSynchronized
  subst hsz
  have hA : ∀ q : Nat, s.heap.size ≤ q → (fun q : Nat => s.heap.size ≤ q) q := fun _ h => h
  have hAlo : ∀ q : Nat, (fun q : Nat => s.heap.size ≤ q) q → lo ≤ q := fun q h => Nat.le_trans hlo h
  have hS : va_S (fun q : Nat => s.heap.size ≤ q) s.heap s.heap [] := va_S.rf
  have hl := lv_entry ([.ref (a 0), .int p0, .int p1, .int p2]) (n := 4) (Nat.le_of_ble_eq_true rfl)
  rw [lg_entry_eq]
  generalize (lg_sl ([.ref (a 0), .int p0, .int p1, .int p2]) ++ List.replicate (4 - (lg_sl ([.ref (a 0), .int p0, .int p1, .int p2])).length) Slot.unset).toArray = ls at hl ⊢
  have hl : lv_has ls 4 [(0, .ref (a 0)), (1, .int p0), (2, .int p1), (3, .int p2)] := hl
  refine lv_aload_n hx hb dX7_taking_0 rfl (lv_at hl 0 rfl) ?_
  refine lv_iload_n hx hb dX7_taking_1 rfl (lv_at hl 1 rfl) ?_
  refine lv_iload_n hx hb dX7_taking_2 rfl (lv_at hl 3 rfl) ?_
  refine ro_i (D := D) (va_runV (As := [.int p0, .int p2]) (rest := []) ⟨hx, hb, hml, hown, hts⟩ ((y_isDoor l D k st lo a rk lfa n0 see0 tm0 g0 n1 see1 tm1 g1 n2 see2 tm2 g2 p0 p2 (by first | assumption | omega) (by first | assumption | omega) (by first | assumption | omega)) s.heap.size) (cwV 2 hts (gV tw_600 tw_602 tw_9 tw_79 tw_603) rfl rfl rfl (by decide +kernel) ⟨Nat.le_of_ble_eq_true rfl, Nat.le_of_ble_eq_true rfl⟩) (pV hS hAlo hlo hP hK hDL hZ [0, 1, 2, 3, 7, 8, 12, 13] (by decide) rfl (ci := 7) (q := (RX7, TX7, 12)) (q0 := 0) rfl rfl) rfl rfl hl.1 rfl (lv_room (Nat.le_of_ble_eq_true rfl)) dX7_taking_3 ⟨Nat.le_of_ble_eq_true rfl, Nat.le_of_ble_eq_true rfl⟩) hS hA hP (fun r_1 H locs hw_1 hP hS => ?_)
  try dsimp only at hw_1
  rcases hw_1 with ⟨rfl, ⟨rfl, id_2, hid_2, rfl⟩ | ⟨rfl, id_2, hid_2, rfl⟩ | ⟨rfl, id_2, hid_2, rfl⟩⟩ | ⟨rfl, hw_1⟩
  · refine lv_if_ne (tgt := 13) hx hb dX7_taking_6 (by decide) (fun _ => ?_) (fun h => absurd h (by decide))
    refine lv_aload_n hx hb dX7_taking_13 rfl (lv_at hl 0 rfl) ?_
    refine lv_iload_n hx hb dX7_taking_14 rfl (lv_at hl 1 rfl) ?_
    refine lv_iload_n hx hb dX7_taking_15 rfl (lv_at hl 2 rfl) ?_
    refine ro_i (D := D) (va_runV (As := [.int 0, .int p1]) (rest := []) ⟨hx, hb, hml, hown, hts⟩ ((y_isRound_0 l D k st lo a rk lfa n0 see0 tm0 g0 p1 (by first | assumption | omega)) H.size) (cwV 2 hts (gV tw_613 tw_615 tw_10 tw_79 tw_616) rfl rfl rfl (by decide +kernel) ⟨Nat.le_of_ble_eq_true rfl, Nat.le_of_ble_eq_true rfl⟩) (pV hS hAlo hlo hP hK hDL hZ [0, 1, 2, 3] (by decide) rfl (ci := 7) (q := (RX7, TX7, 12)) (q0 := 0) rfl rfl) rfl rfl hl.1 rfl (lv_room (Nat.le_of_ble_eq_true rfl)) dX7_taking_16 ⟨Nat.le_of_ble_eq_true rfl, Nat.le_of_ble_eq_true rfl⟩) hS hA hP (fun r_3 H locs hw_3 hP hS => ?_)
    try dsimp only at hw_3
    rcases hw_3 with ⟨rfl, ir_4, hir_4, rfl⟩ | ⟨rfl, hw_3⟩
    · refine lv_if_eq (tgt := 36) hx hb dX7_taking_19 (by decide) (fun h => absurd h (by decide)) (fun _ => ?_)
      refine lv_aload_n hx hb dX7_taking_22 rfl (lv_at hl 0 rfl) ?_
      refine va_get (D := D) (ci := 7) (v := .ref (a 3)) (C := RX7) (T := TX7) (N := 12) hx hb hts inX7 hown hK hP 0 rfl rfl 1 (by decide) (hts _ tw_306) (fun _ h9 => h9) rfl dX7_taking_23 ?_
      refine lv_iload_n hx hb dX7_taking_26 rfl (lv_at hl 1 rfl) ?_
      refine va_aldq hx hb hK hP 1 3 rfl rfl (by unfold vp_in; decide) dX7_taking_27 ?_
      refine lv_tr (y := .ref (a 4)) rfl ?_
      refine lv_iload_n hx hb dX7_taking_28 rfl (lv_at hl 2 rfl) ?_
      refine lv_iload_n hx hb dX7_taking_29 rfl (lv_at hl 3 rfl) ?_
      refine ro_i (D := D) (va_runV (As := [.int (nI ir_4), .int (nI id_2)]) (rest := []) ⟨hx, hb, hml, hown, hts⟩ ((y_takingOf l D k st lo (a 4) (a 5) (a 6) (a 7) (a 8) n0 see0 tm0 g0 fp0 fl0 ir_4 id_2 (by first | assumption | omega) (by first | assumption | omega)) H.size) (cwV 2 hts (gV tw_617 tw_557 tw_558 tw_81 tw_559) rfl rfl rfl (by decide +kernel) ⟨Nat.le_of_ble_eq_true rfl, Nat.le_of_ble_eq_true rfl⟩) (pV hS hAlo hlo hP hK hDL hZ [2, 3, 5, 6] (by decide) rfl (ci := 5) (q := (RX5, TX5, 4)) (q0 := 0) rfl rfl) rfl rfl hl.1 rfl (lv_room (Nat.le_of_ble_eq_true rfl)) dX7_taking_30 ⟨Nat.le_of_ble_eq_true rfl, Nat.le_of_ble_eq_true rfl⟩) hS hA hP (fun r_5 H locs hw_5 hP hS => ?_)
      try dsimp only at hw_5
      refine lv_goto (tgt := 39) hx hb dX7_taking_33 (by decide) ?_
      exact W.iret (v := r_5) hx hb hr (fun t ht hW => ⟨⟨r_5, (), rfl, dq_at (s := 0) (by omega) (show n0 ≤ 24 by omega) (show id_2 < n0 by omega) (show tkA (nI ir_4) (sdX n0 see0 tm0 g0 ff0 fp0) _ _ from tk_i (by omega) (by rw [rdX]; exact inr (by omega) (by omega)) (hw_5.trans (xTake (by omega) (hlt 0 (by omega) _ (by omega))))), trivial⟩, hS.F ht⟩) hS.2.2 dX7_taking_39
    · refine lv_if_eq (tgt := 36) hx hb dX7_taking_19 (by decide) (fun _ => ?_) (fun h => absurd (by decide) h)
      refine lv_sipush (v := (-1002)) hx hb dX7_taking_36 (by decide) ?_
      exact W.iret (v := (-1002)) hx hb hr (fun t ht hW => ⟨⟨(-1002), (), rfl, dq_at (s := 0) (by omega) (show n0 ≤ 24 by omega) (show id_2 < n0 by omega) (show tkA p1 (sdX n0 see0 tm0 g0 ff0 fp0) _ _ from tk_o (by rw [rdX]; exact hw_3)), trivial⟩, hS.F ht⟩) hS.2.2 dX7_taking_39
  · refine lv_if_ne (tgt := 13) hx hb dX7_taking_6 (by decide) (fun _ => ?_) (fun h => absurd h (by decide))
    refine lv_aload_n hx hb dX7_taking_13 rfl (lv_at hl 0 rfl) ?_
    refine lv_iload_n hx hb dX7_taking_14 rfl (lv_at hl 1 rfl) ?_
    refine lv_iload_n hx hb dX7_taking_15 rfl (lv_at hl 2 rfl) ?_
    refine ro_i (D := D) (va_runV (As := [.int 1, .int p1]) (rest := []) ⟨hx, hb, hml, hown, hts⟩ ((y_isRound_1 l D k st lo a rk lfa n1 see1 tm1 g1 p1 (by first | assumption | omega)) H.size) (cwV 2 hts (gV tw_613 tw_615 tw_10 tw_79 tw_616) rfl rfl rfl (by decide +kernel) ⟨Nat.le_of_ble_eq_true rfl, Nat.le_of_ble_eq_true rfl⟩) (pV hS hAlo hlo hP hK hDL hZ [0, 1, 7, 8] (by decide) rfl (ci := 7) (q := (RX7, TX7, 12)) (q0 := 0) rfl rfl) rfl rfl hl.1 rfl (lv_room (Nat.le_of_ble_eq_true rfl)) dX7_taking_16 ⟨Nat.le_of_ble_eq_true rfl, Nat.le_of_ble_eq_true rfl⟩) hS hA hP (fun r_6 H locs hw_6 hP hS => ?_)
    try dsimp only at hw_6
    rcases hw_6 with ⟨rfl, ir_7, hir_7, rfl⟩ | ⟨rfl, hw_6⟩
    · refine lv_if_eq (tgt := 36) hx hb dX7_taking_19 (by decide) (fun h => absurd h (by decide)) (fun _ => ?_)
      refine lv_aload_n hx hb dX7_taking_22 rfl (lv_at hl 0 rfl) ?_
      refine va_get (D := D) (ci := 7) (v := .ref (a 3)) (C := RX7) (T := TX7) (N := 12) hx hb hts inX7 hown hK hP 0 rfl rfl 1 (by decide) (hts _ tw_306) (fun _ h9 => h9) rfl dX7_taking_23 ?_
      refine lv_iload_n hx hb dX7_taking_26 rfl (lv_at hl 1 rfl) ?_
      refine va_aldq hx hb hK hP 1 3 rfl rfl (by unfold vp_in; decide) dX7_taking_27 ?_
      refine lv_tr (y := .ref (a 9)) rfl ?_
      refine lv_iload_n hx hb dX7_taking_28 rfl (lv_at hl 2 rfl) ?_
      refine lv_iload_n hx hb dX7_taking_29 rfl (lv_at hl 3 rfl) ?_
      refine ro_i (D := D) (va_runV (As := [.int (nI ir_7), .int (nI id_2)]) (rest := []) ⟨hx, hb, hml, hown, hts⟩ ((y_takingOf l D k st lo (a 9) (a 10) (a 11) (a 12) (a 13) n1 see1 tm1 g1 fp1 fl1 ir_7 id_2 (by first | assumption | omega) (by first | assumption | omega)) H.size) (cwV 2 hts (gV tw_617 tw_557 tw_558 tw_81 tw_559) rfl rfl rfl (by decide +kernel) ⟨Nat.le_of_ble_eq_true rfl, Nat.le_of_ble_eq_true rfl⟩) (pV hS hAlo hlo hP hK hDL hZ [7, 8, 10, 11] (by decide) rfl (ci := 5) (q := (RX5, TX5, 4)) (q0 := 0) rfl rfl) rfl rfl hl.1 rfl (lv_room (Nat.le_of_ble_eq_true rfl)) dX7_taking_30 ⟨Nat.le_of_ble_eq_true rfl, Nat.le_of_ble_eq_true rfl⟩) hS hA hP (fun r_8 H locs hw_8 hP hS => ?_)
      try dsimp only at hw_8
      refine lv_goto (tgt := 39) hx hb dX7_taking_33 (by decide) ?_
      exact W.iret (v := r_8) hx hb hr (fun t ht hW => ⟨⟨r_8, (), rfl, dq_at (s := 1) (by omega) (show n1 ≤ 24 by omega) (show id_2 < n1 by omega) (show tkA (nI ir_7) (sdX n1 see1 tm1 g1 ff1 fp1) _ _ from tk_i (by omega) (by rw [rdX]; exact inr (by omega) (by omega)) (hw_8.trans (xTake (by omega) (hlt 1 (by omega) _ (by omega))))), trivial⟩, hS.F ht⟩) hS.2.2 dX7_taking_39
    · refine lv_if_eq (tgt := 36) hx hb dX7_taking_19 (by decide) (fun _ => ?_) (fun h => absurd (by decide) h)
      refine lv_sipush (v := (-1002)) hx hb dX7_taking_36 (by decide) ?_
      exact W.iret (v := (-1002)) hx hb hr (fun t ht hW => ⟨⟨(-1002), (), rfl, dq_at (s := 1) (by omega) (show n1 ≤ 24 by omega) (show id_2 < n1 by omega) (show tkA p1 (sdX n1 see1 tm1 g1 ff1 fp1) _ _ from tk_o (by rw [rdX]; exact hw_6)), trivial⟩, hS.F ht⟩) hS.2.2 dX7_taking_39
  · refine lv_if_ne (tgt := 13) hx hb dX7_taking_6 (by decide) (fun _ => ?_) (fun h => absurd h (by decide))
    refine lv_aload_n hx hb dX7_taking_13 rfl (lv_at hl 0 rfl) ?_
    refine lv_iload_n hx hb dX7_taking_14 rfl (lv_at hl 1 rfl) ?_
    refine lv_iload_n hx hb dX7_taking_15 rfl (lv_at hl 2 rfl) ?_
    refine ro_i (D := D) (va_runV (As := [.int 2, .int p1]) (rest := []) ⟨hx, hb, hml, hown, hts⟩ ((y_isRound_2 l D k st lo a rk lfa n2 see2 tm2 g2 p1 (by first | assumption | omega)) H.size) (cwV 2 hts (gV tw_613 tw_615 tw_10 tw_79 tw_616) rfl rfl rfl (by decide +kernel) ⟨Nat.le_of_ble_eq_true rfl, Nat.le_of_ble_eq_true rfl⟩) (pV hS hAlo hlo hP hK hDL hZ [0, 1, 12, 13] (by decide) rfl (ci := 7) (q := (RX7, TX7, 12)) (q0 := 0) rfl rfl) rfl rfl hl.1 rfl (lv_room (Nat.le_of_ble_eq_true rfl)) dX7_taking_16 ⟨Nat.le_of_ble_eq_true rfl, Nat.le_of_ble_eq_true rfl⟩) hS hA hP (fun r_9 H locs hw_9 hP hS => ?_)
    try dsimp only at hw_9
    rcases hw_9 with ⟨rfl, ir_10, hir_10, rfl⟩ | ⟨rfl, hw_9⟩
    · refine lv_if_eq (tgt := 36) hx hb dX7_taking_19 (by decide) (fun h => absurd h (by decide)) (fun _ => ?_)
      refine lv_aload_n hx hb dX7_taking_22 rfl (lv_at hl 0 rfl) ?_
      refine va_get (D := D) (ci := 7) (v := .ref (a 3)) (C := RX7) (T := TX7) (N := 12) hx hb hts inX7 hown hK hP 0 rfl rfl 1 (by decide) (hts _ tw_306) (fun _ h9 => h9) rfl dX7_taking_23 ?_
      refine lv_iload_n hx hb dX7_taking_26 rfl (lv_at hl 1 rfl) ?_
      refine va_aldq hx hb hK hP 1 3 rfl rfl (by unfold vp_in; decide) dX7_taking_27 ?_
      refine lv_tr (y := .ref (a 14)) rfl ?_
      refine lv_iload_n hx hb dX7_taking_28 rfl (lv_at hl 2 rfl) ?_
      refine lv_iload_n hx hb dX7_taking_29 rfl (lv_at hl 3 rfl) ?_
      refine ro_i (D := D) (va_runV (As := [.int (nI ir_10), .int (nI id_2)]) (rest := []) ⟨hx, hb, hml, hown, hts⟩ ((y_takingOf l D k st lo (a 14) (a 15) (a 16) (a 17) (a 18) n2 see2 tm2 g2 fp2 fl2 ir_10 id_2 (by first | assumption | omega) (by first | assumption | omega)) H.size) (cwV 2 hts (gV tw_617 tw_557 tw_558 tw_81 tw_559) rfl rfl rfl (by decide +kernel) ⟨Nat.le_of_ble_eq_true rfl, Nat.le_of_ble_eq_true rfl⟩) (pV hS hAlo hlo hP hK hDL hZ [12, 13, 15, 16] (by decide) rfl (ci := 5) (q := (RX5, TX5, 4)) (q0 := 0) rfl rfl) rfl rfl hl.1 rfl (lv_room (Nat.le_of_ble_eq_true rfl)) dX7_taking_30 ⟨Nat.le_of_ble_eq_true rfl, Nat.le_of_ble_eq_true rfl⟩) hS hA hP (fun r_11 H locs hw_11 hP hS => ?_)
      try dsimp only at hw_11
      refine lv_goto (tgt := 39) hx hb dX7_taking_33 (by decide) ?_
      exact W.iret (v := r_11) hx hb hr (fun t ht hW => ⟨⟨r_11, (), rfl, dq_at (s := 2) (by omega) (show n2 ≤ 24 by omega) (show id_2 < n2 by omega) (show tkA (nI ir_10) (sdX n2 see2 tm2 g2 ff2 fp2) _ _ from tk_i (by omega) (by rw [rdX]; exact inr (by omega) (by omega)) (hw_11.trans (xTake (by omega) (hlt 2 (by omega) _ (by omega))))), trivial⟩, hS.F ht⟩) hS.2.2 dX7_taking_39
    · refine lv_if_eq (tgt := 36) hx hb dX7_taking_19 (by decide) (fun _ => ?_) (fun h => absurd (by decide) h)
      refine lv_sipush (v := (-1002)) hx hb dX7_taking_36 (by decide) ?_
      exact W.iret (v := (-1002)) hx hb hr (fun t ht hW => ⟨⟨(-1002), (), rfl, dq_at (s := 2) (by omega) (show n2 ≤ 24 by omega) (show id_2 < n2 by omega) (show tkA p1 (sdX n2 see2 tm2 g2 ff2 fp2) _ _ from tk_o (by rw [rdX]; exact hw_9)), trivial⟩, hS.F ht⟩) hS.2.2 dX7_taking_39
  · refine lv_if_ne (tgt := 13) hx hb dX7_taking_6 (by decide) (fun h => absurd (by decide) h) (fun _ => ?_)
    refine lv_sipush (v := (-1001)) hx hb dX7_taking_9 (by decide) ?_
    exact W.iret (v := (-1001)) hx hb hr (fun t ht hW => ⟨⟨(-1001), (), rfl, dq_no (fun s h1 h2 i h3 h4 => hw_1 s h1 h2 i h3 (by rw [d3_n] at h4; exact h4)), trivial⟩, hS.F ht⟩) hS.2.2 dX7_taking_12


set_option maxHeartbeats 4000000 in
set_option maxRecDepth 100000 in
theorem n_taking (l : Launch) (D : va_G) (k : Nat → ClassId) (st : Nat → Nat) (lo : Nat) (a : Nat → Nat) (tx : Nat) (t0 : Nat) (we : Nat) (rd : Nat) (ru : Nat) (rw : Nat) (ca : Nat) (fp : Int32) (wd : Int64) (nu : Int32) (na : Int32) (ts : Int32) (df : Int32) (db : Int32) (sd : Int32) (dn : Nat → Nat) (se : Nat → Nat) (tm : Nat → Nat) (gs : Nat → Int32) (ffrees : Nat → Int32) (fprices : Nat → Int32) (p0 : Int32) (p1 : Int32) (p2 : Int32) (hdn : ∀ j, dn j ≤ 24) (hse : ∀ j, se j ≤ 2) (htm : ∀ j, tm j ≤ 3) : CRi l D k st lo yX8_taking cX8_taking 4 (some .int) ({ frames := 4, cells := 0, slots := 0, locals := 93 }) [.ref (a 0), .int p0, .int p1, .int p2] [((a 0), .inr (8, (fX8 a (nI tx) fp (nI t0) wd (nI we) nu na (nI rd) ts (nI ru) (nI rw) (nI ca) df db sd))), (aI k (a 1) 3 (nF dn)), (aI k (a 4) 27 (sg se tm gs)), (aI k (a 2) 72 ffrees), (aI k (a 3) 72 fprices)] (fun r => dqP (sdM dn (sg se tm gs) ffrees fprices) p0 p2 (tkA p1) r) := by
  intro sz
  refine Met.ofW (cc := cX8_taking) (maxL := 4) (ret := (some .int)) (by decide) rfl ?_
  intro p e s m args below meth c s₁ B hml hv
  obtain ⟨rfl, hsz, hlo, hP, hK, hDL, hZ⟩ := hv
  have hx := B.exec
  have hb := B.bytes
  have hr := B.returns
  have hts := WS_ts B.pre
  have hown : s.vm.findClass RX8 = some m.cls := findClass_of_methodNamed B.named
  have hlocks := B.notSynchronized
  subst hsz
  have hA : ∀ q : Nat, s.heap.size ≤ q → (fun q : Nat => s.heap.size ≤ q) q := fun _ h => h
  have hAlo : ∀ q : Nat, (fun q : Nat => s.heap.size ≤ q) q → lo ≤ q := fun q h => Nat.le_trans hlo h
  have hS : va_S (fun q : Nat => s.heap.size ≤ q) s.heap s.heap [] := va_S.rf
  have hl := lv_entry ([.ref (a 0), .int p0, .int p1, .int p2]) (n := 4) (Nat.le_of_ble_eq_true rfl)
  rw [lg_entry_eq]
  generalize (lg_sl ([.ref (a 0), .int p0, .int p1, .int p2]) ++ List.replicate (4 - (lg_sl ([.ref (a 0), .int p0, .int p1, .int p2])).length) Slot.unset).toArray = ls at hl ⊢
  have hl : lv_has ls 4 [(0, .ref (a 0)), (1, .int p0), (2, .int p1), (3, .int p2)] := hl
  refine lv_aload_n hx hb dX8_taking_0 rfl (lv_at hl 0 rfl) ?_
  refine lv_iload_n hx hb dX8_taking_1 rfl (lv_at hl 1 rfl) ?_
  refine ro_i (D := D) (va_runV (As := [.int p0]) (rest := []) ⟨hx, hb, hml, hown, hts⟩ ((n_isStreet l D k st lo a tx t0 we rd ru rw ca fp wd nu na ts df db sd dn p0 hdn) s.heap.size) (cwV 1 hts (gV tw_1189 tw_1191 tw_38 tw_87 tw_1192) rfl rfl rfl (by decide +kernel) ⟨Nat.le_of_ble_eq_true rfl, Nat.le_of_ble_eq_true rfl⟩) (pV hS hAlo hlo hP hK hDL hZ [0, 1] (by decide) rfl (ci := 8) (q := (RX8, TX8, 44)) (q0 := 0) rfl rfl) rfl rfl hl.1 rfl (lv_room (Nat.le_of_ble_eq_true rfl)) dX8_taking_2 ⟨Nat.le_of_ble_eq_true rfl, Nat.le_of_ble_eq_true rfl⟩) hS hA hP (fun r_1 H locs hw_1 hP hS => ?_)
  try dsimp only at hw_1
  rcases hw_1 with ⟨rfl, j_2, hj_2, rfl, hw_1⟩ | ⟨rfl, hw_1⟩
  · have hdj_2 := hdn j_2
    have htj_2 := htm j_2
    refine lv_if_eq (tgt := 17) hx hb dX8_taking_5 (by decide) (fun h => absurd h (by decide)) (fun _ => ?_)
    refine lv_aload_n hx hb dX8_taking_8 rfl (lv_at hl 0 rfl) ?_
    refine lv_iload_n hx hb dX8_taking_9 rfl (lv_at hl 1 rfl) ?_
    refine lv_iload_n hx hb dX8_taking_10 rfl (lv_at hl 3 rfl) ?_
    refine ro_i (D := D) (va_runV (As := [.int (nI j_2), .int p2]) (rest := []) ⟨hx, hb, hml, hown, hts⟩ ((n_isDoor l D k st lo a tx t0 we rd ru rw ca fp wd nu na ts df db sd dn j_2 p2 hdn (by first | assumption | omega)) H.size) (cwV 2 hts (gV tw_1202 tw_1204 tw_40 tw_87 tw_1205) rfl rfl rfl (by decide +kernel) ⟨Nat.le_of_ble_eq_true rfl, Nat.le_of_ble_eq_true rfl⟩) (pV hS hAlo hlo hP hK hDL hZ [0, 1] (by decide) rfl (ci := 8) (q := (RX8, TX8, 44)) (q0 := 0) rfl rfl) rfl rfl hl.1 rfl (lv_room (Nat.le_of_ble_eq_true rfl)) dX8_taking_11 ⟨Nat.le_of_ble_eq_true rfl, Nat.le_of_ble_eq_true rfl⟩) hS hA hP (fun r_3 H locs hw_3 hP hS => ?_)
    try dsimp only at hw_3
    rcases hw_3 with ⟨rfl, j_4, hj_4, rfl, hw_3⟩ | ⟨rfl, hw_3⟩
    · refine lv_if_ne (tgt := 21) hx hb dX8_taking_14 (by decide) (fun _ => ?_) (fun h => absurd h (by decide))
      refine lv_aload_n hx hb dX8_taking_21 rfl (lv_at hl 0 rfl) ?_
      refine lv_iload_n hx hb dX8_taking_22 rfl (lv_at hl 1 rfl) ?_
      refine lv_iload_n hx hb dX8_taking_23 rfl (lv_at hl 2 rfl) ?_
      refine ro_i (D := D) (va_runV (As := [.int (nI j_2), .int p1]) (rest := []) ⟨hx, hb, hml, hown, hts⟩ ((n_isRound l D k st lo a tx t0 we rd ru rw ca fp wd nu na ts df db sd se tm gs j_2 p1 htm (by first | assumption | omega)) H.size) (cwV 2 hts (gV tw_1218 tw_1220 tw_42 tw_87 tw_1221) rfl rfl rfl (by decide +kernel) ⟨Nat.le_of_ble_eq_true rfl, Nat.le_of_ble_eq_true rfl⟩) (pV hS hAlo hlo hP hK hDL hZ [0, 2] (by decide) rfl (ci := 8) (q := (RX8, TX8, 44)) (q0 := 0) rfl rfl) rfl rfl hl.1 rfl (lv_room (Nat.le_of_ble_eq_true rfl)) dX8_taking_24 ⟨Nat.le_of_ble_eq_true rfl, Nat.le_of_ble_eq_true rfl⟩) hS hA hP (fun r_5 H locs hw_5 hP hS => ?_)
      try dsimp only at hw_5
      rcases hw_5 with ⟨rfl, j_6, hj_6, rfl, hw_5⟩ | ⟨rfl, hw_5⟩
      · refine lv_if_eq (tgt := 40) hx hb dX8_taking_27 (by decide) (fun h => absurd h (by decide)) (fun _ => ?_)
        refine lv_aload_n hx hb dX8_taking_30 rfl (lv_at hl 0 rfl) ?_
        refine lv_iload_n hx hb dX8_taking_31 rfl (lv_at hl 1 rfl) ?_
        refine lv_iload_n hx hb dX8_taking_32 rfl (lv_at hl 2 rfl) ?_
        refine lv_iload_n hx hb dX8_taking_33 rfl (lv_at hl 3 rfl) ?_
        refine ro_i (D := D) (va_runV (As := [.int (nI j_2), .int (nI j_6), .int (nI j_4)]) (rest := []) ⟨hx, hb, hml, hown, hts⟩ ((n_takingOf l D k st lo a tx t0 we rd ru rw ca fp wd nu na ts df db sd dn se tm gs fprices j_2 j_4 (nI j_6) (by first | assumption | omega) (by first | assumption | omega)) H.size) (cwV 3 hts (gV tw_1222 tw_1224 tw_43 tw_87 tw_1225) rfl rfl rfl (by decide +kernel) ⟨Nat.le_of_ble_eq_true rfl, Nat.le_of_ble_eq_true rfl⟩) (pV hS hAlo hlo hP hK hDL hZ [0, 1, 2, 4] (by decide) rfl (ci := 8) (q := (RX8, TX8, 44)) (q0 := 0) rfl rfl) rfl rfl hl.1 rfl (lv_room (Nat.le_of_ble_eq_true rfl)) dX8_taking_34 ⟨Nat.le_of_ble_eq_true rfl, Nat.le_of_ble_eq_true rfl⟩) hS hA hP (fun r_7 H locs hw_7 hP hS => ?_)
        try dsimp only at hw_7
        refine lv_goto (tgt := 43) hx hb dX8_taking_37 (by decide) ?_
        exact W.iret (v := r_7) hx hb hr (fun t ht hW => ⟨⟨r_7, (), rfl, dq_at (s := j_2) (by omega) (show dn j_2 ≤ 24 by omega) (show j_4 < dn j_2 by omega) (tk_i (by omega) (by rw [rdM]; exact inr (by omega) (by omega)) (hw_7.trans (mTake (by omega)))), trivial⟩, hS.F ht⟩) hS.2.2 dX8_taking_43
      · refine lv_if_eq (tgt := 40) hx hb dX8_taking_27 (by decide) (fun _ => ?_) (fun h => absurd (by decide) h)
        refine lv_sipush (v := (-1002)) hx hb dX8_taking_40 (by decide) ?_
        exact W.iret (v := (-1002)) hx hb hr (fun t ht hW => ⟨⟨(-1002), (), rfl, dq_at (s := j_2) (by omega) (show dn j_2 ≤ 24 by omega) (show j_4 < dn j_2 by omega) (tk_o (by rw [rdM]; exact hw_5)), trivial⟩, hS.F ht⟩) hS.2.2 dX8_taking_43
    · refine lv_if_ne (tgt := 21) hx hb dX8_taking_14 (by decide) (fun h => absurd (by decide) h) (fun _ => ?_)
      refine lv_sipush (v := (-1001)) hx hb dX8_taking_17 (by decide) ?_
      exact W.iret (v := (-1001)) hx hb hr (fun t ht hW => ⟨⟨(-1001), (), rfl, dq_no (fun s h1 h2 i h3 h4 => by have h9 := nI_inj (by omega) (by omega) h2; subst h9; exact hw_3 i h3 h4), trivial⟩, hS.F ht⟩) hS.2.2 dX8_taking_20
  · refine lv_if_eq (tgt := 17) hx hb dX8_taking_5 (by decide) (fun _ => ?_) (fun h => absurd (by decide) h)
    refine lv_sipush (v := (-1001)) hx hb dX8_taking_17 (by decide) ?_
    exact W.iret (v := (-1001)) hx hb hr (fun t ht hW => ⟨⟨(-1001), (), rfl, dq_no (fun s h1 h2 i h3 h4 => hw_1 s h1 h2 (by show 0 < dn s; replace h4 : i < dn s := h4; omega)), trivial⟩, hS.F ht⟩) hS.2.2 dX8_taking_20

theorem f_glueP15 : True := trivial
/-! the best way, from the last door back -/
def pMn (a b : Int32) : Int32 := if b < a then b else a
def pMix (c a b : Int32) : Int32 := fM_mixed c a b
def pW (d : SDt) (r i : Nat) (on : Int32) (g : Nat) : Int32 := if g % 2 = 1 then pMn on (pTake d r i) else on
def pb (b : Bool) : Int32 := if b = true then 1 else 0
def pBit (g k : Nat) : Bool := decide (g / 2 ^ k % 2 = 1)
def pNx (d : SDt) (see i : Nat) (W : Nat → Int32) (g : Nat) : Int32 := if i + 1 + see < d.1 then pMix (pChance d (i + 1 + see) (pb (pBit g see))) (W (g / 2 + 2 ^ see)) (W (g / 2)) else W (g / 2)
/-- ON at the door that is j ahead of the last one -/
def pO (d : SDt) (see r : Nat) (E : Int32) : Nat → Nat → Int32
  | 0, _ => pPass d + E
  | j + 1, g => pPass d + pNx d see (d.1 - 1 - (j + 1)) (fun h => pW d r (d.1 - 1 - j) (pO d see r E j h) h) g
def pOn (d : SDt) (see r : Nat) (E : Int32) (i g : Nat) : Int32 := pO d see r E (d.1 - 1 - i) g
def pWo (d : SDt) (see r : Nat) (E : Int32) (i g : Nat) : Int32 := pW d r i (pOn d see r E i g) g
theorem pOn_last {d : SDt} {see r i g : Nat} {E : Int32} (h : i + 1 = d.1) : pOn d see r E i g = pPass d + E := by
  unfold pOn
  rw [show d.1 - 1 - i = 0 by omega]
  rfl
theorem pOn_next {d : SDt} {see r i g : Nat} {E : Int32} (h : i + 1 < d.1) : pOn d see r E i g = pPass d + pNx d see i (fun x => pWo d see r E (i + 1) x) g := by
  unfold pOn
  rw [show d.1 - 1 - i = (d.1 - 1 - (i + 1)) + 1 by omega]
  show pPass d + pNx d see (d.1 - 1 - (d.1 - 1 - (i + 1) + 1)) (fun h => pW d r (d.1 - 1 - (d.1 - 1 - (i + 1))) (pO d see r E (d.1 - 1 - (i + 1)) h) h) g = _
  rw [show d.1 - 1 - (d.1 - 1 - (i + 1) + 1) = i by omega, show d.1 - 1 - (d.1 - 1 - (i + 1)) = i + 1 by omega]
  rfl
/-- how many doors one sees from door i, with its own -/
def sqN (see n i : Nat) : Nat := min (see + 1) (n - i)
def pAh (h k : Nat) : Int32 := if 0 < k ∧ h / 2 ^ (k - 1) % 2 = 1 then 1 else 0
/-- the start: what isn't known yet, from the farthest seen door back -/
def pFo (d : SDt) (W : Nat → Int32) (q : Nat) : Nat → Nat → Int32
  | 0, h => W h
  | m + 1, h => pMix (pChance d (q - 1 - m) (pAh h (q - 1 - m))) (pFo d W q m (h + 2 ^ (q - 1 - m))) (pFo d W q m h)
def pSv (d : SDt) (see r : Nat) (E : Int32) : Int32 := pFo d (fun h => pWo d see r E 0 h) (sqN see d.1 0) (sqN see d.1 0) 0
/-- end and start of the round that is m ahead of the last -/
def pES (d : SDt) (see tm : Nat) : Nat → Int32 × Int32
  | 0 => (pGar d tm, pSv d see tm (pGar d tm))
  | m + 1 => (pMn (pGar d (tm - (m + 1))) (pRnd d + (pES d see tm m).2), pSv d see (tm - (m + 1)) (pMn (pGar d (tm - (m + 1))) (pRnd d + (pES d see tm m).2)))
def pEr (d : SDt) (see tm r : Nat) : Int32 := (pES d see tm (tm - r)).1
def pSr (d : SDt) (see tm r : Nat) : Int32 := (pES d see tm (tm - r)).2
theorem pEr_last {d : SDt} {see tm : Nat} : pEr d see tm tm = pGar d tm := by
  unfold pEr
  rw [Nat.sub_self]
  rfl
theorem pEr_ahead {d : SDt} {see tm r : Nat} (h : r < tm) : pEr d see tm r = pMn (pGar d r) (pRnd d + pSr d see tm (r + 1)) := by
  unfold pEr pSr
  rw [show tm - r = (tm - (r + 1)) + 1 by omega]
  show pMn (pGar d (tm - (tm - (r + 1) + 1))) _ = _
  rw [show tm - (tm - (r + 1) + 1) = r by omega]
theorem pSr_of {d : SDt} {see tm r : Nat} (h : r ≤ tm) : pSr d see tm r = pSv d see r (pEr d see tm r) := by
  unfold pEr pSr
  rcases Nat.eq_or_lt_of_le h with h1 | h1
  · rw [show tm - r = 0 by omega, h1]
    rfl
  · rw [show tm - r = (tm - (r + 1)) + 1 by omega]
    show pSv d see (tm - (tm - (r + 1) + 1)) (pMn (pGar d (tm - (tm - (r + 1) + 1))) _) = pSv d see r (pMn (pGar d (tm - (tm - (r + 1) + 1))) _)
    rw [show tm - (tm - (r + 1) + 1) = r by omega]
/-- a street's way as rows hold it -/
def slN (r i g : Nat) : Nat := (r * 24 + i) * 8 + g
def onOK (d : SDt) (see r : Nat) (E : Int32) (i0 : Nat) (on : Nat → Int32) : Prop := ∀ i, i0 ≤ i → i < d.1 → ∀ g, g < 2 ^ sqN see d.1 i → on (slN r i g) = pOn d see r E i g
def wyOK (d : SDt) (see tm r0 : Nat) (on sr en : Nat → Int32) : Prop := ∀ r, r0 ≤ r → r ≤ tm → en r = pEr d see tm r ∧ sr r = pSr d see tm r ∧ onOK d see r (pEr d see tm r) 0 on
theorem sq_le {see n i : Nat} (h : see ≤ 2) : sqN see n i ≤ 3 := by
  unfold sqN
  omega
theorem p8 {q : Nat} (h : q ≤ 3) : 1 ≤ 2 ^ q ∧ 2 ^ q ≤ 8 := by
  rcases (show q = 0 ∨ q = 1 ∨ q = 2 ∨ q = 3 by omega) with rfl | rfl | rfl | rfl <;> decide
/-- one more sight of door i -/
theorem on_step {d : SDt} {see r i g : Nat} {E x : Int32} {on : Nat → Int32} (hn : d.1 ≤ 24) (hs : see ≤ 2) (hi : i < d.1) (hg : g < 8) (h1 : onOK d see r E (i + 1) on) (h2 : ∀ h, h < g → on (slN r i h) = pOn d see r E i h) (hx : x = pOn d see r E i g) : onOK d see r E (i + 1) (upd on (slN r i g) x) ∧ ∀ h, h < g + 1 → upd on (slN r i g) x (slN r i h) = pOn d see r E i h := by
  refine ⟨fun j hj hj2 h hh => ?_, fun h hh => ?_⟩
  · have h8 := (p8 (sq_le (n := d.1) (i := j) hs)).2
    rw [pk_un (by unfold slN; omega)]
    exact h1 j hj hj2 h hh
  · by_cases e : h = g
    · rw [e, pk_us]
      exact hx
    · rw [pk_un (by unfold slN; omega)]
      exact h2 h (by omega)
theorem on_door {d : SDt} {see r i m : Nat} {E : Int32} {on : Nat → Int32} (hm : m = 2 ^ sqN see d.1 i) (h1 : onOK d see r E (i + 1) on) (h2 : ∀ h, h < m → on (slN r i h) = pOn d see r E i h) : onOK d see r E i on := by
  intro j hj hj2 h hh
  rcases Nat.eq_or_lt_of_le hj with e | e
  · subst e
    exact h2 h (by rw [hm]; exact hh)
  · exact h1 j e hj2 h hh
/-- a round's row doesn't touch another's -/
theorem on_other {d : SDt} {see r q : Nat} {E : Int32} {on on2 : Nat → Int32} (hn : d.1 ≤ 24) (hs : see ≤ 2) (h : ∀ x, ¬ (192 * q ≤ x ∧ x < 192 * q + 192) → on2 x = on x) (hr : r ≠ q) (h1 : onOK d see r E 0 on) : onOK d see r E 0 on2 := by
  intro i hi hi2 g hg
  have h8 := (p8 (sq_le (n := d.1) (i := i) hs)).2
  rw [h _ (by unfold slN; omega)]
  exact h1 i hi hi2 g hg
theorem pMn_le (a b : Int32) : (if b ≤ a then b else a) = pMn a b := by
  unfold pMn
  by_cases h : b < a
  · have k := Int32.lt_iff_toInt_lt.mp h
    rw [if_pos h, if_pos (Int32.le_iff_toInt_le.mpr (by omega))]
  · have k : ¬ b.toInt < a.toInt := fun q => h (Int32.lt_iff_toInt_lt.mpr q)
    rw [if_neg h]
    by_cases h2 : b ≤ a
    · have k2 := Int32.le_iff_toInt_le.mp h2
      rw [if_pos h2]
      exact Int32.toInt_inj.mp (by omega)
    · rw [if_neg h2]
theorem i64_of32 {a b : Int64} (h : a.toInt = b.toInt) : a = b := Int64.toInt_inj.mp h
theorem mix_same {c a b : Int32} (hc : inB c 0 100) : fX_mixed c a b = pMix c a b := by
  have e0 : (0 : Int32).toInt = 0 := by decide
  have e1 : (100 : Int32).toInt = 100 := by decide
  have e2 : (100 : Int64).toInt = 100 := by decide
  have h1 := Int32.le_iff_toInt_le.mp hc.1
  have h2 := Int32.le_iff_toInt_le.mp hc.2
  have e : (100 - c).toInt64 = 100 - c.toInt64 := by
    apply i64_of32
    rw [Int32.toInt_toInt64, Int64.toInt_sub, Int32.toInt_toInt64, Int32.toInt_sub, e1, e2]
    rw [Int.bmod_eq_of_le (by omega) (by omega), Int.bmod_eq_of_le (by omega) (by omega)]
  unfold fX_mixed pMix fM_mixed
  rw [e]
theorem pCl_in (v : Int32) : inB (pCl v) 0 100 := by
  unfold pCl
  by_cases h : 0 ≤ v
  · rw [if_pos h]
    by_cases h2 : v ≤ 100
    · rw [if_pos h2]
      exact ⟨h, h2⟩
    · rw [if_neg h2]
      exact ⟨by decide, by decide⟩
  · rw [if_neg h]
    exact ⟨by decide, by decide⟩
theorem pCh_in {d : SDt} {i : Nat} {p : Int32} : inB (pChance d i p) 0 100 := pCl_in _
/-! sights as ints -/
theorem ev_and : ∀ g, g < 8 → ((nI g &&& 1 = 0 ↔ ¬ g % 2 = 1) ∧ (nI g &&& 1 = 1 ↔ g % 2 = 1)) := by decide
theorem hf_shr : ∀ g, g < 8 → nI g >>> ((1 : Int32) &&& 31) = nI (g / 2) := by decide
theorem bt_shr : ∀ k, k < 3 → ∀ g, g < 8 → (((nI g >>> (nI k &&& 31)) &&& 1 = 0 ↔ pBit g k = false) ∧ ((nI g >>> (nI k &&& 31)) &&& 1 = 1 ↔ pBit g k = true)) := by decide
theorem or_bit : ∀ k, k < 3 → ∀ g, g < 2 ^ k → nI g ||| ((1 : Int32) <<< (nI k &&& 31)) = nI (g + 2 ^ k) := by decide
theorem or_bit2 : ∀ k, k < 3 → ∀ g, g < 2 ^ k → nI g ||| nI (2 ^ k) = nI (g + 2 ^ k) := by decide
theorem pW_0 {d : SDt} {r i g : Nat} {on : Int32} (hg : g < 8) (h : nI g &&& 1 = 0) : pW d r i on g = on := by
  unfold pW
  rw [if_neg (((ev_and g hg).1).mp h)]
theorem pW_1 {d : SDt} {r i g : Nat} {on : Int32} (hg : g < 8) (h : ¬ nI g &&& 1 = 0) : pW d r i on g = pMn on (pTake d r i) := by
  unfold pW
  rw [if_pos (Classical.not_not.mp (fun q => h (((ev_and g hg).1).mpr q)))]
theorem pb_1 {g k : Nat} (hk : k < 3) (hg : g < 8) (h : ¬ (nI g >>> (nI k &&& 31)) &&& 1 = 0) : pb (pBit g k) = 1 := by
  rcases hb : pBit g k with _ | _
  · exact absurd (((bt_shr k hk g hg).1).mpr hb) h
  · rfl
theorem pb_0 {g k : Nat} (hk : k < 3) (hg : g < 8) (h : (nI g >>> (nI k &&& 31)) &&& 1 = 0) : pb (pBit g k) = 0 := by
  rw [((bt_shr k hk g hg).1).mp h]
  rfl
theorem nx_1 {d : SDt} {see i g : Nat} {W : Nat → Int32} {c a b q : Int32} (h : i + 1 + see < d.1) (hc : c = pChance d (i + 1 + see) (pb (pBit g see))) (ha : a = W (g / 2 + 2 ^ see)) (hb : b = W (g / 2)) (hq : q = fX_mixed c a b) : q = pNx d see i W g := by
  unfold pNx
  rw [if_pos h, hq, mix_same (by rw [hc]; exact pCh_in), hc, ha, hb]
theorem nx_0 {d : SDt} {see i g : Nat} {W : Nat → Int32} {q : Int32} (h : ¬ i + 1 + see < d.1) (hq : q = W (g / 2)) : q = pNx d see i W g := by
  unfold pNx
  rw [if_neg h, hq]
theorem sq_in {see n i : Nat} (h : i + 1 + see < n) : sqN see n i = see + 1 ∧ sqN see n (i + 1) = see + 1 := by
  unfold sqN
  omega
theorem sq_out {see n i : Nat} (h : ¬ i + 1 + see < n) (hi : i + 1 < n) : sqN see n i = sqN see n (i + 1) + 1 := by
  unfold sqN
  omega
theorem half_lt {g q : Nat} (h : g < 2 ^ (q + 1)) : g / 2 < 2 ^ q := by
  rw [Nat.pow_succ] at h
  omega
theorem nx_congr {d : SDt} {see i g : Nat} {W W2 : Nat → Int32} (hi : i + 1 < d.1) (hg : g < 2 ^ sqN see d.1 i) (h : ∀ x, x < 2 ^ sqN see d.1 (i + 1) → W x = W2 x) : pNx d see i W g = pNx d see i W2 g := by
  unfold pNx
  by_cases c : i + 1 + see < d.1
  · rw [if_pos c, if_pos c]
    obtain ⟨e1, e2⟩ := sq_in c
    rw [e1] at hg
    rw [e2] at h
    have h1 := half_lt hg
    rw [h (g / 2 + 2 ^ see) (by rw [Nat.pow_succ]; omega), h (g / 2) (by rw [Nat.pow_succ]; omega)]
  · rw [if_neg c, if_neg c]
    rw [sq_out c hi] at hg
    exact h _ (half_lt hg)
theorem pw_lt {j q : Nat} : 2 ^ j < 2 ^ q ↔ j < q := Nat.pow_lt_pow_iff_right (by omega)
theorem ah_1 {g k : Nat} (hk : k < 3) (hk0 : 0 < k) (hg : g < 8) (h : ¬ (nI g >>> (nI (k - 1) &&& 31)) &&& 1 = 0) : pAh g k = 1 := by
  have h1 := (bt_shr (k - 1) (by omega) g hg).1
  have hx : g / 2 ^ (k - 1) % 2 = 1 := by
    rcases hb : pBit g (k - 1) with _ | _
    · exact absurd (h1.mpr hb) h
    · exact of_decide_eq_true hb
  unfold pAh
  rw [if_pos ⟨hk0, hx⟩]
theorem ah_0 {g k : Nat} (hk : k < 3) (hg : g < 8) (h : (nI g >>> (nI (k - 1) &&& 31)) &&& 1 = 0) : pAh g k = 0 := by
  have h1 := ((bt_shr (k - 1) (by omega) g hg).1).mp h
  unfold pAh
  rw [if_neg (fun q => absurd q.2 (of_decide_eq_false h1))]
theorem ah_z {g : Nat} : pAh g 0 = 0 := rfl
/-- one entry of the fold -/
theorem fo_step {d : SDt} {W : Nat → Int32} {q j g : Nat} {f : Nat → Int32} {x c a b : Int32} (hj : j < q) (hg : g < 2 ^ j) (h1 : ∀ h, h < g → f h = pFo d W q (q - j) h) (h2 : ∀ h, g ≤ h → h < 2 ^ (j + 1) → f h = pFo d W q (q - (j + 1)) h) (hc : c = pChance d j (pAh g j)) (ha : a = f (g + 2 ^ j)) (hb : b = f g) (hx : x = fX_mixed c a b) : (∀ h, h < g + 1 → upd f g x h = pFo d W q (q - j) h) ∧ ∀ h, g + 1 ≤ h → h < 2 ^ (j + 1) → upd f g x h = pFo d W q (q - (j + 1)) h := by
  have hp : 2 ^ (j + 1) = 2 ^ j * 2 := Nat.pow_succ ..
  refine ⟨fun h hh => ?_, fun h hh hh2 => ?_⟩
  · by_cases e : h = g
    · rw [e, pk_us, hx, mix_same (by rw [hc]; exact pCh_in), hc, ha, hb, h2 _ (by omega) (by omega), h2 _ (by omega) (by omega), show q - j = (q - (j + 1)) + 1 by omega]
      show _ = pMix (pChance d (q - 1 - (q - (j + 1))) (pAh g (q - 1 - (q - (j + 1))))) (pFo d W q (q - (j + 1)) (g + 2 ^ (q - 1 - (q - (j + 1))))) (pFo d W q (q - (j + 1)) g)
      rw [show q - 1 - (q - (j + 1)) = j by omega]
    · rw [pk_un e]
      exact h1 h (by omega)
  · rw [pk_un (by omega)]
    exact h2 h (by omega) hh2
theorem fo_stepM {d : SDt} {W : Nat → Int32} {q j g : Nat} {f : Nat → Int32} {x c a b : Int32} (hj : j < q) (hg : g < 2 ^ j) (h1 : ∀ h, h < g → f h = pFo d W q (q - j) h) (h2 : ∀ h, g ≤ h → h < 2 ^ (j + 1) → f h = pFo d W q (q - (j + 1)) h) (hc : c = pChance d j (pAh g j)) (ha : a = f (g + 2 ^ j)) (hb : b = f g) (hx : x = fM_mixed c a b) : (∀ h, h < g + 1 → upd f g x h = pFo d W q (q - j) h) ∧ ∀ h, g + 1 ≤ h → h < 2 ^ (j + 1) → upd f g x h = pFo d W q (q - (j + 1)) h :=
  fo_step hj hg h1 h2 hc ha hb (hx.trans (mix_same (by rw [hc]; exact pCh_in)).symm)
theorem wy_step {d : SDt} {see tm r : Nat} {on on2 sr en : Nat → Int32} {x s : Int32} (hn : d.1 ≤ 24) (hs : see ≤ 2) (hr : r ≤ tm) (h : wyOK d see tm (r + 1) on sr en) (hx : x = pEr d see tm r) (h1 : onOK d see r (upd en r x r) 0 on2) (ho : ∀ y, ¬ (192 * r ≤ y ∧ y < 192 * r + 192) → on2 y = on y) (hsv : s = pSv d see r (upd en r x r)) : wyOK d see tm r on2 (upd sr r s) (upd en r x) := by
  rw [pk_us] at h1 hsv
  intro q hq hq2
  rcases Nat.eq_or_lt_of_le hq with e | e
  · subst e
    rw [pk_us, pk_us, hsv, hx]
    rw [hx] at h1
    exact ⟨rfl, (pSr_of hr).symm, h1⟩
  · rw [pk_un (by omega), pk_un (by omega)]
    obtain ⟨a1, a2, a3⟩ := h q e hq2
    exact ⟨a1, a2, on_other hn hs ho (by omega) a3⟩


set_option maxHeartbeats 4000000 in
set_option maxRecDepth 100000 in
theorem y_sightsAt (l : Launch) (D : va_G) (k : Nat → ClassId) (st : Nat → Nat) (lo : Nat) (h0 : Nat) (h1 : Nat) (h2 : Nat) (h3 : Nat) (h4 : Nat) (n : Nat) (see : Nat) (tm : Nat) (g : Nat → Int32) (i : Nat) (hn : n ≤ 24) (hsee : see ≤ 2) (hi : i ≤ n) : CRi l D k st lo yX5_sightsAt cX5_sightsAt 2 (some .int) ({ frames := 1, cells := 0, slots := 0, locals := 60 }) [.ref h0, .int (nI i)] [(h0, .inr (5, (fX5 h1 h2 h3 h4))), (aI k h1 10 (vv n see tm g))] (fun r => r = nI (2 ^ sqN see n i)) := by
  intro sz
  refine Met.ofW (cc := cX5_sightsAt) (maxL := 2) (ret := (some .int)) (by decide) rfl ?_
  intro p e s m args below meth c s₁ B hml hv
  obtain ⟨rfl, hsz, hlo, hP, hK, hDL, hZ⟩ := hv
  have hx := B.exec
  have hb := B.bytes
  have hr := B.returns
  have hts := WS_ts B.pre
  have hown : s.vm.findClass RX5 = some m.cls := findClass_of_methodNamed B.named
  have hlocks := B.notSynchronized
  subst hsz
  have hA : ∀ q : Nat, s.heap.size ≤ q → (fun q : Nat => s.heap.size ≤ q) q := fun _ h => h
  have hAlo : ∀ q : Nat, (fun q : Nat => s.heap.size ≤ q) q → lo ≤ q := fun q h => Nat.le_trans hlo h
  have hS : va_S (fun q : Nat => s.heap.size ≤ q) s.heap s.heap [] := va_S.rf
  have hl := lv_entry ([.ref h0, .int (nI i)]) (n := 2) (Nat.le_of_ble_eq_true rfl)
  rw [lg_entry_eq]
  generalize (lg_sl ([.ref h0, .int (nI i)]) ++ List.replicate (2 - (lg_sl ([.ref h0, .int (nI i)])).length) Slot.unset).toArray = ls at hl ⊢
  have hl : lv_has ls 2 [(0, .ref h0), (1, .int (nI i))] := hl
  refine lv_iconst (v := 1) hx hb dX5_sightsAt_0 (by decide) ?_
  refine lv_aload_n hx hb dX5_sightsAt_1 rfl (lv_at hl 0 rfl) ?_
  refine va_get (D := D) (ci := 5) (v := .ref h1) (C := RX5) (T := TX5) (N := 4) hx hb hts inX5 hown hK hP 0 rfl rfl 0 (by decide) (hts _ tw_146) (fun _ h9 => h9) rfl dX5_sightsAt_2 ?_
  refine lv_bipush (v := 6) hx hb dX5_sightsAt_5 (by decide) ?_
  refine va_iald hx hb hK hP 1 1 rfl rfl (by unfold vp_in; decide) dX5_sightsAt_7 ?_
  refine lv_ti (y := (nI see)) (by rfl) ?_
  refine lv_iconst (v := 1) hx hb dX5_sightsAt_8 (by decide) ?_
  refine lv_iadd hx hb dX5_sightsAt_9 ?_
  refine lv_ti (y := (nI (see + 1))) (nI_add see 1) ?_
  refine lv_aload_n hx hb dX5_sightsAt_10 rfl (lv_at hl 0 rfl) ?_
  refine va_get (D := D) (ci := 5) (v := .ref h1) (C := RX5) (T := TX5) (N := 4) hx hb hts inX5 hown hK hP 0 rfl rfl 0 (by decide) (hts _ tw_146) (fun _ h9 => h9) rfl dX5_sightsAt_11 ?_
  refine lv_iconst (v := 0) hx hb dX5_sightsAt_14 (by decide) ?_
  refine va_iald hx hb hK hP 1 1 rfl rfl (by unfold vp_in; decide) dX5_sightsAt_15 ?_
  refine lv_ti (y := (nI n)) (by rfl) ?_
  refine lv_iload_n hx hb dX5_sightsAt_16 rfl (lv_at hl 1 rfl) ?_
  refine lv_isub hx hb dX5_sightsAt_17 ?_
  refine lv_ti (y := (nI (n - i))) (pk_sub (a := n) (b := i) (by omega)) ?_
  refine va_mmin hx hb (by rw [hml]; exact hl.1.symm) hown (hts _ tw_540) (hts _ tw_529) (hts _ tw_93) (hts _ tw_530) (Nat.le_of_ble_eq_true rfl) (Nat.le_of_ble_eq_true rfl) (Nat.le_of_ble_eq_true rfl) (Nat.le_of_ble_eq_true rfl) dX5_sightsAt_18 ?_
  refine lv_ti (y := (nI (min (see + 1) (n - i)))) (mminN (by omega) (by omega)) ?_
  have hsq_2 : min (see + 1) (n - i) ≤ 3 := by omega
  refine lv_ishl hx hb dX5_sightsAt_21 ?_
  refine lv_ti (y := (nI (2 ^ (min (see + 1) (n - i))))) (shl1 (min (see + 1) (n - i)) (by omega)) ?_
  exact W.iret (v := (nI (2 ^ (min (see + 1) (n - i))))) hx hb hr (fun t ht hW => ⟨⟨(nI (2 ^ (min (see + 1) (n - i)))), (), rfl, rfl, trivial⟩, hS.F ht⟩) hS.2.2 dX5_sightsAt_22


set_option maxHeartbeats 4000000 in
set_option maxRecDepth 100000 in
theorem y_onwardOf (l : Launch) (D : va_G) (k : Nat → ClassId) (st : Nat → Nat) (lo : Nat) (h0 : Nat) (w0 : Nat) (w1 : Nat) (w2 : Nat) (w3 : Nat) (w4 : Nat) (on : Nat → Int32) (rn : Nat) (i : Nat) (gg : Nat) (hrn : rn ≤ 3) (hi : i < 24) (hg : gg < 8) : CRi l D k st lo yX0_onwardOf cX0_onwardOf 4 (some .int) ({ frames := 1, cells := 0, slots := 0, locals := 22 }) [.ref w0, .int (nI rn), .int (nI i), .int (nI gg)] [(w0, .inr (0, (fX0 h0 w1 w2 w3 w4))), (aI k w1 768 on)] (fun r => r = on (slN rn i gg)) := by
  intro sz
  refine Met.ofW (cc := cX0_onwardOf) (maxL := 4) (ret := (some .int)) (by decide) rfl ?_
  intro p e s m args below meth c s₁ B hml hv
  obtain ⟨rfl, hsz, hlo, hP, hK, hDL, hZ⟩ := hv
  have hx := B.exec
  have hb := B.bytes
  have hr := B.returns
  have hts := WS_ts B.pre
  have hown : s.vm.findClass RX0 = some m.cls := findClass_of_methodNamed B.named
  have hlocks := B.notSynchronized
  subst hsz
  have hA : ∀ q : Nat, s.heap.size ≤ q → (fun q : Nat => s.heap.size ≤ q) q := fun _ h => h
  have hAlo : ∀ q : Nat, (fun q : Nat => s.heap.size ≤ q) q → lo ≤ q := fun q h => Nat.le_trans hlo h
  have hS : va_S (fun q : Nat => s.heap.size ≤ q) s.heap s.heap [] := va_S.rf
  have hl := lv_entry ([.ref w0, .int (nI rn), .int (nI i), .int (nI gg)]) (n := 4) (Nat.le_of_ble_eq_true rfl)
  rw [lg_entry_eq]
  generalize (lg_sl ([.ref w0, .int (nI rn), .int (nI i), .int (nI gg)]) ++ List.replicate (4 - (lg_sl ([.ref w0, .int (nI rn), .int (nI i), .int (nI gg)])).length) Slot.unset).toArray = ls at hl ⊢
  have hl : lv_has ls 4 [(0, .ref w0), (1, .int (nI rn)), (2, .int (nI i)), (3, .int (nI gg))] := hl
  refine lv_aload_n hx hb dX0_onwardOf_0 rfl (lv_at hl 0 rfl) ?_
  refine va_get (D := D) (ci := 0) (v := .ref w1) (C := RX0) (T := TX0) (N := 5) hx hb hts inX0 hown hK hP 0 rfl rfl 1 (by decide) (hts _ tw_267) (fun _ h9 => h9) rfl dX0_onwardOf_1 ?_
  refine lv_iload_n hx hb dX0_onwardOf_4 rfl (lv_at hl 1 rfl) ?_
  refine lv_iload_n hx hb dX0_onwardOf_5 rfl (lv_at hl 2 rfl) ?_
  refine lv_iload_n hx hb dX0_onwardOf_6 rfl (lv_at hl 3 rfl) ?_
  refine ro_i (D := D) (va_runS (As := [.int (nI rn), .int (nI i), .int (nI gg)]) (rest := [.ref w1]) ⟨hx, hb, hml, hown, hts⟩ ((x_slot l D k st lo rn i gg) s.heap.size) (va_cwS 3 hts (gS tw_553 tw_554 tw_85 tw_555) rfl rfl rfl (by decide +kernel) ⟨Nat.le_of_ble_eq_true rfl, Nat.le_of_ble_eq_true rfl⟩) (pS hS hAlo hlo hP hK hDL hZ [] (by decide) rfl) rfl rfl hl.1 rfl (lv_room (Nat.le_of_ble_eq_true rfl)) dX0_onwardOf_7 ⟨Nat.le_of_ble_eq_true rfl, Nat.le_of_ble_eq_true rfl⟩) hS hA hP (fun r_1 H locs hw_1 hP hS => ?_)
  try dsimp only at hw_1
  subst hw_1
  refine va_iald hx hb hK hP 1 1 rfl rfl (vp_in_nI (by omega) (by decide)) dX0_onwardOf_10 ?_
  refine lv_ti (y := (on ((rn * 24 + i) * 8 + gg))) (by rw [nI_clamp (by omega)]) ?_
  exact W.iret (v := (on ((rn * 24 + i) * 8 + gg))) hx hb hr (fun t ht hW => ⟨⟨(on ((rn * 24 + i) * 8 + gg)), (), rfl, rfl, trivial⟩, hS.F ht⟩) hS.2.2 dX0_onwardOf_11


set_option maxHeartbeats 4000000 in
set_option maxRecDepth 100000 in
theorem y_worthOf (l : Launch) (D : va_G) (k : Nat → ClassId) (st : Nat → Nat) (lo : Nat) (h0 : Nat) (h1 : Nat) (h2 : Nat) (h3 : Nat) (h4 : Nat) (n : Nat) (see : Nat) (tm : Nat) (g : Nat → Int32) (ff : Nat → Int32) (fp : Nat → Int32) (fl : Nat → Int32) (w0 : Nat) (w1 : Nat) (w2 : Nat) (w3 : Nat) (w4 : Nat) (on : Nat → Int32) (rn : Nat) (i : Nat) (gg : Nat) (hrn : rn ≤ 3) (hi : i < n) (hn : n ≤ 24) (hg : gg < 8) (hl9 : ∀ r, r < 4 → fl r = pLate (sdX n see tm g ff fp) r) : CRi l D k st lo yX0_worthOf cX0_worthOf 5 (some .int) ({ frames := 2, cells := 0, slots := 0, locals := 60 }) [.ref w0, .int (nI rn), .int (nI i), .int (nI gg)] [(h0, .inr (5, (fX5 h1 h2 h3 h4))), (aI k h1 10 (vv n see tm g)), (aI k h2 24 ff), (aI k h3 24 fp), (aI k h4 4 fl), (w0, .inr (0, (fX0 h0 w1 w2 w3 w4))), (aI k w1 768 on)] (fun r => r = pW (sdX n see tm g ff fp) rn i (on (slN rn i gg)) gg) := by
  intro sz
  refine Met.ofW (cc := cX0_worthOf) (maxL := 5) (ret := (some .int)) (by decide) rfl ?_
  intro p e s m args below meth c s₁ B hml hv
  obtain ⟨rfl, hsz, hlo, hP, hK, hDL, hZ⟩ := hv
  have hx := B.exec
  have hb := B.bytes
  have hr := B.returns
  have hts := WS_ts B.pre
  have hown : s.vm.findClass RX0 = some m.cls := findClass_of_methodNamed B.named
  have hlocks := B.notSynchronized
  subst hsz
  have hA : ∀ q : Nat, s.heap.size ≤ q → (fun q : Nat => s.heap.size ≤ q) q := fun _ h => h
  have hAlo : ∀ q : Nat, (fun q : Nat => s.heap.size ≤ q) q → lo ≤ q := fun q h => Nat.le_trans hlo h
  have hS : va_S (fun q : Nat => s.heap.size ≤ q) s.heap s.heap [] := va_S.rf
  have hl := lv_entry ([.ref w0, .int (nI rn), .int (nI i), .int (nI gg)]) (n := 5) (Nat.le_of_ble_eq_true rfl)
  rw [lg_entry_eq]
  generalize (lg_sl ([.ref w0, .int (nI rn), .int (nI i), .int (nI gg)]) ++ List.replicate (5 - (lg_sl ([.ref w0, .int (nI rn), .int (nI i), .int (nI gg)])).length) Slot.unset).toArray = ls at hl ⊢
  have hl : lv_has ls 5 [(0, .ref w0), (1, .int (nI rn)), (2, .int (nI i)), (3, .int (nI gg))] := hl
  refine lv_aload_n hx hb dX0_worthOf_0 rfl (lv_at hl 0 rfl) ?_
  refine lv_iload_n hx hb dX0_worthOf_1 rfl (lv_at hl 1 rfl) ?_
  refine lv_iload_n hx hb dX0_worthOf_2 rfl (lv_at hl 2 rfl) ?_
  refine lv_iload_n hx hb dX0_worthOf_3 rfl (lv_at hl 3 rfl) ?_
  refine ro_i (D := D) (va_runV (As := [.int (nI rn), .int (nI i), .int (nI gg)]) (rest := []) ⟨hx, hb, hml, hown, hts⟩ ((y_onwardOf l D k st lo h0 w0 w1 w2 w3 w4 on rn i gg (by first | assumption | omega) (by first | assumption | omega) (by first | assumption | omega)) s.heap.size) (cwV 3 hts (gV tw_549 tw_550 tw_551 tw_85 tw_552) rfl rfl rfl (by decide +kernel) ⟨Nat.le_of_ble_eq_true rfl, Nat.le_of_ble_eq_true rfl⟩) (pV hS hAlo hlo hP hK hDL hZ [5, 6] (by decide) rfl (ci := 0) (q := (RX0, TX0, 5)) (q0 := 0) rfl rfl) rfl rfl hl.1 rfl (lv_room (Nat.le_of_ble_eq_true rfl)) dX0_worthOf_4 ⟨Nat.le_of_ble_eq_true rfl, Nat.le_of_ble_eq_true rfl⟩) hS hA hP (fun r_1 H locs hw_1 hP hS => ?_)
  try dsimp only at hw_1
  refine lv_istore (lv' := [(4, .int r_1), (0, .ref w0), (1, .int (nI rn)), (2, .int (nI i)), (3, .int (nI gg))]) hx hb dX0_worthOf_7 hl (by decide) rfl (fun ls hl => ?_)
  refine lv_iload_n hx hb dX0_worthOf_9 rfl (lv_at hl 4 rfl) ?_
  refine lv_iconst (v := 1) hx hb dX0_worthOf_10 (by decide) ?_
  refine lv_iand hx hb dX0_worthOf_11 ?_
  refine lv_topi (fun x_2 ex_2 => ?_)
  refine lv_if_ne (tgt := 20) hx hb dX0_worthOf_12 (by decide) (fun c_3 => ?_) (fun c_3 => ?_)
  · rw [ex_2] at c_3
    refine lv_iload hx hb dX0_worthOf_20 (lv_at hl 0 rfl) ?_
    refine lv_aload_n hx hb dX0_worthOf_22 rfl (lv_at hl 1 rfl) ?_
    refine va_get (D := D) (ci := 0) (v := .ref h0) (C := RX0) (T := TX0) (N := 5) hx hb hts inX0 hown hK hP 5 rfl rfl 0 (by decide) (hts _ tw_266) (fun _ h9 => h9) rfl dX0_worthOf_23 ?_
    refine lv_iload_n hx hb dX0_worthOf_26 rfl (lv_at hl 2 rfl) ?_
    refine lv_iload_n hx hb dX0_worthOf_27 rfl (lv_at hl 3 rfl) ?_
    refine ro_i (D := D) (va_runV (As := [.int (nI rn), .int (nI i)]) (rest := [.int r_1]) ⟨hx, hb, hml, hown, hts⟩ ((y_takingOf l D k st lo h0 h1 h2 h3 h4 n see tm g fp fl rn i (by first | assumption | omega) (by first | assumption | omega)) H.size) (cwV 2 hts (gV tw_556 tw_557 tw_558 tw_81 tw_559) rfl rfl rfl (by decide +kernel) ⟨Nat.le_of_ble_eq_true rfl, Nat.le_of_ble_eq_true rfl⟩) (pV hS hAlo hlo hP hK hDL hZ [0, 1, 3, 4] (by decide) rfl (ci := 5) (q := (RX5, TX5, 4)) (q0 := 0) rfl rfl) rfl rfl hl.1 rfl (lv_room (Nat.le_of_ble_eq_true rfl)) dX0_worthOf_28 ⟨Nat.le_of_ble_eq_true rfl, Nat.le_of_ble_eq_true rfl⟩) hS hA hP (fun r_4 H locs hw_4 hP hS => ?_)
    try dsimp only at hw_4
    refine va_mmin hx hb (by rw [hml]; exact hl.1.symm) hown (hts _ tw_528) (hts _ tw_529) (hts _ tw_93) (hts _ tw_530) (Nat.le_of_ble_eq_true rfl) (Nat.le_of_ble_eq_true rfl) (Nat.le_of_ble_eq_true rfl) (Nat.le_of_ble_eq_true rfl) dX0_worthOf_31 ?_
    refine lv_topi (fun x_5 ex_5 => ?_)
    exact W.iret (v := x_5) hx hb hr (fun t ht hW => ⟨⟨x_5, (), rfl, (by rw [ex_5, hw_1, hw_4, xTake (by omega) (hl9 _ (by omega)), pW_1 hg c_3]; rfl), trivial⟩, hS.F ht⟩) hS.2.2 dX0_worthOf_34
  · rw [ex_2] at c_3
    refine lv_iload hx hb dX0_worthOf_15 (lv_at hl 0 rfl) ?_
    refine lv_goto (tgt := 34) hx hb dX0_worthOf_17 (by decide) ?_
    exact W.iret (v := r_1) hx hb hr (fun t ht hW => ⟨⟨r_1, (), rfl, (hw_1.trans (pW_0 hg c_3).symm), trivial⟩, hS.F ht⟩) hS.2.2 dX0_worthOf_34


set_option maxHeartbeats 4000000 in
set_option maxRecDepth 100000 in
theorem y_reckonEnd (l : Launch) (D : va_G) (k : Nat → ClassId) (st : Nat → Nat) (lo : Nat) (h0 : Nat) (h1 : Nat) (h2 : Nat) (h3 : Nat) (h4 : Nat) (n : Nat) (see : Nat) (tm : Nat) (g : Nat → Int32) (ff : Nat → Int32) (fp : Nat → Int32) (fl : Nat → Int32) (w0 : Nat) (w1 : Nat) (w2 : Nat) (w3 : Nat) (w4 : Nat) (sr : Nat → Int32) (rn : Nat) (hrn : rn ≤ 3) (htm9 : tm ≤ 3) (hl9 : ∀ r, r < 4 → fl r = pLate (sdX n see tm g ff fp) r) : CRi l D k st lo yX0_reckonEnd cX0_reckonEnd 3 (some .int) ({ frames := 1, cells := 0, slots := 0, locals := 60 }) [.ref w0, .int (nI rn)] [(h0, .inr (5, (fX5 h1 h2 h3 h4))), (aI k h1 10 (vv n see tm g)), (aI k h2 24 ff), (aI k h3 24 fp), (aI k h4 4 fl), (w0, .inr (0, (fX0 h0 w1 w2 w3 w4))), (aI k w2 4 sr)] (fun r => r = (if tm ≤ rn then pGar (sdX n see tm g ff fp) rn else pMn (pGar (sdX n see tm g ff fp) rn) (pRnd (sdX n see tm g ff fp) + sr (rn + 1)))) := by
  intro sz
  refine Met.ofW (cc := cX0_reckonEnd) (maxL := 3) (ret := (some .int)) (by decide) rfl ?_
  intro p e s m args below meth c s₁ B hml hv
  obtain ⟨rfl, hsz, hlo, hP, hK, hDL, hZ⟩ := hv
  have hx := B.exec
  have hb := B.bytes
  have hr := B.returns
  have hts := WS_ts B.pre
  have hown : s.vm.findClass RX0 = some m.cls := findClass_of_methodNamed B.named
  have hlocks := B.notSynchronized
  subst hsz
  have hA : ∀ q : Nat, s.heap.size ≤ q → (fun q : Nat => s.heap.size ≤ q) q := fun _ h => h
  have hAlo : ∀ q : Nat, (fun q : Nat => s.heap.size ≤ q) q → lo ≤ q := fun q h => Nat.le_trans hlo h
  have hS : va_S (fun q : Nat => s.heap.size ≤ q) s.heap s.heap [] := va_S.rf
  have hl := lv_entry ([.ref w0, .int (nI rn)]) (n := 3) (Nat.le_of_ble_eq_true rfl)
  rw [lg_entry_eq]
  generalize (lg_sl ([.ref w0, .int (nI rn)]) ++ List.replicate (3 - (lg_sl ([.ref w0, .int (nI rn)])).length) Slot.unset).toArray = ls at hl ⊢
  have hl : lv_has ls 3 [(0, .ref w0), (1, .int (nI rn))] := hl
  refine lv_aload_n hx hb dX0_reckonEnd_0 rfl (lv_at hl 0 rfl) ?_
  refine va_get (D := D) (ci := 0) (v := .ref h0) (C := RX0) (T := TX0) (N := 5) hx hb hts inX0 hown hK hP 5 rfl rfl 0 (by decide) (hts _ tw_266) (fun _ h9 => h9) rfl dX0_reckonEnd_1 ?_
  refine lv_iload_n hx hb dX0_reckonEnd_4 rfl (lv_at hl 1 rfl) ?_
  refine ro_i (D := D) (va_runV (As := [.int (nI rn)]) (rest := []) ⟨hx, hb, hml, hown, hts⟩ ((y_garageOf l D k st lo h0 h1 h2 h3 h4 n see tm g fl rn (by first | assumption | omega)) s.heap.size) (cwV 1 hts (gV tw_520 tw_521 tw_522 tw_81 tw_523) rfl rfl rfl (by decide +kernel) ⟨Nat.le_of_ble_eq_true rfl, Nat.le_of_ble_eq_true rfl⟩) (pV hS hAlo hlo hP hK hDL hZ [0, 1, 4] (by decide) rfl (ci := 5) (q := (RX5, TX5, 4)) (q0 := 0) rfl rfl) rfl rfl hl.1 rfl (lv_room (Nat.le_of_ble_eq_true rfl)) dX0_reckonEnd_5 ⟨Nat.le_of_ble_eq_true rfl, Nat.le_of_ble_eq_true rfl⟩) hS hA hP (fun r_1 H locs hw_1 hP hS => ?_)
  try dsimp only at hw_1
  refine lv_istore_n (lv' := [(2, .int r_1), (0, .ref w0), (1, .int (nI rn))]) hx hb dX0_reckonEnd_8 rfl hl (by decide) rfl (fun ls hl => ?_)
  refine lv_iload_n hx hb dX0_reckonEnd_9 rfl (lv_at hl 2 rfl) ?_
  refine lv_aload_n hx hb dX0_reckonEnd_10 rfl (lv_at hl 1 rfl) ?_
  refine va_get (D := D) (ci := 0) (v := .ref h0) (C := RX0) (T := TX0) (N := 5) hx hb hts inX0 hown hK hP 5 rfl rfl 0 (by decide) (hts _ tw_266) (fun _ h9 => h9) rfl dX0_reckonEnd_11 ?_
  refine va_get (D := D) (ci := 5) (v := .ref h1) (C := RX5) (T := TX5) (N := 4) hx hb hts inX5 hown hK hP 0 rfl rfl 0 (by decide) (hts _ tw_147) (fun _ h9 => h9) rfl dX0_reckonEnd_14 ?_
  refine lv_bipush (v := 8) hx hb dX0_reckonEnd_17 (by decide) ?_
  refine va_iald hx hb hK hP 1 1 rfl rfl (by unfold vp_in; decide) dX0_reckonEnd_19 ?_
  refine lv_ti (y := (nI tm)) (by rfl) ?_
  refine lv_icmp_lt (tgt := 25) hx hb dX0_reckonEnd_20 (by decide) (fun c_2 => ?_) (fun c_2 => ?_)
  · have c_2 := (nI_ltI (a := rn) (b := tm) (by omega) (by omega)).mp c_2
    refine lv_iload_n hx hb dX0_reckonEnd_25 rfl (lv_at hl 0 rfl) ?_
    refine lv_aload_n hx hb dX0_reckonEnd_26 rfl (lv_at hl 1 rfl) ?_
    refine va_get (D := D) (ci := 0) (v := .ref h0) (C := RX0) (T := TX0) (N := 5) hx hb hts inX0 hown hK hP 5 rfl rfl 0 (by decide) (hts _ tw_266) (fun _ h9 => h9) rfl dX0_reckonEnd_27 ?_
    refine ro_i (D := D) (va_runV (As := []) (rest := [.int r_1]) ⟨hx, hb, hml, hown, hts⟩ ((y_roundDrive l D k st lo h0 h1 h2 h3 h4 n see tm g) H.size) (cwV 0 hts (gV tw_524 tw_525 tw_526 tw_81 tw_527) rfl rfl rfl (by decide +kernel) ⟨Nat.le_of_ble_eq_true rfl, Nat.le_of_ble_eq_true rfl⟩) (pV hS hAlo hlo hP hK hDL hZ [0, 1] (by decide) rfl (ci := 5) (q := (RX5, TX5, 4)) (q0 := 0) rfl rfl) rfl rfl hl.1 rfl (lv_room (Nat.le_of_ble_eq_true rfl)) dX0_reckonEnd_30 ⟨Nat.le_of_ble_eq_true rfl, Nat.le_of_ble_eq_true rfl⟩) hS hA hP (fun r_3 H locs hw_3 hP hS => ?_)
    try dsimp only at hw_3
    refine lv_aload_n hx hb dX0_reckonEnd_33 rfl (lv_at hl 1 rfl) ?_
    refine va_get (D := D) (ci := 0) (v := .ref w2) (C := RX0) (T := TX0) (N := 5) hx hb hts inX0 hown hK hP 5 rfl rfl 2 (by decide) (hts _ tw_268) (fun _ h9 => h9) rfl dX0_reckonEnd_34 ?_
    refine lv_iload_n hx hb dX0_reckonEnd_37 rfl (lv_at hl 2 rfl) ?_
    refine lv_iconst (v := 1) hx hb dX0_reckonEnd_38 (by decide) ?_
    refine lv_iadd hx hb dX0_reckonEnd_39 ?_
    refine lv_ti (y := (nI (rn + 1))) (nI_add rn 1) ?_
    refine va_iald hx hb hK hP 6 1 rfl rfl (vp_in_nI (by omega) (by decide)) dX0_reckonEnd_40 ?_
    refine lv_ti (y := (sr (rn + 1))) (by rw [nI_clamp (by omega)]) ?_
    refine lv_iadd hx hb dX0_reckonEnd_41 ?_
    refine lv_topi (fun x_4 ex_4 => ?_)
    refine va_mmin hx hb (by rw [hml]; exact hl.1.symm) hown (hts _ tw_528) (hts _ tw_529) (hts _ tw_93) (hts _ tw_530) (Nat.le_of_ble_eq_true rfl) (Nat.le_of_ble_eq_true rfl) (Nat.le_of_ble_eq_true rfl) (Nat.le_of_ble_eq_true rfl) dX0_reckonEnd_42 ?_
    refine lv_topi (fun x_5 ex_5 => ?_)
    exact W.iret (v := x_5) hx hb hr (fun t ht hW => ⟨⟨x_5, (), rfl, (by rw [if_neg (by omega), ex_5, ex_4, hw_1, hw_3, xGar (hl9 _ (by omega)), xRnd (n := n) (see := see) (tm := tm) (ff := ff) (fp := fp)]; rfl), trivial⟩, hS.F ht⟩) hS.2.2 dX0_reckonEnd_45
  · have c_2 : ¬ (rn < tm) := fun h => c_2 ((nI_ltI (a := rn) (b := tm) (by omega) (by omega)).mpr h)
    refine lv_iload_n hx hb dX0_reckonEnd_23 rfl (lv_at hl 0 rfl) ?_
    exact W.iret (v := r_1) hx hb hr (fun t ht hW => ⟨⟨r_1, (), rfl, (by rw [if_pos (by omega), hw_1]; exact xGar (hl9 _ (by omega))), trivial⟩, hS.F ht⟩) hS.2.2 dX0_reckonEnd_24


set_option maxHeartbeats 4000000 in
set_option maxRecDepth 100000 in
theorem y_reckonNext (l : Launch) (D : va_G) (k : Nat → ClassId) (st : Nat → Nat) (lo : Nat) (h0 : Nat) (h1 : Nat) (h2 : Nat) (h3 : Nat) (h4 : Nat) (n : Nat) (see : Nat) (tm : Nat) (g : Nat → Int32) (ff : Nat → Int32) (fp : Nat → Int32) (fl : Nat → Int32) (w0 : Nat) (w1 : Nat) (w2 : Nat) (w3 : Nat) (w4 : Nat) (on : Nat → Int32) (rn : Nat) (i : Nat) (gg : Nat) (hn : n ≤ 24) (hsee : see ≤ 2) (hrn : rn ≤ 3) (hi : i + 1 < n) (hg : gg < 2 ^ sqN see n i) (hg8 : gg < 8) (hl9 : ∀ r, r < 4 → fl r = pLate (sdX n see tm g ff fp) r) (hok9 : okD (sdX n see tm g ff fp)) : CRi l D k st lo yX0_reckonNext cX0_reckonNext 8 (some .int) ({ frames := 3, cells := 0, slots := 0, locals := 84 }) [.ref w0, .int (nI rn), .int (nI i), .int (nI gg)] [(h0, .inr (5, (fX5 h1 h2 h3 h4))), (aI k h1 10 (vv n see tm g)), (aI k h2 24 ff), (aI k h3 24 fp), (aI k h4 4 fl), (w0, .inr (0, (fX0 h0 w1 w2 w3 w4))), (aI k w1 768 on)] (fun r => r = pNx (sdX n see tm g ff fp) see i (fun h => pW (sdX n see tm g ff fp) rn (i + 1) (on (slN rn (i + 1) h)) h) gg) := by
  intro sz
  refine Met.ofW (cc := cX0_reckonNext) (maxL := 8) (ret := (some .int)) (by decide) rfl ?_
  intro p e s m args below meth c s₁ B hml hv
  obtain ⟨rfl, hsz, hlo, hP, hK, hDL, hZ⟩ := hv
  have hx := B.exec
  have hb := B.bytes
  have hr := B.returns
  have hts := WS_ts B.pre
  have hown : s.vm.findClass RX0 = some m.cls := findClass_of_methodNamed B.named
  have hlocks := B.notSynchronized
  subst hsz
  have hA : ∀ q : Nat, s.heap.size ≤ q → (fun q : Nat => s.heap.size ≤ q) q := fun _ h => h
  have hAlo : ∀ q : Nat, (fun q : Nat => s.heap.size ≤ q) q → lo ≤ q := fun q h => Nat.le_trans hlo h
  have hS : va_S (fun q : Nat => s.heap.size ≤ q) s.heap s.heap [] := va_S.rf
  have hl := lv_entry ([.ref w0, .int (nI rn), .int (nI i), .int (nI gg)]) (n := 8) (Nat.le_of_ble_eq_true rfl)
  rw [lg_entry_eq]
  generalize (lg_sl ([.ref w0, .int (nI rn), .int (nI i), .int (nI gg)]) ++ List.replicate (8 - (lg_sl ([.ref w0, .int (nI rn), .int (nI i), .int (nI gg)])).length) Slot.unset).toArray = ls at hl ⊢
  have hl : lv_has ls 8 [(0, .ref w0), (1, .int (nI rn)), (2, .int (nI i)), (3, .int (nI gg))] := hl
  refine lv_aload_n hx hb dX0_reckonNext_0 rfl (lv_at hl 0 rfl) ?_
  refine va_get (D := D) (ci := 0) (v := .ref h0) (C := RX0) (T := TX0) (N := 5) hx hb hts inX0 hown hK hP 5 rfl rfl 0 (by decide) (hts _ tw_266) (fun _ h9 => h9) rfl dX0_reckonNext_1 ?_
  refine va_get (D := D) (ci := 5) (v := .ref h1) (C := RX5) (T := TX5) (N := 4) hx hb hts inX5 hown hK hP 0 rfl rfl 0 (by decide) (hts _ tw_147) (fun _ h9 => h9) rfl dX0_reckonNext_4 ?_
  refine lv_bipush (v := 6) hx hb dX0_reckonNext_7 (by decide) ?_
  refine va_iald hx hb hK hP 1 1 rfl rfl (by unfold vp_in; decide) dX0_reckonNext_9 ?_
  refine lv_ti (y := (nI see)) (by rfl) ?_
  refine lv_istore (lv' := [(4, .int (nI see)), (0, .ref w0), (1, .int (nI rn)), (2, .int (nI i)), (3, .int (nI gg))]) hx hb dX0_reckonNext_10 hl (by decide) rfl (fun ls hl => ?_)
  refine lv_iload_n hx hb dX0_reckonNext_12 rfl (lv_at hl 3 rfl) ?_
  refine lv_iconst (v := 1) hx hb dX0_reckonNext_13 (by decide) ?_
  refine lv_iadd hx hb dX0_reckonNext_14 ?_
  refine lv_ti (y := (nI (i + 1))) (nI_add i 1) ?_
  refine lv_istore (lv' := [(5, .int (nI (i + 1))), (4, .int (nI see)), (0, .ref w0), (1, .int (nI rn)), (2, .int (nI i)), (3, .int (nI gg))]) hx hb dX0_reckonNext_15 hl (by decide) rfl (fun ls hl => ?_)
  refine lv_iload_n hx hb dX0_reckonNext_17 rfl (lv_at hl 5 rfl) ?_
  refine lv_iconst (v := 1) hx hb dX0_reckonNext_18 (by decide) ?_
  refine lv_ishr hx hb dX0_reckonNext_19 ?_
  refine lv_ti (y := (nI (gg / 2))) (pk_shrN (by omega) _ 1 (by decide)) ?_
  refine lv_istore (lv' := [(6, .int (nI (gg / 2))), (5, .int (nI (i + 1))), (4, .int (nI see)), (0, .ref w0), (1, .int (nI rn)), (2, .int (nI i)), (3, .int (nI gg))]) hx hb dX0_reckonNext_20 hl (by decide) rfl (fun ls hl => ?_)
  refine lv_iload hx hb dX0_reckonNext_22 (lv_at hl 1 rfl) ?_
  refine lv_iload hx hb dX0_reckonNext_24 (lv_at hl 2 rfl) ?_
  refine lv_iadd hx hb dX0_reckonNext_26 ?_
  refine lv_ti (y := (nI (i + 1 + see))) (nI_add (i + 1) see) ?_
  refine lv_aload_n hx hb dX0_reckonNext_27 rfl (lv_at hl 3 rfl) ?_
  refine va_get (D := D) (ci := 0) (v := .ref h0) (C := RX0) (T := TX0) (N := 5) hx hb hts inX0 hown hK hP 5 rfl rfl 0 (by decide) (hts _ tw_266) (fun _ h9 => h9) rfl dX0_reckonNext_28 ?_
  refine ro_i (D := D) (va_runV (As := []) (rest := [.int (nI (i + 1 + see))]) ⟨hx, hb, hml, hown, hts⟩ ((x_doors l D k st lo h0 h1 h2 h3 h4 n see tm g) s.heap.size) (cwV 0 hts (gV tw_531 tw_478 tw_479 tw_81 tw_480) rfl rfl rfl (by decide +kernel) ⟨Nat.le_of_ble_eq_true rfl, Nat.le_of_ble_eq_true rfl⟩) (pV hS hAlo hlo hP hK hDL hZ [0, 1] (by decide) rfl (ci := 5) (q := (RX5, TX5, 4)) (q0 := 0) rfl rfl) rfl rfl hl.1 rfl (lv_room (Nat.le_of_ble_eq_true rfl)) dX0_reckonNext_31 ⟨Nat.le_of_ble_eq_true rfl, Nat.le_of_ble_eq_true rfl⟩) hS hA hP (fun r_1 H locs hw_1 hP hS => ?_)
  try dsimp only at hw_1
  subst hw_1
  refine lv_icmp_lt (tgt := 47) hx hb dX0_reckonNext_34 (by decide) (fun c_2 => ?_) (fun c_2 => ?_)
  · have c_2 := (nI_ltI (a := (i + 1 + see)) (b := n) (by omega) (by omega)).mp c_2
    have hgh_9 : gg / 2 < 2 ^ see := half_lt (by rw [← (sq_in (show i + 1 + see < n by omega)).1]; exact hg)
    have hp4_9 := (p8 (show see ≤ 3 by omega))
    have hp5_9 := pw4 (show see ≤ 2 by omega)
    refine lv_aload_n hx hb dX0_reckonNext_47 rfl (lv_at hl 3 rfl) ?_
    refine va_get (D := D) (ci := 0) (v := .ref h0) (C := RX0) (T := TX0) (N := 5) hx hb hts inX0 hown hK hP 5 rfl rfl 0 (by decide) (hts _ tw_266) (fun _ h9 => h9) rfl dX0_reckonNext_48 ?_
    refine lv_iload hx hb dX0_reckonNext_51 (lv_at hl 1 rfl) ?_
    refine lv_iload hx hb dX0_reckonNext_53 (lv_at hl 2 rfl) ?_
    refine lv_iadd hx hb dX0_reckonNext_55 ?_
    refine lv_ti (y := (nI (i + 1 + see))) (nI_add (i + 1) see) ?_
    refine lv_iload_n hx hb dX0_reckonNext_56 rfl (lv_at hl 6 rfl) ?_
    refine lv_iload hx hb dX0_reckonNext_57 (lv_at hl 2 rfl) ?_
    refine lv_ishr hx hb dX0_reckonNext_59 ?_
    refine lv_topi (fun x_3 ex_3 => ?_)
    refine lv_iconst (v := 1) hx hb dX0_reckonNext_60 (by decide) ?_
    refine lv_iand hx hb dX0_reckonNext_61 ?_
    refine lv_topi (fun x_4 ex_4 => ?_)
    refine lv_if_eq (tgt := 69) hx hb dX0_reckonNext_62 (by decide) (fun c_5 => ?_) (fun c_5 => ?_)
    · rw [ex_4, ex_3] at c_5
      refine lv_iconst (v := 0) hx hb dX0_reckonNext_69 (by decide) ?_
      refine ro_i (D := D) (va_runV (As := [.int (nI (i + 1 + see)), .int 0]) (rest := []) ⟨hx, hb, hml, hown, hts⟩ ((y_chanceOf l D k st lo h0 h1 h2 h3 h4 n see tm g ff (i + 1 + see) 0 (by first | assumption | omega)) H.size) (cwV 2 hts (gV tw_564 tw_565 tw_566 tw_81 tw_567) rfl rfl rfl (by decide +kernel) ⟨Nat.le_of_ble_eq_true rfl, Nat.le_of_ble_eq_true rfl⟩) (pV hS hAlo hlo hP hK hDL hZ [0, 1, 2] (by decide) rfl (ci := 5) (q := (RX5, TX5, 4)) (q0 := 0) rfl rfl) rfl rfl hl.1 rfl (lv_room (Nat.le_of_ble_eq_true rfl)) dX0_reckonNext_70 ⟨Nat.le_of_ble_eq_true rfl, Nat.le_of_ble_eq_true rfl⟩) hS hA hP (fun r_6 H locs hw_6 hP hS => ?_)
      try dsimp only at hw_6
      refine lv_istore (lv' := [(7, .int r_6), (6, .int (nI (gg / 2))), (5, .int (nI (i + 1))), (4, .int (nI see)), (0, .ref w0), (1, .int (nI rn)), (2, .int (nI i)), (3, .int (nI gg))]) hx hb dX0_reckonNext_73 hl (by decide) rfl (fun ls hl => ?_)
      refine lv_iload hx hb dX0_reckonNext_75 (lv_at hl 0 rfl) ?_
      refine lv_aload_n hx hb dX0_reckonNext_77 rfl (lv_at hl 4 rfl) ?_
      refine lv_iload_n hx hb dX0_reckonNext_78 rfl (lv_at hl 5 rfl) ?_
      refine lv_iload hx hb dX0_reckonNext_79 (lv_at hl 2 rfl) ?_
      refine lv_iload hx hb dX0_reckonNext_81 (lv_at hl 1 rfl) ?_
      refine lv_iconst (v := 1) hx hb dX0_reckonNext_83 (by decide) ?_
      refine lv_iload hx hb dX0_reckonNext_84 (lv_at hl 3 rfl) ?_
      refine lv_ishl hx hb dX0_reckonNext_86 ?_
      refine lv_ti (y := (nI (2 ^ see))) (shl1 see (by omega)) ?_
      refine lv_ior hx hb dX0_reckonNext_87 ?_
      refine lv_ti (y := (nI (gg / 2 + 2 ^ see))) (or_bit2 see (by omega) (gg / 2) (by omega)) ?_
      refine ro_i (D := D) (va_runV (As := [.int (nI rn), .int (nI (i + 1)), .int (nI (gg / 2 + 2 ^ see))]) (rest := [.int r_6]) ⟨hx, hb, hml, hown, hts⟩ ((y_worthOf l D k st lo h0 h1 h2 h3 h4 n see tm g ff fp fl w0 w1 w2 w3 w4 on rn (i + 1) (gg / 2 + 2 ^ see) (by first | assumption | omega) (by first | assumption | omega) (by first | assumption | omega) (by omega) hl9) H.size) (cwV 3 hts (gV tw_545 tw_546 tw_547 tw_85 tw_548) rfl rfl rfl (by decide +kernel) ⟨Nat.le_of_ble_eq_true rfl, Nat.le_of_ble_eq_true rfl⟩) (pV hS hAlo hlo hP hK hDL hZ [0, 1, 2, 3, 4, 5, 6] (by decide) rfl (ci := 0) (q := (RX0, TX0, 5)) (q0 := 5) rfl rfl) rfl rfl hl.1 rfl (lv_room (Nat.le_of_ble_eq_true rfl)) dX0_reckonNext_88 ⟨Nat.le_of_ble_eq_true rfl, Nat.le_of_ble_eq_true rfl⟩) hS hA hP (fun r_7 H locs hw_7 hP hS => ?_)
      try dsimp only at hw_7
      refine lv_aload_n hx hb dX0_reckonNext_91 rfl (lv_at hl 4 rfl) ?_
      refine lv_iload_n hx hb dX0_reckonNext_92 rfl (lv_at hl 5 rfl) ?_
      refine lv_iload hx hb dX0_reckonNext_93 (lv_at hl 2 rfl) ?_
      refine lv_iload hx hb dX0_reckonNext_95 (lv_at hl 1 rfl) ?_
      refine ro_i (D := D) (va_runV (As := [.int (nI rn), .int (nI (i + 1)), .int (nI (gg / 2))]) (rest := [.int r_7, .int r_6]) ⟨hx, hb, hml, hown, hts⟩ ((y_worthOf l D k st lo h0 h1 h2 h3 h4 n see tm g ff fp fl w0 w1 w2 w3 w4 on rn (i + 1) (gg / 2) (by first | assumption | omega) (by first | assumption | omega) (by first | assumption | omega) (by omega) hl9) H.size) (cwV 3 hts (gV tw_545 tw_546 tw_547 tw_85 tw_548) rfl rfl rfl (by decide +kernel) ⟨Nat.le_of_ble_eq_true rfl, Nat.le_of_ble_eq_true rfl⟩) (pV hS hAlo hlo hP hK hDL hZ [0, 1, 2, 3, 4, 5, 6] (by decide) rfl (ci := 0) (q := (RX0, TX0, 5)) (q0 := 5) rfl rfl) rfl rfl hl.1 rfl (lv_room (Nat.le_of_ble_eq_true rfl)) dX0_reckonNext_97 ⟨Nat.le_of_ble_eq_true rfl, Nat.le_of_ble_eq_true rfl⟩) hS hA hP (fun r_8 H locs hw_8 hP hS => ?_)
      try dsimp only at hw_8
      refine ro_i (D := D) (va_runSN (As := [.int r_6, .int r_7, .int r_8]) (rest := []) ⟨hx, hb, hml, hown, hts⟩ ((y_mixed l D k st lo r_6 r_7 r_8) H.size) ⟨va_cnB 3 hts (gLW tw_570) rfl rfl rfl (hZ.2.2.2.2.2.2.2.2.1.1 (RX0, 80, yX7_mixed, RX7) (List.mem_of_getElem? (i := 5) rfl)) (hts _ tw_79) (by decide +kernel) ⟨Nat.le_of_ble_eq_true rfl, Nat.le_of_ble_eq_true rfl⟩, hts _ tw_569, trivial⟩ (pS hS hAlo hlo hP hK hDL hZ [] (by decide) rfl) rfl rfl hl.1 rfl (lv_room (Nat.le_of_ble_eq_true rfl)) dX0_reckonNext_100 ⟨Nat.le_of_ble_eq_true rfl, Nat.le_of_ble_eq_true rfl⟩) hS hA hP (fun r_9 H locs hw_9 hP hS => ?_)
      try dsimp only at hw_9
      exact W.iret (v := r_9) hx hb hr (fun t ht hW => ⟨⟨r_9, (), rfl, nx_1 (W := fun h => pW (sdX n see tm g ff fp) rn (i + 1) (on (slN rn (i + 1) h)) h) (show i + 1 + see < n by omega) (by rw [(pb_0 (by omega) hg8 c_5)]; exact hw_6.trans (xChance (by omega) (okX hok9 (by omega)))) hw_7 hw_8 hw_9, trivial⟩, hS.F ht⟩) hS.2.2 dX0_reckonNext_103
    · rw [ex_4, ex_3] at c_5
      refine lv_iconst (v := 1) hx hb dX0_reckonNext_65 (by decide) ?_
      refine lv_goto (tgt := 70) hx hb dX0_reckonNext_66 (by decide) ?_
      refine ro_i (D := D) (va_runV (As := [.int (nI (i + 1 + see)), .int 1]) (rest := []) ⟨hx, hb, hml, hown, hts⟩ ((y_chanceOf l D k st lo h0 h1 h2 h3 h4 n see tm g ff (i + 1 + see) 1 (by first | assumption | omega)) H.size) (cwV 2 hts (gV tw_564 tw_565 tw_566 tw_81 tw_567) rfl rfl rfl (by decide +kernel) ⟨Nat.le_of_ble_eq_true rfl, Nat.le_of_ble_eq_true rfl⟩) (pV hS hAlo hlo hP hK hDL hZ [0, 1, 2] (by decide) rfl (ci := 5) (q := (RX5, TX5, 4)) (q0 := 0) rfl rfl) rfl rfl hl.1 rfl (lv_room (Nat.le_of_ble_eq_true rfl)) dX0_reckonNext_70 ⟨Nat.le_of_ble_eq_true rfl, Nat.le_of_ble_eq_true rfl⟩) hS hA hP (fun r_10 H locs hw_10 hP hS => ?_)
      try dsimp only at hw_10
      refine lv_istore (lv' := [(7, .int r_10), (6, .int (nI (gg / 2))), (5, .int (nI (i + 1))), (4, .int (nI see)), (0, .ref w0), (1, .int (nI rn)), (2, .int (nI i)), (3, .int (nI gg))]) hx hb dX0_reckonNext_73 hl (by decide) rfl (fun ls hl => ?_)
      refine lv_iload hx hb dX0_reckonNext_75 (lv_at hl 0 rfl) ?_
      refine lv_aload_n hx hb dX0_reckonNext_77 rfl (lv_at hl 4 rfl) ?_
      refine lv_iload_n hx hb dX0_reckonNext_78 rfl (lv_at hl 5 rfl) ?_
      refine lv_iload hx hb dX0_reckonNext_79 (lv_at hl 2 rfl) ?_
      refine lv_iload hx hb dX0_reckonNext_81 (lv_at hl 1 rfl) ?_
      refine lv_iconst (v := 1) hx hb dX0_reckonNext_83 (by decide) ?_
      refine lv_iload hx hb dX0_reckonNext_84 (lv_at hl 3 rfl) ?_
      refine lv_ishl hx hb dX0_reckonNext_86 ?_
      refine lv_ti (y := (nI (2 ^ see))) (shl1 see (by omega)) ?_
      refine lv_ior hx hb dX0_reckonNext_87 ?_
      refine lv_ti (y := (nI (gg / 2 + 2 ^ see))) (or_bit2 see (by omega) (gg / 2) (by omega)) ?_
      refine ro_i (D := D) (va_runV (As := [.int (nI rn), .int (nI (i + 1)), .int (nI (gg / 2 + 2 ^ see))]) (rest := [.int r_10]) ⟨hx, hb, hml, hown, hts⟩ ((y_worthOf l D k st lo h0 h1 h2 h3 h4 n see tm g ff fp fl w0 w1 w2 w3 w4 on rn (i + 1) (gg / 2 + 2 ^ see) (by first | assumption | omega) (by first | assumption | omega) (by first | assumption | omega) (by omega) hl9) H.size) (cwV 3 hts (gV tw_545 tw_546 tw_547 tw_85 tw_548) rfl rfl rfl (by decide +kernel) ⟨Nat.le_of_ble_eq_true rfl, Nat.le_of_ble_eq_true rfl⟩) (pV hS hAlo hlo hP hK hDL hZ [0, 1, 2, 3, 4, 5, 6] (by decide) rfl (ci := 0) (q := (RX0, TX0, 5)) (q0 := 5) rfl rfl) rfl rfl hl.1 rfl (lv_room (Nat.le_of_ble_eq_true rfl)) dX0_reckonNext_88 ⟨Nat.le_of_ble_eq_true rfl, Nat.le_of_ble_eq_true rfl⟩) hS hA hP (fun r_11 H locs hw_11 hP hS => ?_)
      try dsimp only at hw_11
      refine lv_aload_n hx hb dX0_reckonNext_91 rfl (lv_at hl 4 rfl) ?_
      refine lv_iload_n hx hb dX0_reckonNext_92 rfl (lv_at hl 5 rfl) ?_
      refine lv_iload hx hb dX0_reckonNext_93 (lv_at hl 2 rfl) ?_
      refine lv_iload hx hb dX0_reckonNext_95 (lv_at hl 1 rfl) ?_
      refine ro_i (D := D) (va_runV (As := [.int (nI rn), .int (nI (i + 1)), .int (nI (gg / 2))]) (rest := [.int r_11, .int r_10]) ⟨hx, hb, hml, hown, hts⟩ ((y_worthOf l D k st lo h0 h1 h2 h3 h4 n see tm g ff fp fl w0 w1 w2 w3 w4 on rn (i + 1) (gg / 2) (by first | assumption | omega) (by first | assumption | omega) (by first | assumption | omega) (by omega) hl9) H.size) (cwV 3 hts (gV tw_545 tw_546 tw_547 tw_85 tw_548) rfl rfl rfl (by decide +kernel) ⟨Nat.le_of_ble_eq_true rfl, Nat.le_of_ble_eq_true rfl⟩) (pV hS hAlo hlo hP hK hDL hZ [0, 1, 2, 3, 4, 5, 6] (by decide) rfl (ci := 0) (q := (RX0, TX0, 5)) (q0 := 5) rfl rfl) rfl rfl hl.1 rfl (lv_room (Nat.le_of_ble_eq_true rfl)) dX0_reckonNext_97 ⟨Nat.le_of_ble_eq_true rfl, Nat.le_of_ble_eq_true rfl⟩) hS hA hP (fun r_12 H locs hw_12 hP hS => ?_)
      try dsimp only at hw_12
      refine ro_i (D := D) (va_runSN (As := [.int r_10, .int r_11, .int r_12]) (rest := []) ⟨hx, hb, hml, hown, hts⟩ ((y_mixed l D k st lo r_10 r_11 r_12) H.size) ⟨va_cnB 3 hts (gLW tw_570) rfl rfl rfl (hZ.2.2.2.2.2.2.2.2.1.1 (RX0, 80, yX7_mixed, RX7) (List.mem_of_getElem? (i := 5) rfl)) (hts _ tw_79) (by decide +kernel) ⟨Nat.le_of_ble_eq_true rfl, Nat.le_of_ble_eq_true rfl⟩, hts _ tw_569, trivial⟩ (pS hS hAlo hlo hP hK hDL hZ [] (by decide) rfl) rfl rfl hl.1 rfl (lv_room (Nat.le_of_ble_eq_true rfl)) dX0_reckonNext_100 ⟨Nat.le_of_ble_eq_true rfl, Nat.le_of_ble_eq_true rfl⟩) hS hA hP (fun r_13 H locs hw_13 hP hS => ?_)
      try dsimp only at hw_13
      exact W.iret (v := r_13) hx hb hr (fun t ht hW => ⟨⟨r_13, (), rfl, nx_1 (W := fun h => pW (sdX n see tm g ff fp) rn (i + 1) (on (slN rn (i + 1) h)) h) (show i + 1 + see < n by omega) (by rw [(pb_1 (by omega) hg8 c_5)]; exact hw_10.trans (xChance (by omega) (okX hok9 (by omega)))) hw_11 hw_12 hw_13, trivial⟩, hS.F ht⟩) hS.2.2 dX0_reckonNext_103
  · have c_2 : ¬ ((i + 1 + see) < n) := fun h => c_2 ((nI_ltI (a := (i + 1 + see)) (b := n) (by omega) (by omega)).mpr h)
    refine lv_aload_n hx hb dX0_reckonNext_37 rfl (lv_at hl 3 rfl) ?_
    refine lv_iload_n hx hb dX0_reckonNext_38 rfl (lv_at hl 4 rfl) ?_
    refine lv_iload hx hb dX0_reckonNext_39 (lv_at hl 1 rfl) ?_
    refine lv_iload hx hb dX0_reckonNext_41 (lv_at hl 0 rfl) ?_
    refine ro_i (D := D) (va_runV (As := [.int (nI rn), .int (nI (i + 1)), .int (nI (gg / 2))]) (rest := []) ⟨hx, hb, hml, hown, hts⟩ ((y_worthOf l D k st lo h0 h1 h2 h3 h4 n see tm g ff fp fl w0 w1 w2 w3 w4 on rn (i + 1) (gg / 2) (by first | assumption | omega) (by first | assumption | omega) (by first | assumption | omega) (by omega) hl9) H.size) (cwV 3 hts (gV tw_545 tw_546 tw_547 tw_85 tw_548) rfl rfl rfl (by decide +kernel) ⟨Nat.le_of_ble_eq_true rfl, Nat.le_of_ble_eq_true rfl⟩) (pV hS hAlo hlo hP hK hDL hZ [0, 1, 2, 3, 4, 5, 6] (by decide) rfl (ci := 0) (q := (RX0, TX0, 5)) (q0 := 5) rfl rfl) rfl rfl hl.1 rfl (lv_room (Nat.le_of_ble_eq_true rfl)) dX0_reckonNext_43 ⟨Nat.le_of_ble_eq_true rfl, Nat.le_of_ble_eq_true rfl⟩) hS hA hP (fun r_14 H locs hw_14 hP hS => ?_)
    try dsimp only at hw_14
    exact W.iret (v := r_14) hx hb hr (fun t ht hW => ⟨⟨r_14, (), rfl, nx_0 (W := fun h => pW (sdX n see tm g ff fp) rn (i + 1) (on (slN rn (i + 1) h)) h) (show ¬ i + 1 + see < n by omega) hw_14, trivial⟩, hS.F ht⟩) hS.2.2 dX0_reckonNext_46


set_option maxHeartbeats 4000000 in
set_option maxRecDepth 100000 in
theorem y_reckonDoor (l : Launch) (D : va_G) (k : Nat → ClassId) (st : Nat → Nat) (lo : Nat) (h0 : Nat) (h1 : Nat) (h2 : Nat) (h3 : Nat) (h4 : Nat) (n : Nat) (see : Nat) (tm : Nat) (g : Nat → Int32) (ff : Nat → Int32) (fp : Nat → Int32) (fl : Nat → Int32) (w0 : Nat) (w1 : Nat) (w2 : Nat) (w3 : Nat) (w4 : Nat) (on : Nat → Int32) (en : Nat → Int32) (rn : Nat) (i : Nat) (hn : n ≤ 24) (hsee : see ≤ 2) (hrn : rn ≤ 3) (hi : i < n) (hl9 : ∀ r, r < 4 → fl r = pLate (sdX n see tm g ff fp) r) (hok9 : okD (sdX n see tm g ff fp)) (hon1 : onOK (sdX n see tm g ff fp) see rn (en rn) (i + 1) on) : CWv l D k st lo yX0_reckonDoor cX0_reckonDoor 6 none ({ frames := 4, cells := 0, slots := 0, locals := 111 }) 0 0 [.ref w0, .int (nI rn), .int (nI i)] [(h0, .inr (5, (fX5 h1 h2 h3 h4))), (aI k h1 10 (vv n see tm g)), (aI k h2 24 ff), (aI k h3 24 fp), (aI k h4 4 fl), (w0, .inr (0, (fX0 h0 w1 w2 w3 w4))), (aI k w1 768 on), (aI k w3 4 en)] (fun (on_ : (Nat → Int32)) => onOK (sdX n see tm g ff fp) see rn (en rn) i on_ ∧ (∀ x, ¬ (192 * rn ≤ x ∧ x < 192 * rn + 192) → on_ x = on x)) (fun (on_ : (Nat → Int32)) => [(h0, .inr (5, (fX5 h1 h2 h3 h4))), (aI k h1 10 (vv n see tm g)), (aI k h2 24 ff), (aI k h3 24 fp), (aI k h4 4 fl), (w0, .inr (0, (fX0 h0 w1 w2 w3 w4))), (aI k w1 768 on_), (aI k w3 4 en)]) := by
  intro sz
  refine Met.ofW (cc := cX0_reckonDoor) (maxL := 6) (ret := none) (by decide) rfl ?_
  intro p e s m args below meth c s₁ B hml hv
  obtain ⟨rfl, hsz, hlo, hP, hK, hDL, hZ⟩ := hv
  have hx := B.exec
  have hb := B.bytes
  have hr := B.returns
  have hts := WS_ts B.pre
  have hown : s.vm.findClass RX0 = some m.cls := findClass_of_methodNamed B.named
  have hlocks := B.notSynchronized
  subst hsz
  have hD := hDL.self (sz := s.heap.size)
  have hAlo := A_lo hDL hlo
  generalize hAe : va_A [(h0, .inr (5, (fX5 h1 h2 h3 h4))), (aI k h1 10 (vv n see tm g)), (aI k h2 24 ff), (aI k h3 24 fp), (aI k h4 4 fl), (w0, .inr (0, (fX0 h0 w1 w2 w3 w4))), (aI k w1 768 on), (aI k w3 4 en)] s.heap.size = A at hD hAlo ⊢
  have hA : ∀ q : Nat, s.heap.size ≤ q → A q := fun q h => by rw [← hAe]; exact Or.inr h
  have hS : va_S A s.heap s.heap [] := va_S.rf
  have hl := lv_entry ([.ref w0, .int (nI rn), .int (nI i)]) (n := 6) (Nat.le_of_ble_eq_true rfl)
  rw [lg_entry_eq]
  generalize (lg_sl ([.ref w0, .int (nI rn), .int (nI i)]) ++ List.replicate (6 - (lg_sl ([.ref w0, .int (nI rn), .int (nI i)])).length) Slot.unset).toArray = ls at hl ⊢
  have hl : lv_has ls 6 [(0, .ref w0), (1, .int (nI rn)), (2, .int (nI i))] := hl
  have hp8_9 := p8 (sq_le (see := see) (n := n) (i := i) hsee)
  refine lv_iload_n hx hb dX0_reckonDoor_0 rfl (lv_at hl 2 rfl) ?_
  refine lv_aload_n hx hb dX0_reckonDoor_1 rfl (lv_at hl 0 rfl) ?_
  refine va_get (D := D) (ci := 0) (v := .ref h0) (C := RX0) (T := TX0) (N := 5) hx hb hts inX0 hown hK hP 5 rfl rfl 0 (by decide) (hts _ tw_266) (fun _ h9 => h9) rfl dX0_reckonDoor_2 ?_
  refine ro_i (D := D) (va_runV (As := []) (rest := [.int (nI i)]) ⟨hx, hb, hml, hown, hts⟩ ((x_doors l D k st lo h0 h1 h2 h3 h4 n see tm g) s.heap.size) (cwV 0 hts (gV tw_531 tw_478 tw_479 tw_81 tw_480) rfl rfl rfl (by decide +kernel) ⟨Nat.le_of_ble_eq_true rfl, Nat.le_of_ble_eq_true rfl⟩) (pV hS hAlo hlo hP hK (va_Dlo hD hAlo) hZ [0, 1] (by decide) rfl (ci := 5) (q := (RX5, TX5, 4)) (q0 := 0) rfl rfl) rfl rfl hl.1 rfl (lv_room (Nat.le_of_ble_eq_true rfl)) dX0_reckonDoor_5 ⟨Nat.le_of_ble_eq_true rfl, Nat.le_of_ble_eq_true rfl⟩) hS hA hP (fun r_1 H locs hw_1 hP hS => ?_)
  try dsimp only at hw_1
  subst hw_1
  refine lv_iconst (v := 1) hx hb dX0_reckonDoor_8 (by decide) ?_
  refine lv_isub hx hb dX0_reckonDoor_9 ?_
  refine lv_ti (y := (nI (n - 1))) (pk_sub (a := n) (b := 1) (by omega)) ?_
  refine lv_icmp_ne (tgt := 17) hx hb dX0_reckonDoor_10 (by decide) (fun c_2 => ?_) (fun c_2 => ?_)
  · have c_2 : ¬ (i = (n - 1)) := fun h => c_2 ((nI_eq (a := i) (b := (n - 1)) (by omega) (by omega)).mpr h)
    refine lv_iconst (v := 0) hx hb dX0_reckonDoor_17 (by decide) ?_
    refine lv_istore_n (lv' := [(3, .int 0), (0, .ref w0), (1, .int (nI rn)), (2, .int (nI i))]) hx hb dX0_reckonDoor_18 rfl hl (by decide) rfl (fun ls hl => ?_)
    refine lv_iconst (v := 0) hx hb dX0_reckonDoor_19 (by decide) ?_
    refine lv_istore (lv' := [(4, .int 0), (3, .int 0), (0, .ref w0), (1, .int (nI rn)), (2, .int (nI i))]) hx hb dX0_reckonDoor_20 hl (by decide) rfl (fun ls hl => ?_)
    refine W_loop (σ := Nat × (Nat → Int32)) (fun (n_ : Nat) (x_ : Nat × (Nat → Int32)) (H : Heap) (locs : List Loc) (ls : Array Slot) => match x_ with | (g2_3, on2_3) => n_ = 2 ^ sqN see n i - g2_3 ∧ (g2_3 ≤ 2 ^ sqN see n i ∧ onOK (sdX n see tm g ff fp) see rn (en rn) (i + 1) on2_3 ∧ (∀ h, h < g2_3 → on2_3 (slN rn i h) = pOn (sdX n see tm g ff fp) see rn (en rn) i h) ∧ (∀ x, ¬ (192 * rn ≤ x ∧ x < 192 * rn + 192) → on2_3 x = on x)) ∧ va_P D classes [(h0, .inr (5, (fX5 h1 h2 h3 h4))), (aI k h1 10 (vv n see tm g)), (aI k h2 24 ff), (aI k h3 24 fp), (aI k h4 4 fl), (w0, .inr (0, (fX0 h0 w1 w2 w3 w4))), (aI k w1 768 on2_3), (aI k w3 4 en)] H ∧ va_D A [(h0, .inr (5, (fX5 h1 h2 h3 h4))), (aI k h1 10 (vv n see tm g)), (aI k h2 24 ff), (aI k h3 24 fp), (aI k h4 4 fl), (w0, .inr (0, (fX0 h0 w1 w2 w3 w4))), (aI k w1 768 on2_3), (aI k w3 4 en)] ∧ va_S A s.heap H locs ∧ lv_has ls 6 [(4, .int (nI g2_3)), (3, .int 0), (0, .ref w0), (1, .int (nI rn)), (2, .int (nI i))]) (fun n_3 x_3 H locs ls hI ih_3 => ?_) _ (0, on) ⟨rfl, ⟨Nat.zero_le _, hon1, fun h hh => absurd hh (Nat.not_lt_zero h), fun _ _ => rfl⟩, hP, hD, hS, (lv_sub hl [0, 1, 2, 3, 4] rfl)⟩
    obtain ⟨g2_3, on2_3⟩ := x_3
    obtain ⟨hm_3, hv_3, hP, hD, hS, hl⟩ := hI
    subst hm_3
    refine lv_iload hx hb dX0_reckonDoor_22 (lv_at hl 0 rfl) ?_
    refine lv_aload_n hx hb dX0_reckonDoor_24 rfl (lv_at hl 2 rfl) ?_
    refine va_get (D := D) (ci := 0) (v := .ref h0) (C := RX0) (T := TX0) (N := 5) hx hb hts inX0 hown hK hP 5 rfl rfl 0 (by decide) (hts _ tw_266) (fun _ h9 => h9) rfl dX0_reckonDoor_25 ?_
    refine lv_iload_n hx hb dX0_reckonDoor_28 rfl (lv_at hl 4 rfl) ?_
    refine ro_i (D := D) (va_runV (As := [.int (nI i)]) (rest := [.int (nI g2_3)]) ⟨hx, hb, hml, hown, hts⟩ ((y_sightsAt l D k st lo h0 h1 h2 h3 h4 n see tm g i (by first | assumption | omega) (by first | assumption | omega) (by first | assumption | omega)) H.size) (cwV 1 hts (gV tw_536 tw_537 tw_538 tw_81 tw_539) rfl rfl rfl (by decide +kernel) ⟨Nat.le_of_ble_eq_true rfl, Nat.le_of_ble_eq_true rfl⟩) (pV hS hAlo hlo hP hK (va_Dlo hD hAlo) hZ [0, 1] (by decide) rfl (ci := 5) (q := (RX5, TX5, 4)) (q0 := 0) rfl rfl) rfl rfl hl.1 rfl (lv_room (Nat.le_of_ble_eq_true rfl)) dX0_reckonDoor_29 ⟨Nat.le_of_ble_eq_true rfl, Nat.le_of_ble_eq_true rfl⟩) hS hA hP (fun r_4 H locs hw_4 hP hS => ?_)
    try dsimp only at hw_4
    obtain ⟨zs_5, ezs_5⟩ : ∃ z : Nat, z = 2 ^ sqN see n i := ⟨_, rfl⟩
    rw [← ezs_5] at hw_4
    subst hw_4
    have hzs_5 : 1 ≤ zs_5 ∧ zs_5 ≤ 8 := by rw [ezs_5]; exact p8 (sq_le (by omega))
    refine lv_icmp_ge (tgt := 86) hx hb dX0_reckonDoor_32 (by decide) (fun c_6 => ?_) (fun c_6 => ?_)
    · have c_6 := (nI_leI (a := zs_5) (b := g2_3) (by omega) (by omega)).mp c_6
      obtain ⟨hP9, hD9⟩ := pd_sub [(h0, .inr (5, (fX5 h1 h2 h3 h4))), (aI k h1 10 (vv n see tm g)), (aI k h2 24 ff), (aI k h3 24 fp), (aI k h4 4 fl), (w0, .inr (0, (fX0 h0 w1 w2 w3 w4))), (aI k w1 768 on2_3), (aI k w3 4 en)] [0, 1, 2, 3, 4, 5, 6, 7] hP hD (by decide) rfl
      exact W.vret hx hb hr (fun t ht hW => ⟨⟨on2_3, rfl, ⟨on_door (d := (sdX n see tm g ff fp)) (show g2_3 = 2 ^ sqN see n i by omega) hv_3.2.1 hv_3.2.2.1, hv_3.2.2.2⟩, by rw [ht]; exact hP9, hD9⟩, hS.F ht⟩) hS.2.2 dX0_reckonDoor_86
    · have c_6 : ¬ (zs_5 ≤ g2_3) := fun h => c_6 ((nI_leI (a := zs_5) (b := g2_3) (by omega) (by omega)).mpr h)
      refine lv_iload_n hx hb dX0_reckonDoor_35 rfl (lv_at hl 1 rfl) ?_
      refine lv_if_eq (tgt := 48) hx hb dX0_reckonDoor_36 (by decide) (fun _ => ?_) (fun h => absurd (by decide) h)
      refine lv_aload_n hx hb dX0_reckonDoor_48 rfl (lv_at hl 2 rfl) ?_
      refine lv_iload_n hx hb dX0_reckonDoor_49 rfl (lv_at hl 3 rfl) ?_
      refine lv_iload_n hx hb dX0_reckonDoor_50 rfl (lv_at hl 4 rfl) ?_
      refine lv_iload hx hb dX0_reckonDoor_51 (lv_at hl 0 rfl) ?_
      refine ro_i (D := D) (va_runV (As := [.int (nI rn), .int (nI i), .int (nI g2_3)]) (rest := []) ⟨hx, hb, hml, hown, hts⟩ ((y_reckonNext l D k st lo h0 h1 h2 h3 h4 n see tm g ff fp fl w0 w1 w2 w3 w4 on2_3 rn i g2_3 (by first | assumption | omega) (by first | assumption | omega) (by first | assumption | omega) (by first | assumption | omega) (by first | assumption | omega) (by first | assumption | omega) hl9 hok9) H.size) (cwV 3 hts (gV tw_541 tw_543 tw_6 tw_85 tw_544) rfl rfl rfl (by decide +kernel) ⟨Nat.le_of_ble_eq_true rfl, Nat.le_of_ble_eq_true rfl⟩) (pV hS hAlo hlo hP hK (va_Dlo hD hAlo) hZ [0, 1, 2, 3, 4, 5, 6] (by decide) rfl (ci := 0) (q := (RX0, TX0, 5)) (q0 := 5) rfl rfl) rfl rfl hl.1 rfl (lv_room (Nat.le_of_ble_eq_true rfl)) dX0_reckonDoor_53 ⟨Nat.le_of_ble_eq_true rfl, Nat.le_of_ble_eq_true rfl⟩) hS hA hP (fun r_7 H locs hw_7 hP hS => ?_)
      try dsimp only at hw_7
      refine lv_istore (lv' := [(5, .int r_7), (4, .int (nI g2_3)), (3, .int 0), (0, .ref w0), (1, .int (nI rn)), (2, .int (nI i))]) hx hb dX0_reckonDoor_56 hl (by decide) rfl (fun ls hl => ?_)
      refine lv_aload_n hx hb dX0_reckonDoor_58 rfl (lv_at hl 3 rfl) ?_
      refine va_get (D := D) (ci := 0) (v := .ref w1) (C := RX0) (T := TX0) (N := 5) hx hb hts inX0 hown hK hP 5 rfl rfl 1 (by decide) (hts _ tw_267) (fun _ h9 => h9) rfl dX0_reckonDoor_59 ?_
      refine lv_iload_n hx hb dX0_reckonDoor_62 rfl (lv_at hl 4 rfl) ?_
      refine lv_iload_n hx hb dX0_reckonDoor_63 rfl (lv_at hl 5 rfl) ?_
      refine lv_iload hx hb dX0_reckonDoor_64 (lv_at hl 1 rfl) ?_
      refine ro_i (D := D) (va_runS (As := [.int (nI rn), .int (nI i), .int (nI g2_3)]) (rest := [.ref w1]) ⟨hx, hb, hml, hown, hts⟩ ((x_slot l D k st lo rn i g2_3) H.size) (va_cwS 3 hts (gS tw_553 tw_554 tw_85 tw_555) rfl rfl rfl (by decide +kernel) ⟨Nat.le_of_ble_eq_true rfl, Nat.le_of_ble_eq_true rfl⟩) (pS hS hAlo hlo hP hK (va_Dlo hD hAlo) hZ [] (by decide) rfl) rfl rfl hl.1 rfl (lv_room (Nat.le_of_ble_eq_true rfl)) dX0_reckonDoor_66 ⟨Nat.le_of_ble_eq_true rfl, Nat.le_of_ble_eq_true rfl⟩) hS hA hP (fun r_8 H locs hw_8 hP hS => ?_)
      try dsimp only at hw_8
      subst hw_8
      refine lv_aload_n hx hb dX0_reckonDoor_69 rfl (lv_at hl 3 rfl) ?_
      refine va_get (D := D) (ci := 0) (v := .ref h0) (C := RX0) (T := TX0) (N := 5) hx hb hts inX0 hown hK hP 5 rfl rfl 0 (by decide) (hts _ tw_266) (fun _ h9 => h9) rfl dX0_reckonDoor_70 ?_
      refine ro_i (D := D) (va_runV (As := []) (rest := [.int (nI ((rn * 24 + i) * 8 + g2_3)), .ref w1]) ⟨hx, hb, hml, hown, hts⟩ ((y_passing l D k st lo h0 h1 h2 h3 h4 n see tm g) H.size) (cwV 0 hts (gV tw_572 tw_573 tw_574 tw_81 tw_575) rfl rfl rfl (by decide +kernel) ⟨Nat.le_of_ble_eq_true rfl, Nat.le_of_ble_eq_true rfl⟩) (pV hS hAlo hlo hP hK (va_Dlo hD hAlo) hZ [0, 1] (by decide) rfl (ci := 5) (q := (RX5, TX5, 4)) (q0 := 0) rfl rfl) rfl rfl hl.1 rfl (lv_room (Nat.le_of_ble_eq_true rfl)) dX0_reckonDoor_73 ⟨Nat.le_of_ble_eq_true rfl, Nat.le_of_ble_eq_true rfl⟩) hS hA hP (fun r_9 H locs hw_9 hP hS => ?_)
      try dsimp only at hw_9
      refine lv_iload hx hb dX0_reckonDoor_76 (lv_at hl 0 rfl) ?_
      refine lv_iadd hx hb dX0_reckonDoor_78 ?_
      refine lv_topi (fun x_10 ex_10 => ?_)
      refine va_iast hx hb hK hP hD hS 6 1 rfl rfl (vp_in_nI (by omega) (by decide)) dX0_reckonDoor_79 (fun H locs hP hD hS => ?_)
      have hQ9 := pd_mk [(h0, .inr (5, (fX5 h1 h2 h3 h4))), (aI k h1 10 (vv n see tm g)), (aI k h2 24 ff), (aI k h3 24 fp), (aI k h4 4 fl), (w0, .inr (0, (fX0 h0 w1 w2 w3 w4))), (aI k w1 768 (upd on2_3 (Int32.toNatClampNeg (nI ((rn * 24 + i) * 8 + g2_3))) x_10)), (aI k w3 4 en)] hP hD
      clear hP hD
      obtain ⟨hP, hD⟩ := hQ9
      rw [nI_clamp (n := ((rn * 24 + i) * 8 + g2_3)) (by omega)] at hP hD
      have hQ9 := pd_mk [(h0, .inr (5, (fX5 h1 h2 h3 h4))), (aI k h1 10 (vv n see tm g)), (aI k h2 24 ff), (aI k h3 24 fp), (aI k h4 4 fl), (w0, .inr (0, (fX0 h0 w1 w2 w3 w4))), (aI k w1 768 (upd on2_3 ((rn * 24 + i) * 8 + g2_3) x_10)), (aI k w3 4 en)] hP hD
      clear hP hD
      obtain ⟨hP, hD⟩ := hQ9
      refine lv_iinc (v := (nI (g2_3 + 1))) (lv' := [(4, .int (nI (g2_3 + 1))), (5, .int r_7), (3, .int 0), (0, .ref w0), (1, .int (nI rn)), (2, .int (nI i))]) hx hb dX0_reckonDoor_80 hl (k := 1) rfl (nI_add g2_3 1) (by decide) rfl (fun ls hl => ?_)
      refine lv_goto (tgt := 22) hx hb dX0_reckonDoor_83 (by decide) ?_
      have hst_3 := on_step (d := (sdX n see tm g ff fp)) (x := x_10) (show n ≤ 24 by omega) hsee (show i < n by omega) (show g2_3 < 8 by omega) hv_3.2.1 hv_3.2.2.1 (by rw [ex_10, hw_9, xPass (n := n) (see := see) (tm := tm) (ff := ff) (fp := fp), hw_7, pOn_next (show i + 1 < n by omega)]; exact congrArg (fun z => pPass (sdX n see tm g ff fp) + z) (nx_congr (show i + 1 < n by omega) (show g2_3 < 2 ^ sqN see n i by omega) (fun q hq => congrArg (fun z => pW (sdX n see tm g ff fp) rn (i + 1) z q) (hv_3.2.1 (i + 1) (by omega) (show i + 1 < n by omega) q hq))))
      exact ih_3 _ (g2_3 + 1, (upd on2_3 ((rn * 24 + i) * 8 + g2_3) x_10)) _ _ _ (by omega) ⟨rfl, ⟨by omega, hst_3.1, hst_3.2, fun x hx => (pk_un (by omega)).trans (hv_3.2.2.2 x hx)⟩, hP, hD, hS, (lv_sub hl [0, 2, 3, 4, 5] rfl)⟩
  · have c_2 := (nI_eq (a := i) (b := (n - 1)) (by omega) (by omega)).mp c_2
    refine lv_iconst (v := 1) hx hb dX0_reckonDoor_13 (by decide) ?_
    refine lv_goto (tgt := 18) hx hb dX0_reckonDoor_14 (by decide) ?_
    refine lv_istore_n (lv' := [(3, .int 1), (0, .ref w0), (1, .int (nI rn)), (2, .int (nI i))]) hx hb dX0_reckonDoor_18 rfl hl (by decide) rfl (fun ls hl => ?_)
    refine lv_iconst (v := 0) hx hb dX0_reckonDoor_19 (by decide) ?_
    refine lv_istore (lv' := [(4, .int 0), (3, .int 1), (0, .ref w0), (1, .int (nI rn)), (2, .int (nI i))]) hx hb dX0_reckonDoor_20 hl (by decide) rfl (fun ls hl => ?_)
    refine W_loop (σ := Nat × (Nat → Int32)) (fun (n_ : Nat) (x_ : Nat × (Nat → Int32)) (H : Heap) (locs : List Loc) (ls : Array Slot) => match x_ with | (g2_12, on2_12) => n_ = 2 ^ sqN see n i - g2_12 ∧ (g2_12 ≤ 2 ^ sqN see n i ∧ onOK (sdX n see tm g ff fp) see rn (en rn) (i + 1) on2_12 ∧ (∀ h, h < g2_12 → on2_12 (slN rn i h) = pOn (sdX n see tm g ff fp) see rn (en rn) i h) ∧ (∀ x, ¬ (192 * rn ≤ x ∧ x < 192 * rn + 192) → on2_12 x = on x)) ∧ va_P D classes [(h0, .inr (5, (fX5 h1 h2 h3 h4))), (aI k h1 10 (vv n see tm g)), (aI k h2 24 ff), (aI k h3 24 fp), (aI k h4 4 fl), (w0, .inr (0, (fX0 h0 w1 w2 w3 w4))), (aI k w1 768 on2_12), (aI k w3 4 en)] H ∧ va_D A [(h0, .inr (5, (fX5 h1 h2 h3 h4))), (aI k h1 10 (vv n see tm g)), (aI k h2 24 ff), (aI k h3 24 fp), (aI k h4 4 fl), (w0, .inr (0, (fX0 h0 w1 w2 w3 w4))), (aI k w1 768 on2_12), (aI k w3 4 en)] ∧ va_S A s.heap H locs ∧ lv_has ls 6 [(4, .int (nI g2_12)), (3, .int 1), (0, .ref w0), (1, .int (nI rn)), (2, .int (nI i))]) (fun n_12 x_12 H locs ls hI ih_12 => ?_) _ (0, on) ⟨rfl, ⟨Nat.zero_le _, hon1, fun h hh => absurd hh (Nat.not_lt_zero h), fun _ _ => rfl⟩, hP, hD, hS, (lv_sub hl [0, 1, 2, 3, 4] rfl)⟩
    obtain ⟨g2_12, on2_12⟩ := x_12
    obtain ⟨hm_12, hv_12, hP, hD, hS, hl⟩ := hI
    subst hm_12
    refine lv_iload hx hb dX0_reckonDoor_22 (lv_at hl 0 rfl) ?_
    refine lv_aload_n hx hb dX0_reckonDoor_24 rfl (lv_at hl 2 rfl) ?_
    refine va_get (D := D) (ci := 0) (v := .ref h0) (C := RX0) (T := TX0) (N := 5) hx hb hts inX0 hown hK hP 5 rfl rfl 0 (by decide) (hts _ tw_266) (fun _ h9 => h9) rfl dX0_reckonDoor_25 ?_
    refine lv_iload_n hx hb dX0_reckonDoor_28 rfl (lv_at hl 4 rfl) ?_
    refine ro_i (D := D) (va_runV (As := [.int (nI i)]) (rest := [.int (nI g2_12)]) ⟨hx, hb, hml, hown, hts⟩ ((y_sightsAt l D k st lo h0 h1 h2 h3 h4 n see tm g i (by first | assumption | omega) (by first | assumption | omega) (by first | assumption | omega)) H.size) (cwV 1 hts (gV tw_536 tw_537 tw_538 tw_81 tw_539) rfl rfl rfl (by decide +kernel) ⟨Nat.le_of_ble_eq_true rfl, Nat.le_of_ble_eq_true rfl⟩) (pV hS hAlo hlo hP hK (va_Dlo hD hAlo) hZ [0, 1] (by decide) rfl (ci := 5) (q := (RX5, TX5, 4)) (q0 := 0) rfl rfl) rfl rfl hl.1 rfl (lv_room (Nat.le_of_ble_eq_true rfl)) dX0_reckonDoor_29 ⟨Nat.le_of_ble_eq_true rfl, Nat.le_of_ble_eq_true rfl⟩) hS hA hP (fun r_13 H locs hw_13 hP hS => ?_)
    try dsimp only at hw_13
    obtain ⟨zs_14, ezs_14⟩ : ∃ z : Nat, z = 2 ^ sqN see n i := ⟨_, rfl⟩
    rw [← ezs_14] at hw_13
    subst hw_13
    have hzs_14 : 1 ≤ zs_14 ∧ zs_14 ≤ 8 := by rw [ezs_14]; exact p8 (sq_le (by omega))
    refine lv_icmp_ge (tgt := 86) hx hb dX0_reckonDoor_32 (by decide) (fun c_15 => ?_) (fun c_15 => ?_)
    · have c_15 := (nI_leI (a := zs_14) (b := g2_12) (by omega) (by omega)).mp c_15
      obtain ⟨hP9, hD9⟩ := pd_sub [(h0, .inr (5, (fX5 h1 h2 h3 h4))), (aI k h1 10 (vv n see tm g)), (aI k h2 24 ff), (aI k h3 24 fp), (aI k h4 4 fl), (w0, .inr (0, (fX0 h0 w1 w2 w3 w4))), (aI k w1 768 on2_12), (aI k w3 4 en)] [0, 1, 2, 3, 4, 5, 6, 7] hP hD (by decide) rfl
      exact W.vret hx hb hr (fun t ht hW => ⟨⟨on2_12, rfl, ⟨on_door (d := (sdX n see tm g ff fp)) (show g2_12 = 2 ^ sqN see n i by omega) hv_12.2.1 hv_12.2.2.1, hv_12.2.2.2⟩, by rw [ht]; exact hP9, hD9⟩, hS.F ht⟩) hS.2.2 dX0_reckonDoor_86
    · have c_15 : ¬ (zs_14 ≤ g2_12) := fun h => c_15 ((nI_leI (a := zs_14) (b := g2_12) (by omega) (by omega)).mpr h)
      refine lv_iload_n hx hb dX0_reckonDoor_35 rfl (lv_at hl 1 rfl) ?_
      refine lv_if_eq (tgt := 48) hx hb dX0_reckonDoor_36 (by decide) (fun h => absurd h (by decide)) (fun _ => ?_)
      refine lv_aload_n hx hb dX0_reckonDoor_39 rfl (lv_at hl 2 rfl) ?_
      refine va_get (D := D) (ci := 0) (v := .ref w3) (C := RX0) (T := TX0) (N := 5) hx hb hts inX0 hown hK hP 5 rfl rfl 3 (by decide) (hts _ tw_270) (fun _ h9 => h9) rfl dX0_reckonDoor_40 ?_
      refine lv_iload_n hx hb dX0_reckonDoor_43 rfl (lv_at hl 3 rfl) ?_
      refine va_iald hx hb hK hP 7 1 rfl rfl (vp_in_nI (by omega) (by decide)) dX0_reckonDoor_44 ?_
      refine lv_ti (y := (en rn)) (by rw [nI_clamp (by omega)]) ?_
      refine lv_goto (tgt := 56) hx hb dX0_reckonDoor_45 (by decide) ?_
      refine lv_istore (lv' := [(5, .int (en rn)), (4, .int (nI g2_12)), (3, .int 1), (0, .ref w0), (1, .int (nI rn)), (2, .int (nI i))]) hx hb dX0_reckonDoor_56 hl (by decide) rfl (fun ls hl => ?_)
      refine lv_aload_n hx hb dX0_reckonDoor_58 rfl (lv_at hl 3 rfl) ?_
      refine va_get (D := D) (ci := 0) (v := .ref w1) (C := RX0) (T := TX0) (N := 5) hx hb hts inX0 hown hK hP 5 rfl rfl 1 (by decide) (hts _ tw_267) (fun _ h9 => h9) rfl dX0_reckonDoor_59 ?_
      refine lv_iload_n hx hb dX0_reckonDoor_62 rfl (lv_at hl 4 rfl) ?_
      refine lv_iload_n hx hb dX0_reckonDoor_63 rfl (lv_at hl 5 rfl) ?_
      refine lv_iload hx hb dX0_reckonDoor_64 (lv_at hl 1 rfl) ?_
      refine ro_i (D := D) (va_runS (As := [.int (nI rn), .int (nI i), .int (nI g2_12)]) (rest := [.ref w1]) ⟨hx, hb, hml, hown, hts⟩ ((x_slot l D k st lo rn i g2_12) H.size) (va_cwS 3 hts (gS tw_553 tw_554 tw_85 tw_555) rfl rfl rfl (by decide +kernel) ⟨Nat.le_of_ble_eq_true rfl, Nat.le_of_ble_eq_true rfl⟩) (pS hS hAlo hlo hP hK (va_Dlo hD hAlo) hZ [] (by decide) rfl) rfl rfl hl.1 rfl (lv_room (Nat.le_of_ble_eq_true rfl)) dX0_reckonDoor_66 ⟨Nat.le_of_ble_eq_true rfl, Nat.le_of_ble_eq_true rfl⟩) hS hA hP (fun r_16 H locs hw_16 hP hS => ?_)
      try dsimp only at hw_16
      subst hw_16
      refine lv_aload_n hx hb dX0_reckonDoor_69 rfl (lv_at hl 3 rfl) ?_
      refine va_get (D := D) (ci := 0) (v := .ref h0) (C := RX0) (T := TX0) (N := 5) hx hb hts inX0 hown hK hP 5 rfl rfl 0 (by decide) (hts _ tw_266) (fun _ h9 => h9) rfl dX0_reckonDoor_70 ?_
      refine ro_i (D := D) (va_runV (As := []) (rest := [.int (nI ((rn * 24 + i) * 8 + g2_12)), .ref w1]) ⟨hx, hb, hml, hown, hts⟩ ((y_passing l D k st lo h0 h1 h2 h3 h4 n see tm g) H.size) (cwV 0 hts (gV tw_572 tw_573 tw_574 tw_81 tw_575) rfl rfl rfl (by decide +kernel) ⟨Nat.le_of_ble_eq_true rfl, Nat.le_of_ble_eq_true rfl⟩) (pV hS hAlo hlo hP hK (va_Dlo hD hAlo) hZ [0, 1] (by decide) rfl (ci := 5) (q := (RX5, TX5, 4)) (q0 := 0) rfl rfl) rfl rfl hl.1 rfl (lv_room (Nat.le_of_ble_eq_true rfl)) dX0_reckonDoor_73 ⟨Nat.le_of_ble_eq_true rfl, Nat.le_of_ble_eq_true rfl⟩) hS hA hP (fun r_17 H locs hw_17 hP hS => ?_)
      try dsimp only at hw_17
      refine lv_iload hx hb dX0_reckonDoor_76 (lv_at hl 0 rfl) ?_
      refine lv_iadd hx hb dX0_reckonDoor_78 ?_
      refine lv_topi (fun x_18 ex_18 => ?_)
      refine va_iast hx hb hK hP hD hS 6 1 rfl rfl (vp_in_nI (by omega) (by decide)) dX0_reckonDoor_79 (fun H locs hP hD hS => ?_)
      have hQ9 := pd_mk [(h0, .inr (5, (fX5 h1 h2 h3 h4))), (aI k h1 10 (vv n see tm g)), (aI k h2 24 ff), (aI k h3 24 fp), (aI k h4 4 fl), (w0, .inr (0, (fX0 h0 w1 w2 w3 w4))), (aI k w1 768 (upd on2_12 (Int32.toNatClampNeg (nI ((rn * 24 + i) * 8 + g2_12))) x_18)), (aI k w3 4 en)] hP hD
      clear hP hD
      obtain ⟨hP, hD⟩ := hQ9
      rw [nI_clamp (n := ((rn * 24 + i) * 8 + g2_12)) (by omega)] at hP hD
      have hQ9 := pd_mk [(h0, .inr (5, (fX5 h1 h2 h3 h4))), (aI k h1 10 (vv n see tm g)), (aI k h2 24 ff), (aI k h3 24 fp), (aI k h4 4 fl), (w0, .inr (0, (fX0 h0 w1 w2 w3 w4))), (aI k w1 768 (upd on2_12 ((rn * 24 + i) * 8 + g2_12) x_18)), (aI k w3 4 en)] hP hD
      clear hP hD
      obtain ⟨hP, hD⟩ := hQ9
      refine lv_iinc (v := (nI (g2_12 + 1))) (lv' := [(4, .int (nI (g2_12 + 1))), (5, .int (en rn)), (3, .int 1), (0, .ref w0), (1, .int (nI rn)), (2, .int (nI i))]) hx hb dX0_reckonDoor_80 hl (k := 1) rfl (nI_add g2_12 1) (by decide) rfl (fun ls hl => ?_)
      refine lv_goto (tgt := 22) hx hb dX0_reckonDoor_83 (by decide) ?_
      have hst_12 := on_step (d := (sdX n see tm g ff fp)) (x := x_18) (show n ≤ 24 by omega) hsee (show i < n by omega) (show g2_12 < 8 by omega) hv_12.2.1 hv_12.2.2.1 (by rw [ex_18, hw_17, xPass (n := n) (see := see) (tm := tm) (ff := ff) (fp := fp)]; exact (pOn_last (show i + 1 = n by omega)).symm)
      exact ih_12 _ (g2_12 + 1, (upd on2_12 ((rn * 24 + i) * 8 + g2_12) x_18)) _ _ _ (by omega) ⟨rfl, ⟨by omega, hst_12.1, hst_12.2, fun x hx => (pk_un (by omega)).trans (hv_12.2.2.2 x hx)⟩, hP, hD, hS, (lv_sub hl [0, 2, 3, 4, 5] rfl)⟩


set_option maxHeartbeats 4000000 in
set_option maxRecDepth 100000 in
theorem y_reckonStart (l : Launch) (D : va_G) (k : Nat → ClassId) (st : Nat → Nat) (lo : Nat) (h0 : Nat) (h1 : Nat) (h2 : Nat) (h3 : Nat) (h4 : Nat) (n : Nat) (see : Nat) (tm : Nat) (g : Nat → Int32) (ff : Nat → Int32) (fp : Nat → Int32) (fl : Nat → Int32) (w0 : Nat) (w1 : Nat) (w2 : Nat) (w3 : Nat) (w4 : Nat) (on : Nat → Int32) (fo : Nat → Int32) (rn : Nat) (E9 : Int32) (hn : n ≤ 24) (hsee : see ≤ 2) (hrn : rn ≤ 3) (hl9 : ∀ r, r < 4 → fl r = pLate (sdX n see tm g ff fp) r) (hok9 : okD (sdX n see tm g ff fp)) (hn1 : 1 ≤ n) (hE : onOK (sdX n see tm g ff fp) see rn E9 0 on) : CWi l D k st lo yX0_reckonStart cX0_reckonStart 7 (some .int) ({ frames := 3, cells := 0, slots := 0, locals := 84 }) 0 0 [.ref w0, .int (nI rn)] [(h0, .inr (5, (fX5 h1 h2 h3 h4))), (aI k h1 10 (vv n see tm g)), (aI k h2 24 ff), (aI k h3 24 fp), (aI k h4 4 fl), (w0, .inr (0, (fX0 h0 w1 w2 w3 w4))), (aI k w1 768 on), (aI k w4 8 fo)] (fun (r : Int32) (fo_ : (Nat → Int32)) => r = pSv (sdX n see tm g ff fp) see rn E9) (fun (fo_ : (Nat → Int32)) => [(h0, .inr (5, (fX5 h1 h2 h3 h4))), (aI k h1 10 (vv n see tm g)), (aI k h2 24 ff), (aI k h3 24 fp), (aI k h4 4 fl), (w0, .inr (0, (fX0 h0 w1 w2 w3 w4))), (aI k w1 768 on), (aI k w4 8 fo_)]) := by
  intro sz
  refine Met.ofW (cc := cX0_reckonStart) (maxL := 7) (ret := (some .int)) (by decide) rfl ?_
  intro p e s m args below meth c s₁ B hml hv
  obtain ⟨rfl, hsz, hlo, hP, hK, hDL, hZ⟩ := hv
  have hx := B.exec
  have hb := B.bytes
  have hr := B.returns
  have hts := WS_ts B.pre
  have hown : s.vm.findClass RX0 = some m.cls := findClass_of_methodNamed B.named
  have hlocks := B.notSynchronized
  subst hsz
  have hD := hDL.self (sz := s.heap.size)
  have hAlo := A_lo hDL hlo
  generalize hAe : va_A [(h0, .inr (5, (fX5 h1 h2 h3 h4))), (aI k h1 10 (vv n see tm g)), (aI k h2 24 ff), (aI k h3 24 fp), (aI k h4 4 fl), (w0, .inr (0, (fX0 h0 w1 w2 w3 w4))), (aI k w1 768 on), (aI k w4 8 fo)] s.heap.size = A at hD hAlo ⊢
  have hA : ∀ q : Nat, s.heap.size ≤ q → A q := fun q h => by rw [← hAe]; exact Or.inr h
  have hS : va_S A s.heap s.heap [] := va_S.rf
  have hl := lv_entry ([.ref w0, .int (nI rn)]) (n := 7) (Nat.le_of_ble_eq_true rfl)
  rw [lg_entry_eq]
  generalize (lg_sl ([.ref w0, .int (nI rn)]) ++ List.replicate (7 - (lg_sl ([.ref w0, .int (nI rn)])).length) Slot.unset).toArray = ls at hl ⊢
  have hl : lv_has ls 7 [(0, .ref w0), (1, .int (nI rn))] := hl
  refine lv_aload_n hx hb dX0_reckonStart_0 rfl (lv_at hl 0 rfl) ?_
  refine va_get (D := D) (ci := 0) (v := .ref h0) (C := RX0) (T := TX0) (N := 5) hx hb hts inX0 hown hK hP 5 rfl rfl 0 (by decide) (hts _ tw_266) (fun _ h9 => h9) rfl dX0_reckonStart_1 ?_
  refine lv_iconst (v := 0) hx hb dX0_reckonStart_4 (by decide) ?_
  refine ro_i (D := D) (va_runV (As := [.int 0]) (rest := []) ⟨hx, hb, hml, hown, hts⟩ ((y_sightsAt l D k st lo h0 h1 h2 h3 h4 n see tm g 0 (by first | assumption | omega) (by first | assumption | omega) (by first | assumption | omega)) s.heap.size) (cwV 1 hts (gV tw_536 tw_537 tw_538 tw_81 tw_539) rfl rfl rfl (by decide +kernel) ⟨Nat.le_of_ble_eq_true rfl, Nat.le_of_ble_eq_true rfl⟩) (pV hS hAlo hlo hP hK (va_Dlo hD hAlo) hZ [0, 1] (by decide) rfl (ci := 5) (q := (RX5, TX5, 4)) (q0 := 0) rfl rfl) rfl rfl hl.1 rfl (lv_room (Nat.le_of_ble_eq_true rfl)) dX0_reckonStart_5 ⟨Nat.le_of_ble_eq_true rfl, Nat.le_of_ble_eq_true rfl⟩) hS hA hP (fun r_1 H locs hw_1 hP hS => ?_)
  try dsimp only at hw_1
  obtain ⟨zs_2, ezs_2⟩ : ∃ z : Nat, z = 2 ^ sqN see n 0 := ⟨_, rfl⟩
  rw [← ezs_2] at hw_1
  subst hw_1
  have hzs_2 : 1 ≤ zs_2 ∧ zs_2 ≤ 8 := by rw [ezs_2]; exact p8 (sq_le (by omega))
  have hq0_9 : (sqN see n 0) ≤ see + 1 ∧ (sqN see n 0) ≤ n ∧ 1 ≤ (sqN see n 0) := by unfold sqN; omega
  refine lv_istore_n (lv' := [(2, .int (nI zs_2)), (0, .ref w0), (1, .int (nI rn))]) hx hb dX0_reckonStart_8 rfl hl (by decide) rfl (fun ls hl => ?_)
  refine lv_iconst (v := 0) hx hb dX0_reckonStart_9 (by decide) ?_
  refine lv_istore_n (lv' := [(3, .int 0), (2, .int (nI zs_2)), (0, .ref w0), (1, .int (nI rn))]) hx hb dX0_reckonStart_10 rfl hl (by decide) rfl (fun ls hl => ?_)
  refine W_loop (σ := Nat × (Nat → Int32)) (fun (n_ : Nat) (x_ : Nat × (Nat → Int32)) (H : Heap) (locs : List Loc) (ls : Array Slot) => match x_ with | (g2_3, fo2_3) => n_ = zs_2 - g2_3 ∧ (g2_3 ≤ zs_2 ∧ ∀ h, h < g2_3 → fo2_3 h = pWo (sdX n see tm g ff fp) see rn E9 0 h) ∧ va_P D classes [(h0, .inr (5, (fX5 h1 h2 h3 h4))), (aI k h1 10 (vv n see tm g)), (aI k h2 24 ff), (aI k h3 24 fp), (aI k h4 4 fl), (w0, .inr (0, (fX0 h0 w1 w2 w3 w4))), (aI k w1 768 on), (aI k w4 8 fo2_3)] H ∧ va_D A [(h0, .inr (5, (fX5 h1 h2 h3 h4))), (aI k h1 10 (vv n see tm g)), (aI k h2 24 ff), (aI k h3 24 fp), (aI k h4 4 fl), (w0, .inr (0, (fX0 h0 w1 w2 w3 w4))), (aI k w1 768 on), (aI k w4 8 fo2_3)] ∧ va_S A s.heap H locs ∧ lv_has ls 7 [(3, .int (nI g2_3)), (2, .int (nI zs_2)), (0, .ref w0), (1, .int (nI rn))]) (fun n_3 x_3 H locs ls hI ih_3 => ?_) _ (0, fo) ⟨rfl, ⟨by omega, fun h hh => absurd hh (Nat.not_lt_zero h)⟩, hP, hD, hS, (lv_sub hl [0, 1, 2, 3] rfl)⟩
  obtain ⟨g2_3, fo2_3⟩ := x_3
  obtain ⟨hm_3, hv_3, hP, hD, hS, hl⟩ := hI
  subst hm_3
  refine lv_iload_n hx hb dX0_reckonStart_11 rfl (lv_at hl 0 rfl) ?_
  refine lv_iload_n hx hb dX0_reckonStart_12 rfl (lv_at hl 1 rfl) ?_
  refine lv_icmp_ge (tgt := 41) hx hb dX0_reckonStart_13 (by decide) (fun c_4 => ?_) (fun c_4 => ?_)
  · have c_4 := (nI_leI (a := zs_2) (b := g2_3) (by omega) (by omega)).mp c_4
    have hF_9 : ∀ h, h < 2 ^ (sqN see n 0) → fo2_3 h = pFo (sdX n see tm g ff fp) (fun h => pWo (sdX n see tm g ff fp) see rn E9 0 h) (sqN see n 0) (0) h := fun h hh => hv_3.2 h (by rw [← ezs_2] at hh; omega)
    refine lv_aload_n hx hb dX0_reckonStart_41 rfl (lv_at hl 2 rfl) ?_
    refine va_get (D := D) (ci := 0) (v := .ref h0) (C := RX0) (T := TX0) (N := 5) hx hb hts inX0 hown hK hP 5 rfl rfl 0 (by decide) (hts _ tw_266) (fun _ h9 => h9) rfl dX0_reckonStart_42 ?_
    refine va_get (D := D) (ci := 5) (v := .ref h1) (C := RX5) (T := TX5) (N := 4) hx hb hts inX5 hown hK hP 0 rfl rfl 0 (by decide) (hts _ tw_147) (fun _ h9 => h9) rfl dX0_reckonStart_45 ?_
    refine lv_bipush (v := 6) hx hb dX0_reckonStart_48 (by decide) ?_
    refine va_iald hx hb hK hP 1 1 rfl rfl (by unfold vp_in; decide) dX0_reckonStart_50 ?_
    refine lv_ti (y := (nI see)) (by rfl) ?_
    refine lv_istore_n (lv' := [(3, .int (nI see)), (2, .int (nI zs_2)), (0, .ref w0), (1, .int (nI rn))]) hx hb dX0_reckonStart_51 rfl hl (by decide) rfl (fun ls hl => ?_)
    refine W_loop (σ := Nat × (Nat → Int32)) (fun (n_ : Nat) (x_ : Nat × (Nat → Int32)) (H : Heap) (locs : List Loc) (ls : Array Slot) => match x_ with | (q_5, fo2_5) => n_ = 2 * q_5 ∧ (q_5 ≤ see + 1 ∧ ∀ h, h < 2 ^ min q_5 (sqN see n 0) → fo2_5 h = pFo (sdX n see tm g ff fp) (fun h => pWo (sdX n see tm g ff fp) see rn E9 0 h) (sqN see n 0) ((sqN see n 0) - q_5) h) ∧ va_P D classes [(h0, .inr (5, (fX5 h1 h2 h3 h4))), (aI k h1 10 (vv n see tm g)), (aI k h2 24 ff), (aI k h3 24 fp), (aI k h4 4 fl), (w0, .inr (0, (fX0 h0 w1 w2 w3 w4))), (aI k w1 768 on), (aI k w4 8 fo2_5)] H ∧ va_D A [(h0, .inr (5, (fX5 h1 h2 h3 h4))), (aI k h1 10 (vv n see tm g)), (aI k h2 24 ff), (aI k h3 24 fp), (aI k h4 4 fl), (w0, .inr (0, (fX0 h0 w1 w2 w3 w4))), (aI k w1 768 on), (aI k w4 8 fo2_5)] ∧ va_S A s.heap H locs ∧ lv_has ls 7 [(3, .int (nI q_5 - 1)), (2, .int (nI zs_2)), (0, .ref w0), (1, .int (nI rn))]) (fun n_5 x_5 H locs ls hI ih_5 => ?_) _ (see + 1, fo2_3) ⟨rfl, ⟨by omega, fun h hh => by rw [show min (see + 1) (sqN see n 0) = (sqN see n 0) by omega] at hh; rw [show (sqN see n 0) - (see + 1) = 0 by omega]; exact hF_9 h hh⟩, hP, hD, hS, (by rw [nI_pred]; exact lv_sub hl [0, 1, 2, 3] rfl)⟩
    obtain ⟨q_5, fo2_5⟩ := x_5
    obtain ⟨hm_5, hv_5, hP, hD, hS, hl⟩ := hI
    subst hm_5
    rcases q_5 with _ | q_5
    · rw [dn0] at hl
      refine lv_iload_n hx hb dX0_reckonStart_52 rfl (lv_at hl 0 rfl) ?_
      refine lv_if_lt (tgt := 148) hx hb dX0_reckonStart_53 (by decide) (fun _ => ?_) (fun h => absurd (by decide) h)
      refine lv_aload_n hx hb dX0_reckonStart_148 rfl (lv_at hl 2 rfl) ?_
      refine va_get (D := D) (ci := 0) (v := .ref w4) (C := RX0) (T := TX0) (N := 5) hx hb hts inX0 hown hK hP 5 rfl rfl 4 (by decide) (hts _ tw_272) (fun _ h9 => h9) rfl dX0_reckonStart_149 ?_
      refine lv_iconst (v := 0) hx hb dX0_reckonStart_152 (by decide) ?_
      refine va_iald hx hb hK hP 7 1 rfl rfl (by unfold vp_in; decide) dX0_reckonStart_153 ?_
      refine lv_ti (y := (fo2_5 0)) (by rfl) ?_
      obtain ⟨hP9, hD9⟩ := pd_sub [(h0, .inr (5, (fX5 h1 h2 h3 h4))), (aI k h1 10 (vv n see tm g)), (aI k h2 24 ff), (aI k h3 24 fp), (aI k h4 4 fl), (w0, .inr (0, (fX0 h0 w1 w2 w3 w4))), (aI k w1 768 on), (aI k w4 8 fo2_5)] [0, 1, 2, 3, 4, 5, 6, 7] hP hD (by decide) rfl
      exact W.iret (v := (fo2_5 0)) hx hb hr (fun t ht hW => ⟨⟨(fo2_5 0), fo2_5, rfl, hv_5.2 0 (by rw [Nat.zero_min]; exact Nat.one_pos), by rw [ht]; exact hP9, hD9⟩, hS.F ht⟩) hS.2.2 dX0_reckonStart_154
    · rw [nI_pred] at hl
      refine lv_iload_n hx hb dX0_reckonStart_52 rfl (lv_at hl 0 rfl) ?_
      refine lv_if_lt (tgt := 148) hx hb dX0_reckonStart_53 (by decide) (fun h => absurd h (nI_pos0 (by omega))) (fun _ => ?_)
      refine lv_iconst (v := 1) hx hb dX0_reckonStart_56 (by decide) ?_
      refine lv_iload_n hx hb dX0_reckonStart_57 rfl (lv_at hl 0 rfl) ?_
      refine lv_ishl hx hb dX0_reckonStart_58 ?_
      refine lv_ti (y := (nI (2 ^ q_5))) (shl1 q_5 (by omega)) ?_
      refine lv_istore (lv' := [(4, .int (nI (2 ^ q_5))), (3, .int (nI q_5)), (2, .int (nI zs_2)), (0, .ref w0), (1, .int (nI rn))]) hx hb dX0_reckonStart_59 hl (by decide) rfl (fun ls hl => ?_)
      have hp4_5 := pw4 (show q_5 ≤ 2 by omega)
      rcases Nat.lt_or_ge q_5 (sqN see n 0) with hjq_5 | hjq_5
      · have hpz_5 : 2 ^ q_5 < zs_2 := by rw [ezs_2]; exact pw_lt.mpr hjq_5
        refine lv_iconst (v := 0) hx hb dX0_reckonStart_61 (by decide) ?_
        refine lv_istore (lv' := [(5, .int 0), (4, .int (nI (2 ^ q_5))), (3, .int (nI q_5)), (2, .int (nI zs_2)), (0, .ref w0), (1, .int (nI rn))]) hx hb dX0_reckonStart_62 hl (by decide) rfl (fun ls hl => ?_)
        refine W_loop (σ := Nat × (Nat → Int32)) (fun (n_ : Nat) (x_ : Nat × (Nat → Int32)) (H : Heap) (locs : List Loc) (ls : Array Slot) => match x_ with | (g3_6, fo3_6) => n_ = 2 ^ q_5 - g3_6 ∧ (g3_6 ≤ 2 ^ q_5 ∧ (∀ h, h < g3_6 → fo3_6 h = pFo (sdX n see tm g ff fp) (fun h => pWo (sdX n see tm g ff fp) see rn E9 0 h) (sqN see n 0) ((sqN see n 0) - q_5) h) ∧ (∀ h, g3_6 ≤ h → h < 2 ^ (q_5 + 1) → fo3_6 h = pFo (sdX n see tm g ff fp) (fun h => pWo (sdX n see tm g ff fp) see rn E9 0 h) (sqN see n 0) ((sqN see n 0) - (q_5 + 1)) h)) ∧ va_P D classes [(h0, .inr (5, (fX5 h1 h2 h3 h4))), (aI k h1 10 (vv n see tm g)), (aI k h2 24 ff), (aI k h3 24 fp), (aI k h4 4 fl), (w0, .inr (0, (fX0 h0 w1 w2 w3 w4))), (aI k w1 768 on), (aI k w4 8 fo3_6)] H ∧ va_D A [(h0, .inr (5, (fX5 h1 h2 h3 h4))), (aI k h1 10 (vv n see tm g)), (aI k h2 24 ff), (aI k h3 24 fp), (aI k h4 4 fl), (w0, .inr (0, (fX0 h0 w1 w2 w3 w4))), (aI k w1 768 on), (aI k w4 8 fo3_6)] ∧ va_S A s.heap H locs ∧ lv_has ls 7 [(5, .int (nI g3_6)), (4, .int (nI (2 ^ q_5))), (3, .int (nI q_5)), (2, .int (nI zs_2)), (0, .ref w0), (1, .int (nI rn))]) (fun n_6 x_6 H locs ls hI ih_6 => ?_) _ (0, fo2_5) ⟨rfl, ⟨Nat.zero_le _, fun h hh => absurd hh (Nat.not_lt_zero h), fun h _ hh => hv_5.2 h (by rw [show min (q_5 + 1) (sqN see n 0) = q_5 + 1 by omega]; exact hh)⟩, hP, hD, hS, (lv_sub hl [0, 1, 2, 3, 4, 5] rfl)⟩
        obtain ⟨g3_6, fo3_6⟩ := x_6
        obtain ⟨hm_6, hv_6, hP, hD, hS, hl⟩ := hI
        subst hm_6
        refine lv_iload hx hb dX0_reckonStart_64 (lv_at hl 1 rfl) ?_
        refine lv_iload_n hx hb dX0_reckonStart_66 rfl (lv_at hl 3 rfl) ?_
        refine lv_icmp_ge (tgt := 142) hx hb dX0_reckonStart_67 (by decide) (fun h => absurd ((nI_leI (a := zs_2) (b := (2 ^ q_5)) (by omega) (by omega)).mp h) (by omega)) (fun _ => ?_)
        refine lv_iload hx hb dX0_reckonStart_70 (lv_at hl 0 rfl) ?_
        refine lv_iload hx hb dX0_reckonStart_72 (lv_at hl 1 rfl) ?_
        refine lv_icmp_ge (tgt := 142) hx hb dX0_reckonStart_74 (by decide) (fun c_8 => ?_) (fun c_8 => ?_)
        · have c_8 := (nI_leI (a := (2 ^ q_5)) (b := g3_6) (by omega) (by omega)).mp c_8
          refine lv_iinc (v := (nI q_5 - 1)) (lv' := [(3, .int (nI q_5 - 1)), (5, .int (nI g3_6)), (4, .int (nI (2 ^ q_5))), (2, .int (nI zs_2)), (0, .ref w0), (1, .int (nI rn))]) hx hb dX0_reckonStart_142 hl (k := 2) rfl (dn1 _) (by decide) rfl (fun ls hl => ?_)
          refine lv_goto (tgt := 52) hx hb dX0_reckonStart_145 (by decide) ?_
          exact ih_5 _ (q_5, fo3_6) _ _ _ (by omega) ⟨rfl, ⟨by omega, fun h hh => hv_6.2.1 h (by rw [show min q_5 (sqN see n 0) = q_5 by omega] at hh; omega)⟩, hP, hD, hS, (lv_sub hl [0, 3, 4, 5] rfl)⟩
        · have c_8 : ¬ ((2 ^ q_5) ≤ g3_6) := fun h => c_8 ((nI_leI (a := (2 ^ q_5)) (b := g3_6) (by omega) (by omega)).mpr h)
          refine lv_iload_n hx hb dX0_reckonStart_77 rfl (lv_at hl 2 rfl) ?_
          refine lv_if_le (tgt := 96) hx hb dX0_reckonStart_78 (by decide) (fun c_9 => ?_) (fun c_9 => ?_)
          · have c_9 := (nI_leI (a := q_5) (b := 0) (by omega) (by omega)).mp c_9
            refine lv_iconst (v := 0) hx hb dX0_reckonStart_96 (by decide) ?_
            refine lv_istore (lv' := [(6, .int 0), (5, .int (nI g3_6)), (4, .int (nI (2 ^ q_5))), (3, .int (nI q_5)), (2, .int (nI zs_2)), (0, .ref w0), (1, .int (nI rn))]) hx hb dX0_reckonStart_97 hl (by decide) rfl (fun ls hl => ?_)
            refine lv_aload_n hx hb dX0_reckonStart_99 rfl (lv_at hl 5 rfl) ?_
            refine va_get (D := D) (ci := 0) (v := .ref w4) (C := RX0) (T := TX0) (N := 5) hx hb hts inX0 hown hK hP 5 rfl rfl 4 (by decide) (hts _ tw_272) (fun _ h9 => h9) rfl dX0_reckonStart_100 ?_
            refine lv_iload hx hb dX0_reckonStart_103 (lv_at hl 1 rfl) ?_
            refine lv_aload_n hx hb dX0_reckonStart_105 rfl (lv_at hl 5 rfl) ?_
            refine va_get (D := D) (ci := 0) (v := .ref h0) (C := RX0) (T := TX0) (N := 5) hx hb hts inX0 hown hK hP 5 rfl rfl 0 (by decide) (hts _ tw_266) (fun _ h9 => h9) rfl dX0_reckonStart_106 ?_
            refine lv_iload_n hx hb dX0_reckonStart_109 rfl (lv_at hl 3 rfl) ?_
            refine lv_iload hx hb dX0_reckonStart_110 (lv_at hl 0 rfl) ?_
            refine ro_i (D := D) (va_runV (As := [.int (nI q_5), .int 0]) (rest := [.int (nI g3_6), .ref w4]) ⟨hx, hb, hml, hown, hts⟩ ((y_chanceOf l D k st lo h0 h1 h2 h3 h4 n see tm g ff q_5 0 (by first | assumption | omega)) H.size) (cwV 2 hts (gV tw_564 tw_565 tw_566 tw_81 tw_567) rfl rfl rfl (by decide +kernel) ⟨Nat.le_of_ble_eq_true rfl, Nat.le_of_ble_eq_true rfl⟩) (pV hS hAlo hlo hP hK (va_Dlo hD hAlo) hZ [0, 1, 2] (by decide) rfl (ci := 5) (q := (RX5, TX5, 4)) (q0 := 0) rfl rfl) rfl rfl hl.1 rfl (lv_room (Nat.le_of_ble_eq_true rfl)) dX0_reckonStart_112 ⟨Nat.le_of_ble_eq_true rfl, Nat.le_of_ble_eq_true rfl⟩) hS hA hP (fun r_10 H locs hw_10 hP hS => ?_)
            try dsimp only at hw_10
            refine lv_aload_n hx hb dX0_reckonStart_115 rfl (lv_at hl 5 rfl) ?_
            refine va_get (D := D) (ci := 0) (v := .ref w4) (C := RX0) (T := TX0) (N := 5) hx hb hts inX0 hown hK hP 5 rfl rfl 4 (by decide) (hts _ tw_272) (fun _ h9 => h9) rfl dX0_reckonStart_116 ?_
            refine lv_iload hx hb dX0_reckonStart_119 (lv_at hl 1 rfl) ?_
            refine lv_iload hx hb dX0_reckonStart_121 (lv_at hl 2 rfl) ?_
            refine lv_ior hx hb dX0_reckonStart_123 ?_
            refine lv_ti (y := (nI (g3_6 + 2 ^ q_5))) (or_bit2 q_5 (by omega) g3_6 (by omega)) ?_
            refine va_iald hx hb hK hP 7 1 rfl rfl (vp_in_nI (by omega) (by decide)) dX0_reckonStart_124 ?_
            refine lv_ti (y := (fo3_6 (g3_6 + 2 ^ q_5))) (by rw [nI_clamp (by omega)]) ?_
            refine lv_aload_n hx hb dX0_reckonStart_125 rfl (lv_at hl 5 rfl) ?_
            refine va_get (D := D) (ci := 0) (v := .ref w4) (C := RX0) (T := TX0) (N := 5) hx hb hts inX0 hown hK hP 5 rfl rfl 4 (by decide) (hts _ tw_272) (fun _ h9 => h9) rfl dX0_reckonStart_126 ?_
            refine lv_iload hx hb dX0_reckonStart_129 (lv_at hl 1 rfl) ?_
            refine va_iald hx hb hK hP 7 1 rfl rfl (vp_in_nI (by omega) (by decide)) dX0_reckonStart_131 ?_
            refine lv_ti (y := (fo3_6 g3_6)) (by rw [nI_clamp (by omega)]) ?_
            refine ro_i (D := D) (va_runSN (As := [.int r_10, .int (fo3_6 (g3_6 + 2 ^ q_5)), .int (fo3_6 g3_6)]) (rest := [.int (nI g3_6), .ref w4]) ⟨hx, hb, hml, hown, hts⟩ ((y_mixed l D k st lo r_10 (fo3_6 (g3_6 + 2 ^ q_5)) (fo3_6 g3_6)) H.size) ⟨va_cnB 3 hts (gLW tw_570) rfl rfl rfl (hZ.2.2.2.2.2.2.2.2.1.1 (RX0, 80, yX7_mixed, RX7) (List.mem_of_getElem? (i := 5) rfl)) (hts _ tw_79) (by decide +kernel) ⟨Nat.le_of_ble_eq_true rfl, Nat.le_of_ble_eq_true rfl⟩, hts _ tw_569, trivial⟩ (pS hS hAlo hlo hP hK (va_Dlo hD hAlo) hZ [] (by decide) rfl) rfl rfl hl.1 rfl (lv_room (Nat.le_of_ble_eq_true rfl)) dX0_reckonStart_132 ⟨Nat.le_of_ble_eq_true rfl, Nat.le_of_ble_eq_true rfl⟩) hS hA hP (fun r_11 H locs hw_11 hP hS => ?_)
            try dsimp only at hw_11
            refine va_iast hx hb hK hP hD hS 7 1 rfl rfl (vp_in_nI (by omega) (by decide)) dX0_reckonStart_135 (fun H locs hP hD hS => ?_)
            have hQ9 := pd_mk [(h0, .inr (5, (fX5 h1 h2 h3 h4))), (aI k h1 10 (vv n see tm g)), (aI k h2 24 ff), (aI k h3 24 fp), (aI k h4 4 fl), (w0, .inr (0, (fX0 h0 w1 w2 w3 w4))), (aI k w1 768 on), (aI k w4 8 (upd fo3_6 (Int32.toNatClampNeg (nI g3_6)) r_11))] hP hD
            clear hP hD
            obtain ⟨hP, hD⟩ := hQ9
            rw [nI_clamp (n := g3_6) (by omega)] at hP hD
            have hQ9 := pd_mk [(h0, .inr (5, (fX5 h1 h2 h3 h4))), (aI k h1 10 (vv n see tm g)), (aI k h2 24 ff), (aI k h3 24 fp), (aI k h4 4 fl), (w0, .inr (0, (fX0 h0 w1 w2 w3 w4))), (aI k w1 768 on), (aI k w4 8 (upd fo3_6 g3_6 r_11))] hP hD
            clear hP hD
            obtain ⟨hP, hD⟩ := hQ9
            refine lv_iinc (v := (nI (g3_6 + 1))) (lv' := [(5, .int (nI (g3_6 + 1))), (6, .int 0), (4, .int (nI (2 ^ q_5))), (3, .int (nI q_5)), (2, .int (nI zs_2)), (0, .ref w0), (1, .int (nI rn))]) hx hb dX0_reckonStart_136 hl (k := 1) rfl (nI_add g3_6 1) (by decide) rfl (fun ls hl => ?_)
            refine lv_goto (tgt := 64) hx hb dX0_reckonStart_139 (by decide) ?_
            have hst_6 := fo_step (d := (sdX n see tm g ff fp)) (W := (fun h => pWo (sdX n see tm g ff fp) see rn E9 0 h)) (q := (sqN see n 0)) hjq_5 (show g3_6 < 2 ^ q_5 by omega) hv_6.2.1 hv_6.2.2 (by rw [(show pAh g3_6 q_5 = 0 by rw [show q_5 = 0 by omega]; exact ah_z)]; exact hw_10.trans (xChance (show q_5 < n by omega) (okX hok9 (show q_5 < n by omega)))) rfl rfl hw_11
            exact ih_6 _ (g3_6 + 1, (upd fo3_6 g3_6 r_11)) _ _ _ (by omega) ⟨rfl, ⟨by omega, hst_6.1, hst_6.2⟩, hP, hD, hS, (lv_sub hl [0, 2, 3, 4, 5, 6] rfl)⟩
          · have c_9 : ¬ (q_5 ≤ 0) := fun h => c_9 ((nI_leI (a := q_5) (b := 0) (by omega) (by omega)).mpr h)
            refine lv_iload hx hb dX0_reckonStart_81 (lv_at hl 0 rfl) ?_
            refine lv_iload_n hx hb dX0_reckonStart_83 rfl (lv_at hl 2 rfl) ?_
            refine lv_iconst (v := 1) hx hb dX0_reckonStart_84 (by decide) ?_
            refine lv_isub hx hb dX0_reckonStart_85 ?_
            refine lv_ti (y := (nI (q_5 - 1))) (pk_sub (a := q_5) (b := 1) (by omega)) ?_
            refine lv_ishr hx hb dX0_reckonStart_86 ?_
            refine lv_topi (fun x_13 ex_13 => ?_)
            refine lv_iconst (v := 1) hx hb dX0_reckonStart_87 (by decide) ?_
            refine lv_iand hx hb dX0_reckonStart_88 ?_
            refine lv_topi (fun x_14 ex_14 => ?_)
            refine lv_if_eq (tgt := 96) hx hb dX0_reckonStart_89 (by decide) (fun c_15 => ?_) (fun c_15 => ?_)
            · rw [ex_14, ex_13] at c_15
              refine lv_iconst (v := 0) hx hb dX0_reckonStart_96 (by decide) ?_
              refine lv_istore (lv' := [(6, .int 0), (5, .int (nI g3_6)), (4, .int (nI (2 ^ q_5))), (3, .int (nI q_5)), (2, .int (nI zs_2)), (0, .ref w0), (1, .int (nI rn))]) hx hb dX0_reckonStart_97 hl (by decide) rfl (fun ls hl => ?_)
              refine lv_aload_n hx hb dX0_reckonStart_99 rfl (lv_at hl 5 rfl) ?_
              refine va_get (D := D) (ci := 0) (v := .ref w4) (C := RX0) (T := TX0) (N := 5) hx hb hts inX0 hown hK hP 5 rfl rfl 4 (by decide) (hts _ tw_272) (fun _ h9 => h9) rfl dX0_reckonStart_100 ?_
              refine lv_iload hx hb dX0_reckonStart_103 (lv_at hl 1 rfl) ?_
              refine lv_aload_n hx hb dX0_reckonStart_105 rfl (lv_at hl 5 rfl) ?_
              refine va_get (D := D) (ci := 0) (v := .ref h0) (C := RX0) (T := TX0) (N := 5) hx hb hts inX0 hown hK hP 5 rfl rfl 0 (by decide) (hts _ tw_266) (fun _ h9 => h9) rfl dX0_reckonStart_106 ?_
              refine lv_iload_n hx hb dX0_reckonStart_109 rfl (lv_at hl 3 rfl) ?_
              refine lv_iload hx hb dX0_reckonStart_110 (lv_at hl 0 rfl) ?_
              refine ro_i (D := D) (va_runV (As := [.int (nI q_5), .int 0]) (rest := [.int (nI g3_6), .ref w4]) ⟨hx, hb, hml, hown, hts⟩ ((y_chanceOf l D k st lo h0 h1 h2 h3 h4 n see tm g ff q_5 0 (by first | assumption | omega)) H.size) (cwV 2 hts (gV tw_564 tw_565 tw_566 tw_81 tw_567) rfl rfl rfl (by decide +kernel) ⟨Nat.le_of_ble_eq_true rfl, Nat.le_of_ble_eq_true rfl⟩) (pV hS hAlo hlo hP hK (va_Dlo hD hAlo) hZ [0, 1, 2] (by decide) rfl (ci := 5) (q := (RX5, TX5, 4)) (q0 := 0) rfl rfl) rfl rfl hl.1 rfl (lv_room (Nat.le_of_ble_eq_true rfl)) dX0_reckonStart_112 ⟨Nat.le_of_ble_eq_true rfl, Nat.le_of_ble_eq_true rfl⟩) hS hA hP (fun r_16 H locs hw_16 hP hS => ?_)
              try dsimp only at hw_16
              refine lv_aload_n hx hb dX0_reckonStart_115 rfl (lv_at hl 5 rfl) ?_
              refine va_get (D := D) (ci := 0) (v := .ref w4) (C := RX0) (T := TX0) (N := 5) hx hb hts inX0 hown hK hP 5 rfl rfl 4 (by decide) (hts _ tw_272) (fun _ h9 => h9) rfl dX0_reckonStart_116 ?_
              refine lv_iload hx hb dX0_reckonStart_119 (lv_at hl 1 rfl) ?_
              refine lv_iload hx hb dX0_reckonStart_121 (lv_at hl 2 rfl) ?_
              refine lv_ior hx hb dX0_reckonStart_123 ?_
              refine lv_ti (y := (nI (g3_6 + 2 ^ q_5))) (or_bit2 q_5 (by omega) g3_6 (by omega)) ?_
              refine va_iald hx hb hK hP 7 1 rfl rfl (vp_in_nI (by omega) (by decide)) dX0_reckonStart_124 ?_
              refine lv_ti (y := (fo3_6 (g3_6 + 2 ^ q_5))) (by rw [nI_clamp (by omega)]) ?_
              refine lv_aload_n hx hb dX0_reckonStart_125 rfl (lv_at hl 5 rfl) ?_
              refine va_get (D := D) (ci := 0) (v := .ref w4) (C := RX0) (T := TX0) (N := 5) hx hb hts inX0 hown hK hP 5 rfl rfl 4 (by decide) (hts _ tw_272) (fun _ h9 => h9) rfl dX0_reckonStart_126 ?_
              refine lv_iload hx hb dX0_reckonStart_129 (lv_at hl 1 rfl) ?_
              refine va_iald hx hb hK hP 7 1 rfl rfl (vp_in_nI (by omega) (by decide)) dX0_reckonStart_131 ?_
              refine lv_ti (y := (fo3_6 g3_6)) (by rw [nI_clamp (by omega)]) ?_
              refine ro_i (D := D) (va_runSN (As := [.int r_16, .int (fo3_6 (g3_6 + 2 ^ q_5)), .int (fo3_6 g3_6)]) (rest := [.int (nI g3_6), .ref w4]) ⟨hx, hb, hml, hown, hts⟩ ((y_mixed l D k st lo r_16 (fo3_6 (g3_6 + 2 ^ q_5)) (fo3_6 g3_6)) H.size) ⟨va_cnB 3 hts (gLW tw_570) rfl rfl rfl (hZ.2.2.2.2.2.2.2.2.1.1 (RX0, 80, yX7_mixed, RX7) (List.mem_of_getElem? (i := 5) rfl)) (hts _ tw_79) (by decide +kernel) ⟨Nat.le_of_ble_eq_true rfl, Nat.le_of_ble_eq_true rfl⟩, hts _ tw_569, trivial⟩ (pS hS hAlo hlo hP hK (va_Dlo hD hAlo) hZ [] (by decide) rfl) rfl rfl hl.1 rfl (lv_room (Nat.le_of_ble_eq_true rfl)) dX0_reckonStart_132 ⟨Nat.le_of_ble_eq_true rfl, Nat.le_of_ble_eq_true rfl⟩) hS hA hP (fun r_17 H locs hw_17 hP hS => ?_)
              try dsimp only at hw_17
              refine va_iast hx hb hK hP hD hS 7 1 rfl rfl (vp_in_nI (by omega) (by decide)) dX0_reckonStart_135 (fun H locs hP hD hS => ?_)
              have hQ9 := pd_mk [(h0, .inr (5, (fX5 h1 h2 h3 h4))), (aI k h1 10 (vv n see tm g)), (aI k h2 24 ff), (aI k h3 24 fp), (aI k h4 4 fl), (w0, .inr (0, (fX0 h0 w1 w2 w3 w4))), (aI k w1 768 on), (aI k w4 8 (upd fo3_6 (Int32.toNatClampNeg (nI g3_6)) r_17))] hP hD
              clear hP hD
              obtain ⟨hP, hD⟩ := hQ9
              rw [nI_clamp (n := g3_6) (by omega)] at hP hD
              have hQ9 := pd_mk [(h0, .inr (5, (fX5 h1 h2 h3 h4))), (aI k h1 10 (vv n see tm g)), (aI k h2 24 ff), (aI k h3 24 fp), (aI k h4 4 fl), (w0, .inr (0, (fX0 h0 w1 w2 w3 w4))), (aI k w1 768 on), (aI k w4 8 (upd fo3_6 g3_6 r_17))] hP hD
              clear hP hD
              obtain ⟨hP, hD⟩ := hQ9
              refine lv_iinc (v := (nI (g3_6 + 1))) (lv' := [(5, .int (nI (g3_6 + 1))), (6, .int 0), (4, .int (nI (2 ^ q_5))), (3, .int (nI q_5)), (2, .int (nI zs_2)), (0, .ref w0), (1, .int (nI rn))]) hx hb dX0_reckonStart_136 hl (k := 1) rfl (nI_add g3_6 1) (by decide) rfl (fun ls hl => ?_)
              refine lv_goto (tgt := 64) hx hb dX0_reckonStart_139 (by decide) ?_
              have hst_6 := fo_step (d := (sdX n see tm g ff fp)) (W := (fun h => pWo (sdX n see tm g ff fp) see rn E9 0 h)) (q := (sqN see n 0)) hjq_5 (show g3_6 < 2 ^ q_5 by omega) hv_6.2.1 hv_6.2.2 (by rw [(ah_0 (by omega) (by omega) c_15)]; exact hw_16.trans (xChance (show q_5 < n by omega) (okX hok9 (show q_5 < n by omega)))) rfl rfl hw_17
              exact ih_6 _ (g3_6 + 1, (upd fo3_6 g3_6 r_17)) _ _ _ (by omega) ⟨rfl, ⟨by omega, hst_6.1, hst_6.2⟩, hP, hD, hS, (lv_sub hl [0, 2, 3, 4, 5, 6] rfl)⟩
            · rw [ex_14, ex_13] at c_15
              refine lv_iconst (v := 1) hx hb dX0_reckonStart_92 (by decide) ?_
              refine lv_goto (tgt := 97) hx hb dX0_reckonStart_93 (by decide) ?_
              refine lv_istore (lv' := [(6, .int 1), (5, .int (nI g3_6)), (4, .int (nI (2 ^ q_5))), (3, .int (nI q_5)), (2, .int (nI zs_2)), (0, .ref w0), (1, .int (nI rn))]) hx hb dX0_reckonStart_97 hl (by decide) rfl (fun ls hl => ?_)
              refine lv_aload_n hx hb dX0_reckonStart_99 rfl (lv_at hl 5 rfl) ?_
              refine va_get (D := D) (ci := 0) (v := .ref w4) (C := RX0) (T := TX0) (N := 5) hx hb hts inX0 hown hK hP 5 rfl rfl 4 (by decide) (hts _ tw_272) (fun _ h9 => h9) rfl dX0_reckonStart_100 ?_
              refine lv_iload hx hb dX0_reckonStart_103 (lv_at hl 1 rfl) ?_
              refine lv_aload_n hx hb dX0_reckonStart_105 rfl (lv_at hl 5 rfl) ?_
              refine va_get (D := D) (ci := 0) (v := .ref h0) (C := RX0) (T := TX0) (N := 5) hx hb hts inX0 hown hK hP 5 rfl rfl 0 (by decide) (hts _ tw_266) (fun _ h9 => h9) rfl dX0_reckonStart_106 ?_
              refine lv_iload_n hx hb dX0_reckonStart_109 rfl (lv_at hl 3 rfl) ?_
              refine lv_iload hx hb dX0_reckonStart_110 (lv_at hl 0 rfl) ?_
              refine ro_i (D := D) (va_runV (As := [.int (nI q_5), .int 1]) (rest := [.int (nI g3_6), .ref w4]) ⟨hx, hb, hml, hown, hts⟩ ((y_chanceOf l D k st lo h0 h1 h2 h3 h4 n see tm g ff q_5 1 (by first | assumption | omega)) H.size) (cwV 2 hts (gV tw_564 tw_565 tw_566 tw_81 tw_567) rfl rfl rfl (by decide +kernel) ⟨Nat.le_of_ble_eq_true rfl, Nat.le_of_ble_eq_true rfl⟩) (pV hS hAlo hlo hP hK (va_Dlo hD hAlo) hZ [0, 1, 2] (by decide) rfl (ci := 5) (q := (RX5, TX5, 4)) (q0 := 0) rfl rfl) rfl rfl hl.1 rfl (lv_room (Nat.le_of_ble_eq_true rfl)) dX0_reckonStart_112 ⟨Nat.le_of_ble_eq_true rfl, Nat.le_of_ble_eq_true rfl⟩) hS hA hP (fun r_19 H locs hw_19 hP hS => ?_)
              try dsimp only at hw_19
              refine lv_aload_n hx hb dX0_reckonStart_115 rfl (lv_at hl 5 rfl) ?_
              refine va_get (D := D) (ci := 0) (v := .ref w4) (C := RX0) (T := TX0) (N := 5) hx hb hts inX0 hown hK hP 5 rfl rfl 4 (by decide) (hts _ tw_272) (fun _ h9 => h9) rfl dX0_reckonStart_116 ?_
              refine lv_iload hx hb dX0_reckonStart_119 (lv_at hl 1 rfl) ?_
              refine lv_iload hx hb dX0_reckonStart_121 (lv_at hl 2 rfl) ?_
              refine lv_ior hx hb dX0_reckonStart_123 ?_
              refine lv_ti (y := (nI (g3_6 + 2 ^ q_5))) (or_bit2 q_5 (by omega) g3_6 (by omega)) ?_
              refine va_iald hx hb hK hP 7 1 rfl rfl (vp_in_nI (by omega) (by decide)) dX0_reckonStart_124 ?_
              refine lv_ti (y := (fo3_6 (g3_6 + 2 ^ q_5))) (by rw [nI_clamp (by omega)]) ?_
              refine lv_aload_n hx hb dX0_reckonStart_125 rfl (lv_at hl 5 rfl) ?_
              refine va_get (D := D) (ci := 0) (v := .ref w4) (C := RX0) (T := TX0) (N := 5) hx hb hts inX0 hown hK hP 5 rfl rfl 4 (by decide) (hts _ tw_272) (fun _ h9 => h9) rfl dX0_reckonStart_126 ?_
              refine lv_iload hx hb dX0_reckonStart_129 (lv_at hl 1 rfl) ?_
              refine va_iald hx hb hK hP 7 1 rfl rfl (vp_in_nI (by omega) (by decide)) dX0_reckonStart_131 ?_
              refine lv_ti (y := (fo3_6 g3_6)) (by rw [nI_clamp (by omega)]) ?_
              refine ro_i (D := D) (va_runSN (As := [.int r_19, .int (fo3_6 (g3_6 + 2 ^ q_5)), .int (fo3_6 g3_6)]) (rest := [.int (nI g3_6), .ref w4]) ⟨hx, hb, hml, hown, hts⟩ ((y_mixed l D k st lo r_19 (fo3_6 (g3_6 + 2 ^ q_5)) (fo3_6 g3_6)) H.size) ⟨va_cnB 3 hts (gLW tw_570) rfl rfl rfl (hZ.2.2.2.2.2.2.2.2.1.1 (RX0, 80, yX7_mixed, RX7) (List.mem_of_getElem? (i := 5) rfl)) (hts _ tw_79) (by decide +kernel) ⟨Nat.le_of_ble_eq_true rfl, Nat.le_of_ble_eq_true rfl⟩, hts _ tw_569, trivial⟩ (pS hS hAlo hlo hP hK (va_Dlo hD hAlo) hZ [] (by decide) rfl) rfl rfl hl.1 rfl (lv_room (Nat.le_of_ble_eq_true rfl)) dX0_reckonStart_132 ⟨Nat.le_of_ble_eq_true rfl, Nat.le_of_ble_eq_true rfl⟩) hS hA hP (fun r_20 H locs hw_20 hP hS => ?_)
              try dsimp only at hw_20
              refine va_iast hx hb hK hP hD hS 7 1 rfl rfl (vp_in_nI (by omega) (by decide)) dX0_reckonStart_135 (fun H locs hP hD hS => ?_)
              have hQ9 := pd_mk [(h0, .inr (5, (fX5 h1 h2 h3 h4))), (aI k h1 10 (vv n see tm g)), (aI k h2 24 ff), (aI k h3 24 fp), (aI k h4 4 fl), (w0, .inr (0, (fX0 h0 w1 w2 w3 w4))), (aI k w1 768 on), (aI k w4 8 (upd fo3_6 (Int32.toNatClampNeg (nI g3_6)) r_20))] hP hD
              clear hP hD
              obtain ⟨hP, hD⟩ := hQ9
              rw [nI_clamp (n := g3_6) (by omega)] at hP hD
              have hQ9 := pd_mk [(h0, .inr (5, (fX5 h1 h2 h3 h4))), (aI k h1 10 (vv n see tm g)), (aI k h2 24 ff), (aI k h3 24 fp), (aI k h4 4 fl), (w0, .inr (0, (fX0 h0 w1 w2 w3 w4))), (aI k w1 768 on), (aI k w4 8 (upd fo3_6 g3_6 r_20))] hP hD
              clear hP hD
              obtain ⟨hP, hD⟩ := hQ9
              refine lv_iinc (v := (nI (g3_6 + 1))) (lv' := [(5, .int (nI (g3_6 + 1))), (6, .int 1), (4, .int (nI (2 ^ q_5))), (3, .int (nI q_5)), (2, .int (nI zs_2)), (0, .ref w0), (1, .int (nI rn))]) hx hb dX0_reckonStart_136 hl (k := 1) rfl (nI_add g3_6 1) (by decide) rfl (fun ls hl => ?_)
              refine lv_goto (tgt := 64) hx hb dX0_reckonStart_139 (by decide) ?_
              have hst_6 := fo_step (d := (sdX n see tm g ff fp)) (W := (fun h => pWo (sdX n see tm g ff fp) see rn E9 0 h)) (q := (sqN see n 0)) hjq_5 (show g3_6 < 2 ^ q_5 by omega) hv_6.2.1 hv_6.2.2 (by rw [(ah_1 (by omega) (by omega) (by omega) c_15)]; exact hw_19.trans (xChance (show q_5 < n by omega) (okX hok9 (show q_5 < n by omega)))) rfl rfl hw_20
              exact ih_6 _ (g3_6 + 1, (upd fo3_6 g3_6 r_20)) _ _ _ (by omega) ⟨rfl, ⟨by omega, hst_6.1, hst_6.2⟩, hP, hD, hS, (lv_sub hl [0, 2, 3, 4, 5, 6] rfl)⟩
      · have hpz_5 : zs_2 ≤ 2 ^ q_5 := by rw [ezs_2]; exact Nat.pow_le_pow_right (by omega) hjq_5
        refine lv_iconst (v := 0) hx hb dX0_reckonStart_61 (by decide) ?_
        refine lv_istore (lv' := [(5, .int 0), (4, .int (nI (2 ^ q_5))), (3, .int (nI q_5)), (2, .int (nI zs_2)), (0, .ref w0), (1, .int (nI rn))]) hx hb dX0_reckonStart_62 hl (by decide) rfl (fun ls hl => ?_)
        refine lv_iload hx hb dX0_reckonStart_64 (lv_at hl 1 rfl) ?_
        refine lv_iload_n hx hb dX0_reckonStart_66 rfl (lv_at hl 3 rfl) ?_
        refine lv_icmp_ge (tgt := 142) hx hb dX0_reckonStart_67 (by decide) (fun _ => ?_) (fun h => absurd ((nI_leI (a := zs_2) (b := (2 ^ q_5)) (by omega) (by omega)).mpr (by omega)) h)
        refine lv_iinc (v := (nI q_5 - 1)) (lv' := [(3, .int (nI q_5 - 1)), (5, .int 0), (4, .int (nI (2 ^ q_5))), (2, .int (nI zs_2)), (0, .ref w0), (1, .int (nI rn))]) hx hb dX0_reckonStart_142 hl (k := 2) rfl (dn1 _) (by decide) rfl (fun ls hl => ?_)
        refine lv_goto (tgt := 52) hx hb dX0_reckonStart_145 (by decide) ?_
        exact ih_5 _ (q_5, fo2_5) _ _ _ (by omega) ⟨rfl, ⟨by omega, fun h hh => by have h9 := hv_5.2 h (by rw [show min (q_5 + 1) (sqN see n 0) = min q_5 (sqN see n 0) by omega]; exact hh); rw [show (sqN see n 0) - (q_5 + 1) = (sqN see n 0) - q_5 by omega] at h9; exact h9⟩, hP, hD, hS, (lv_sub hl [0, 3, 4, 5] rfl)⟩
  · have c_4 : ¬ (zs_2 ≤ g2_3) := fun h => c_4 ((nI_leI (a := zs_2) (b := g2_3) (by omega) (by omega)).mpr h)
    refine lv_iload_n hx hb dX0_reckonStart_16 rfl (lv_at hl 0 rfl) ?_
    refine lv_bipush (v := 8) hx hb dX0_reckonStart_17 (by decide) ?_
    refine lv_icmp_ge (tgt := 41) hx hb dX0_reckonStart_19 (by decide) (fun c_23 => ?_) (fun c_23 => ?_)
    · have c_23 := (nI_leI (a := 8) (b := g2_3) (by omega) (by omega)).mp c_23
      exact absurd c_23 (by omega)
    · have c_23 : ¬ (8 ≤ g2_3) := fun h => c_23 ((nI_leI (a := 8) (b := g2_3) (by omega) (by omega)).mpr h)
      refine lv_aload_n hx hb dX0_reckonStart_22 rfl (lv_at hl 2 rfl) ?_
      refine va_get (D := D) (ci := 0) (v := .ref w4) (C := RX0) (T := TX0) (N := 5) hx hb hts inX0 hown hK hP 5 rfl rfl 4 (by decide) (hts _ tw_272) (fun _ h9 => h9) rfl dX0_reckonStart_23 ?_
      refine lv_iload_n hx hb dX0_reckonStart_26 rfl (lv_at hl 0 rfl) ?_
      refine lv_aload_n hx hb dX0_reckonStart_27 rfl (lv_at hl 2 rfl) ?_
      refine lv_iload_n hx hb dX0_reckonStart_28 rfl (lv_at hl 3 rfl) ?_
      refine lv_iconst (v := 0) hx hb dX0_reckonStart_29 (by decide) ?_
      refine lv_iload_n hx hb dX0_reckonStart_30 rfl (lv_at hl 0 rfl) ?_
      refine ro_i (D := D) (va_runV (As := [.int (nI rn), .int 0, .int (nI g2_3)]) (rest := [.int (nI g2_3), .ref w4]) ⟨hx, hb, hml, hown, hts⟩ ((y_worthOf l D k st lo h0 h1 h2 h3 h4 n see tm g ff fp fl w0 w1 w2 w3 w4 on rn 0 g2_3 (by first | assumption | omega) (by first | assumption | omega) (by first | assumption | omega) (by first | assumption | omega) hl9) H.size) (cwV 3 hts (gV tw_545 tw_546 tw_547 tw_85 tw_548) rfl rfl rfl (by decide +kernel) ⟨Nat.le_of_ble_eq_true rfl, Nat.le_of_ble_eq_true rfl⟩) (pV hS hAlo hlo hP hK (va_Dlo hD hAlo) hZ [0, 1, 2, 3, 4, 5, 6] (by decide) rfl (ci := 0) (q := (RX0, TX0, 5)) (q0 := 5) rfl rfl) rfl rfl hl.1 rfl (lv_room (Nat.le_of_ble_eq_true rfl)) dX0_reckonStart_31 ⟨Nat.le_of_ble_eq_true rfl, Nat.le_of_ble_eq_true rfl⟩) hS hA hP (fun r_24 H locs hw_24 hP hS => ?_)
      try dsimp only at hw_24
      refine va_iast hx hb hK hP hD hS 7 1 rfl rfl (vp_in_nI (by omega) (by decide)) dX0_reckonStart_34 (fun H locs hP hD hS => ?_)
      have hQ9 := pd_mk [(h0, .inr (5, (fX5 h1 h2 h3 h4))), (aI k h1 10 (vv n see tm g)), (aI k h2 24 ff), (aI k h3 24 fp), (aI k h4 4 fl), (w0, .inr (0, (fX0 h0 w1 w2 w3 w4))), (aI k w1 768 on), (aI k w4 8 (upd fo2_3 (Int32.toNatClampNeg (nI g2_3)) r_24))] hP hD
      clear hP hD
      obtain ⟨hP, hD⟩ := hQ9
      rw [nI_clamp (n := g2_3) (by omega)] at hP hD
      have hQ9 := pd_mk [(h0, .inr (5, (fX5 h1 h2 h3 h4))), (aI k h1 10 (vv n see tm g)), (aI k h2 24 ff), (aI k h3 24 fp), (aI k h4 4 fl), (w0, .inr (0, (fX0 h0 w1 w2 w3 w4))), (aI k w1 768 on), (aI k w4 8 (upd fo2_3 g2_3 r_24))] hP hD
      clear hP hD
      obtain ⟨hP, hD⟩ := hQ9
      refine lv_iinc (v := (nI (g2_3 + 1))) (lv' := [(3, .int (nI (g2_3 + 1))), (2, .int (nI zs_2)), (0, .ref w0), (1, .int (nI rn))]) hx hb dX0_reckonStart_35 hl (k := 0) rfl (nI_add g2_3 1) (by decide) rfl (fun ls hl => ?_)
      refine lv_goto (tgt := 11) hx hb dX0_reckonStart_38 (by decide) ?_
      exact ih_3 _ (g2_3 + 1, (upd fo2_3 g2_3 r_24)) _ _ _ (by omega) ⟨rfl, ⟨by omega, la_upd hv_3.2 (hw_24.trans (congrArg (fun z => pW (sdX n see tm g ff fp) rn 0 z g2_3) (hE 0 (by omega) (show 0 < n by omega) g2_3 (show g2_3 < 2 ^ sqN see n 0 by rw [← ezs_2]; omega))))⟩, hP, hD, hS, (lv_sub hl [0, 1, 2, 3] rfl)⟩


set_option maxHeartbeats 4000000 in
set_option maxRecDepth 100000 in
theorem y_reckon (l : Launch) (D : va_G) (k : Nat → ClassId) (st : Nat → Nat) (lo : Nat) (h0 : Nat) (h1 : Nat) (h2 : Nat) (h3 : Nat) (h4 : Nat) (n : Nat) (see : Nat) (tm : Nat) (g : Nat → Int32) (ff : Nat → Int32) (fp : Nat → Int32) (fl : Nat → Int32) (w0 : Nat) (w1 : Nat) (w2 : Nat) (w3 : Nat) (w4 : Nat) (on : Nat → Int32) (sr : Nat → Int32) (en : Nat → Int32) (fo : Nat → Int32) (hn : n ≤ 24) (hsee : see ≤ 2) (htm9 : tm ≤ 3) (hl9 : ∀ r, r < 4 → fl r = pLate (sdX n see tm g ff fp) r) (hok9 : okD (sdX n see tm g ff fp)) (hn1 : 1 ≤ n) : CWv l D k st lo yX0_reckon cX0_reckon 3 none ({ frames := 5, cells := 0, slots := 0, locals := 136 }) 0 0 [.ref w0] [(h0, .inr (5, (fX5 h1 h2 h3 h4))), (aI k h1 10 (vv n see tm g)), (aI k h2 24 ff), (aI k h3 24 fp), (aI k h4 4 fl), (w0, .inr (0, (fX0 h0 w1 w2 w3 w4))), (aI k w1 768 on), (aI k w2 4 sr), (aI k w3 4 en), (aI k w4 8 fo)] (fun (u : (Nat → Int32) × (Nat → Int32) × (Nat → Int32) × (Nat → Int32)) => match u with | (on_, sr_, en_, fo_) => wyOK (sdX n see tm g ff fp) see tm 0 on_ sr_ en_) (fun (u : (Nat → Int32) × (Nat → Int32) × (Nat → Int32) × (Nat → Int32)) => match u with | (on_, sr_, en_, fo_) => [(h0, .inr (5, (fX5 h1 h2 h3 h4))), (aI k h1 10 (vv n see tm g)), (aI k h2 24 ff), (aI k h3 24 fp), (aI k h4 4 fl), (w0, .inr (0, (fX0 h0 w1 w2 w3 w4))), (aI k w1 768 on_), (aI k w2 4 sr_), (aI k w3 4 en_), (aI k w4 8 fo_)]) := by
  intro sz
  refine Met.ofW (cc := cX0_reckon) (maxL := 3) (ret := none) (by decide) rfl ?_
  intro p e s m args below meth c s₁ B hml hv
  obtain ⟨rfl, hsz, hlo, hP, hK, hDL, hZ⟩ := hv
  have hx := B.exec
  have hb := B.bytes
  have hr := B.returns
  have hts := WS_ts B.pre
  have hown : s.vm.findClass RX0 = some m.cls := findClass_of_methodNamed B.named
  have hlocks := B.notSynchronized
  subst hsz
  have hD := hDL.self (sz := s.heap.size)
  have hAlo := A_lo hDL hlo
  generalize hAe : va_A [(h0, .inr (5, (fX5 h1 h2 h3 h4))), (aI k h1 10 (vv n see tm g)), (aI k h2 24 ff), (aI k h3 24 fp), (aI k h4 4 fl), (w0, .inr (0, (fX0 h0 w1 w2 w3 w4))), (aI k w1 768 on), (aI k w2 4 sr), (aI k w3 4 en), (aI k w4 8 fo)] s.heap.size = A at hD hAlo ⊢
  have hA : ∀ q : Nat, s.heap.size ≤ q → A q := fun q h => by rw [← hAe]; exact Or.inr h
  have hS : va_S A s.heap s.heap [] := va_S.rf
  have hl := lv_entry ([.ref w0]) (n := 3) (Nat.le_of_ble_eq_true rfl)
  rw [lg_entry_eq]
  generalize (lg_sl ([.ref w0]) ++ List.replicate (3 - (lg_sl ([.ref w0])).length) Slot.unset).toArray = ls at hl ⊢
  have hl : lv_has ls 3 [(0, .ref w0)] := hl
  refine lv_aload_n hx hb dX0_reckon_0 rfl (lv_at hl 0 rfl) ?_
  refine va_get (D := D) (ci := 0) (v := .ref h0) (C := RX0) (T := TX0) (N := 5) hx hb hts inX0 hown hK hP 5 rfl rfl 0 (by decide) (hts _ tw_266) (fun _ h9 => h9) rfl dX0_reckon_1 ?_
  refine va_get (D := D) (ci := 5) (v := .ref h1) (C := RX5) (T := TX5) (N := 4) hx hb hts inX5 hown hK hP 0 rfl rfl 0 (by decide) (hts _ tw_147) (fun _ h9 => h9) rfl dX0_reckon_4 ?_
  refine lv_bipush (v := 8) hx hb dX0_reckon_7 (by decide) ?_
  refine va_iald hx hb hK hP 1 1 rfl rfl (by unfold vp_in; decide) dX0_reckon_9 ?_
  refine lv_ti (y := (nI tm)) (by rfl) ?_
  refine lv_istore_n (lv' := [(1, .int (nI tm)), (0, .ref w0)]) hx hb dX0_reckon_10 rfl hl (by decide) rfl (fun ls hl => ?_)
  refine W_loop (σ := Nat × (Nat → Int32) × (Nat → Int32) × (Nat → Int32) × (Nat → Int32)) (fun (n_ : Nat) (x_ : Nat × (Nat → Int32) × (Nat → Int32) × (Nat → Int32) × (Nat → Int32)) (H : Heap) (locs : List Loc) (ls : Array Slot) => match x_ with | (q_1, on2_1, sr2_1, en2_1, fo2_1) => n_ = 2 * q_1 ∧ (q_1 ≤ tm + 1 ∧ wyOK (sdX n see tm g ff fp) see tm q_1 on2_1 sr2_1 en2_1) ∧ va_P D classes [(h0, .inr (5, (fX5 h1 h2 h3 h4))), (aI k h1 10 (vv n see tm g)), (aI k h2 24 ff), (aI k h3 24 fp), (aI k h4 4 fl), (w0, .inr (0, (fX0 h0 w1 w2 w3 w4))), (aI k w1 768 on2_1), (aI k w2 4 sr2_1), (aI k w3 4 en2_1), (aI k w4 8 fo2_1)] H ∧ va_D A [(h0, .inr (5, (fX5 h1 h2 h3 h4))), (aI k h1 10 (vv n see tm g)), (aI k h2 24 ff), (aI k h3 24 fp), (aI k h4 4 fl), (w0, .inr (0, (fX0 h0 w1 w2 w3 w4))), (aI k w1 768 on2_1), (aI k w2 4 sr2_1), (aI k w3 4 en2_1), (aI k w4 8 fo2_1)] ∧ va_S A s.heap H locs ∧ lv_has ls 3 [(1, .int (nI q_1 - 1)), (0, .ref w0)]) (fun n_1 x_1 H locs ls hI ih_1 => ?_) _ (tm + 1, on, sr, en, fo) ⟨rfl, ⟨by omega, fun r h1 h2 => absurd h1 (by omega)⟩, hP, hD, hS, (by rw [nI_pred]; exact lv_sub hl [0, 1] rfl)⟩
  obtain ⟨q_1, on2_1, sr2_1, en2_1, fo2_1⟩ := x_1
  obtain ⟨hm_1, hv_1, hP, hD, hS, hl⟩ := hI
  subst hm_1
  rcases q_1 with _ | q_1
  · rw [dn0] at hl
    refine lv_iload_n hx hb dX0_reckon_11 rfl (lv_at hl 0 rfl) ?_
    refine lv_if_lt (tgt := 69) hx hb dX0_reckon_12 (by decide) (fun _ => ?_) (fun h => absurd (by decide) h)
    obtain ⟨hP9, hD9⟩ := pd_sub [(h0, .inr (5, (fX5 h1 h2 h3 h4))), (aI k h1 10 (vv n see tm g)), (aI k h2 24 ff), (aI k h3 24 fp), (aI k h4 4 fl), (w0, .inr (0, (fX0 h0 w1 w2 w3 w4))), (aI k w1 768 on2_1), (aI k w2 4 sr2_1), (aI k w3 4 en2_1), (aI k w4 8 fo2_1)] [0, 1, 2, 3, 4, 5, 6, 7, 8, 9] hP hD (by decide +kernel) rfl
    exact W.vret hx hb hr (fun t ht hW => ⟨⟨(on2_1, sr2_1, en2_1, fo2_1), rfl, hv_1.2, by rw [ht]; exact hP9, hD9⟩, hS.F ht⟩) hS.2.2 dX0_reckon_69
  · rw [nI_pred] at hl
    refine lv_iload_n hx hb dX0_reckon_11 rfl (lv_at hl 0 rfl) ?_
    refine lv_if_lt (tgt := 69) hx hb dX0_reckon_12 (by decide) (fun h => absurd h (nI_pos0 (by omega))) (fun _ => ?_)
    refine lv_aload_n hx hb dX0_reckon_15 rfl (lv_at hl 1 rfl) ?_
    refine va_get (D := D) (ci := 0) (v := .ref w3) (C := RX0) (T := TX0) (N := 5) hx hb hts inX0 hown hK hP 5 rfl rfl 3 (by decide) (hts _ tw_270) (fun _ h9 => h9) rfl dX0_reckon_16 ?_
    refine lv_iload_n hx hb dX0_reckon_19 rfl (lv_at hl 0 rfl) ?_
    refine lv_aload_n hx hb dX0_reckon_20 rfl (lv_at hl 1 rfl) ?_
    refine lv_iload_n hx hb dX0_reckon_21 rfl (lv_at hl 0 rfl) ?_
    refine ro_i (D := D) (va_runV (As := [.int (nI q_1)]) (rest := [.int (nI q_1), .ref w3]) ⟨hx, hb, hml, hown, hts⟩ ((y_reckonEnd l D k st lo h0 h1 h2 h3 h4 n see tm g ff fp fl w0 w1 w2 w3 w4 sr2_1 q_1 (by first | assumption | omega) (by first | assumption | omega) hl9) H.size) (cwV 1 hts (gV tw_516 tw_518 tw_4 tw_85 tw_519) rfl rfl rfl (by decide +kernel) ⟨Nat.le_of_ble_eq_true rfl, Nat.le_of_ble_eq_true rfl⟩) (pV hS hAlo hlo hP hK (va_Dlo hD hAlo) hZ [0, 1, 2, 3, 4, 5, 7] (by decide) rfl (ci := 0) (q := (RX0, TX0, 5)) (q0 := 5) rfl rfl) rfl rfl hl.1 rfl (lv_room (Nat.le_of_ble_eq_true rfl)) dX0_reckon_22 ⟨Nat.le_of_ble_eq_true rfl, Nat.le_of_ble_eq_true rfl⟩) hS hA hP (fun r_2 H locs hw_2 hP hS => ?_)
    try dsimp only at hw_2
    refine va_iast hx hb hK hP hD hS 8 1 rfl rfl (vp_in_nI (by omega) (by decide)) dX0_reckon_25 (fun H locs hP hD hS => ?_)
    have hQ9 := pd_mk [(h0, .inr (5, (fX5 h1 h2 h3 h4))), (aI k h1 10 (vv n see tm g)), (aI k h2 24 ff), (aI k h3 24 fp), (aI k h4 4 fl), (w0, .inr (0, (fX0 h0 w1 w2 w3 w4))), (aI k w1 768 on2_1), (aI k w2 4 sr2_1), (aI k w3 4 (upd en2_1 (Int32.toNatClampNeg (nI q_1)) r_2)), (aI k w4 8 fo2_1)] hP hD
    clear hP hD
    obtain ⟨hP, hD⟩ := hQ9
    rw [nI_clamp (n := q_1) (by omega)] at hP hD
    have hQ9 := pd_mk [(h0, .inr (5, (fX5 h1 h2 h3 h4))), (aI k h1 10 (vv n see tm g)), (aI k h2 24 ff), (aI k h3 24 fp), (aI k h4 4 fl), (w0, .inr (0, (fX0 h0 w1 w2 w3 w4))), (aI k w1 768 on2_1), (aI k w2 4 sr2_1), (aI k w3 4 (upd en2_1 q_1 r_2)), (aI k w4 8 fo2_1)] hP hD
    clear hP hD
    obtain ⟨hP, hD⟩ := hQ9
    have hen_1 : r_2 = pEr (sdX n see tm g ff fp) see tm q_1 := by rw [hw_2]; rcases Nat.lt_or_ge q_1 tm with h | h; rw [if_neg (by omega), (hv_1.2 (q_1 + 1) (by omega) (by omega)).2.1, pEr_ahead h]; rw [if_pos h, show q_1 = tm by omega, pEr_last]
    refine lv_aload_n hx hb dX0_reckon_26 rfl (lv_at hl 1 rfl) ?_
    refine va_get (D := D) (ci := 0) (v := .ref h0) (C := RX0) (T := TX0) (N := 5) hx hb hts inX0 hown hK hP 5 rfl rfl 0 (by decide) (hts _ tw_266) (fun _ h9 => h9) rfl dX0_reckon_27 ?_
    refine ro_i (D := D) (va_runV (As := []) (rest := []) ⟨hx, hb, hml, hown, hts⟩ ((x_doors l D k st lo h0 h1 h2 h3 h4 n see tm g) H.size) (cwV 0 hts (gV tw_531 tw_478 tw_479 tw_81 tw_480) rfl rfl rfl (by decide +kernel) ⟨Nat.le_of_ble_eq_true rfl, Nat.le_of_ble_eq_true rfl⟩) (pV hS hAlo hlo hP hK (va_Dlo hD hAlo) hZ [0, 1] (by decide) rfl (ci := 5) (q := (RX5, TX5, 4)) (q0 := 0) rfl rfl) rfl rfl hl.1 rfl (lv_room (Nat.le_of_ble_eq_true rfl)) dX0_reckon_30 ⟨Nat.le_of_ble_eq_true rfl, Nat.le_of_ble_eq_true rfl⟩) hS hA hP (fun r_4 H locs hw_4 hP hS => ?_)
    try dsimp only at hw_4
    subst hw_4
    refine lv_iconst (v := 1) hx hb dX0_reckon_33 (by decide) ?_
    refine lv_isub hx hb dX0_reckon_34 ?_
    refine lv_ti (y := (nI n - 1)) rfl ?_
    refine lv_istore_n (lv' := [(2, .int (nI n - 1)), (1, .int (nI q_1)), (0, .ref w0)]) hx hb dX0_reckon_35 rfl hl (by decide) rfl (fun ls hl => ?_)
    refine W_loop (σ := Nat × (Nat → Int32)) (fun (n_ : Nat) (x_ : Nat × (Nat → Int32)) (H : Heap) (locs : List Loc) (ls : Array Slot) => match x_ with | (qi_5, on3_5) => n_ = 2 * qi_5 ∧ (qi_5 ≤ n ∧ onOK (sdX n see tm g ff fp) see q_1 ((upd en2_1 q_1 r_2) q_1) qi_5 on3_5 ∧ (∀ x, ¬ (192 * q_1 ≤ x ∧ x < 192 * q_1 + 192) → on3_5 x = on2_1 x)) ∧ va_P D classes [(h0, .inr (5, (fX5 h1 h2 h3 h4))), (aI k h1 10 (vv n see tm g)), (aI k h2 24 ff), (aI k h3 24 fp), (aI k h4 4 fl), (w0, .inr (0, (fX0 h0 w1 w2 w3 w4))), (aI k w1 768 on3_5), (aI k w2 4 sr2_1), (aI k w3 4 (upd en2_1 q_1 r_2)), (aI k w4 8 fo2_1)] H ∧ va_D A [(h0, .inr (5, (fX5 h1 h2 h3 h4))), (aI k h1 10 (vv n see tm g)), (aI k h2 24 ff), (aI k h3 24 fp), (aI k h4 4 fl), (w0, .inr (0, (fX0 h0 w1 w2 w3 w4))), (aI k w1 768 on3_5), (aI k w2 4 sr2_1), (aI k w3 4 (upd en2_1 q_1 r_2)), (aI k w4 8 fo2_1)] ∧ va_S A s.heap H locs ∧ lv_has ls 3 [(2, .int (nI qi_5 - 1)), (1, .int (nI q_1)), (0, .ref w0)]) (fun n_5 x_5 H locs ls hI ih_5 => ?_) _ (n, on2_1) ⟨rfl, ⟨by omega, fun i h1 h2 => absurd h1 (by have h3 : i < n := h2; omega), fun _ _ => rfl⟩, hP, hD, hS, (lv_sub hl [0, 1, 2] rfl)⟩
    obtain ⟨qi_5, on3_5⟩ := x_5
    obtain ⟨hm_5, hv_5, hP, hD, hS, hl⟩ := hI
    subst hm_5
    rcases qi_5 with _ | qi_5
    · rw [dn0] at hl
      refine lv_iload_n hx hb dX0_reckon_36 rfl (lv_at hl 0 rfl) ?_
      refine lv_if_lt (tgt := 52) hx hb dX0_reckon_37 (by decide) (fun _ => ?_) (fun h => absurd (by decide) h)
      refine lv_aload_n hx hb dX0_reckon_52 rfl (lv_at hl 2 rfl) ?_
      refine va_get (D := D) (ci := 0) (v := .ref w2) (C := RX0) (T := TX0) (N := 5) hx hb hts inX0 hown hK hP 5 rfl rfl 2 (by decide) (hts _ tw_268) (fun _ h9 => h9) rfl dX0_reckon_53 ?_
      refine lv_iload_n hx hb dX0_reckon_56 rfl (lv_at hl 1 rfl) ?_
      refine lv_aload_n hx hb dX0_reckon_57 rfl (lv_at hl 2 rfl) ?_
      refine lv_iload_n hx hb dX0_reckon_58 rfl (lv_at hl 1 rfl) ?_
      refine rw_i (D := D) (wr := [(aI k w2 4 sr2_1), (aI k w3 4 (upd en2_1 q_1 r_2))]) (va_runV (As := [.int (nI q_1)]) (rest := [.int (nI q_1), .ref w2]) ⟨hx, hb, hml, hown, hts⟩ ((y_reckonStart l D k st lo h0 h1 h2 h3 h4 n see tm g ff fp fl w0 w1 w2 w3 w4 on3_5 fo2_1 q_1 ((upd en2_1 q_1 r_2) q_1) (by first | assumption | omega) (by first | assumption | omega) (by first | assumption | omega) hl9 hok9 (by first | assumption | omega) hv_5.2.1) H.size) (cwV 1 hts (gV tw_576 tw_578 tw_7 tw_85 tw_579) rfl rfl rfl (by decide +kernel) ⟨Nat.le_of_ble_eq_true rfl, Nat.le_of_ble_eq_true rfl⟩) (pV hS hAlo hlo hP hK (va_Dlo hD hAlo) hZ [0, 1, 2, 3, 4, 5, 6, 9] (by decide) rfl (ci := 0) (q := (RX0, TX0, 5)) (q0 := 5) rfl rfl) rfl rfl hl.1 rfl (lv_room (Nat.le_of_ble_eq_true rfl)) dX0_reckon_59 ⟨Nat.le_of_ble_eq_true rfl, Nat.le_of_ble_eq_true rfl⟩) hS hA hP hD [0, 1, 2, 3, 4, 5, 6, 9] [7, 8] rfl rfl (by decide +kernel) (by decide +kernel) (fun r_6 u H locs hw_6 hP hD hS => ?_)
      obtain ⟨fo__6, rfl⟩ : ∃ z, z = u := ⟨_, rfl⟩
      have hQ9 := pd_mk [(aI k w2 4 sr2_1), (aI k w3 4 (upd en2_1 q_1 r_2)), (h0, .inr (5, (fX5 h1 h2 h3 h4))), (aI k h1 10 (vv n see tm g)), (aI k h2 24 ff), (aI k h3 24 fp), (aI k h4 4 fl), (w0, .inr (0, (fX0 h0 w1 w2 w3 w4))), (aI k w1 768 on3_5), (aI k w4 8 fo__6)] hP hD
      clear hP hD
      obtain ⟨hP, hD⟩ := hQ9
      try dsimp only at hw_6
      refine va_iast hx hb hK hP hD hS 0 1 rfl rfl (vp_in_nI (by omega) (by decide)) dX0_reckon_62 (fun H locs hP hD hS => ?_)
      have hQ9 := pd_mk [(aI k w2 4 (upd sr2_1 (Int32.toNatClampNeg (nI q_1)) r_6)), (aI k w3 4 (upd en2_1 q_1 r_2)), (h0, .inr (5, (fX5 h1 h2 h3 h4))), (aI k h1 10 (vv n see tm g)), (aI k h2 24 ff), (aI k h3 24 fp), (aI k h4 4 fl), (w0, .inr (0, (fX0 h0 w1 w2 w3 w4))), (aI k w1 768 on3_5), (aI k w4 8 fo__6)] hP hD
      clear hP hD
      obtain ⟨hP, hD⟩ := hQ9
      rw [nI_clamp (n := q_1) (by omega)] at hP hD
      have hQ9 := pd_mk [(aI k w2 4 (upd sr2_1 q_1 r_6)), (aI k w3 4 (upd en2_1 q_1 r_2)), (h0, .inr (5, (fX5 h1 h2 h3 h4))), (aI k h1 10 (vv n see tm g)), (aI k h2 24 ff), (aI k h3 24 fp), (aI k h4 4 fl), (w0, .inr (0, (fX0 h0 w1 w2 w3 w4))), (aI k w1 768 on3_5), (aI k w4 8 fo__6)] hP hD
      clear hP hD
      obtain ⟨hP, hD⟩ := hQ9
      refine lv_iinc (v := (nI q_1 - 1)) (lv' := [(1, .int (nI q_1 - 1)), (2, .int (-1)), (0, .ref w0)]) hx hb dX0_reckon_63 hl (k := 1) rfl (dn1 _) (by decide) rfl (fun ls hl => ?_)
      refine lv_goto (tgt := 11) hx hb dX0_reckon_66 (by decide) ?_
      exact ih_1 _ (q_1, on3_5, (upd sr2_1 q_1 r_6), (upd en2_1 q_1 r_2), fo__6) _ _ _ (by omega) ⟨rfl, ⟨by omega, wy_step (show n ≤ 24 by omega) hsee (by omega) hv_1.2 hen_1 (by have h9 := hv_5.2.1; exact h9) hv_5.2.2 hw_6⟩, (hP.sub [2, 3, 4, 5, 6, 7, 8, 0, 1, 9] rfl), (hD.sub [2, 3, 4, 5, 6, 7, 8, 0, 1, 9] (by decide +kernel) rfl), hS, (lv_sub hl [0, 2] rfl)⟩
    · rw [nI_pred] at hl
      refine lv_iload_n hx hb dX0_reckon_36 rfl (lv_at hl 0 rfl) ?_
      refine lv_if_lt (tgt := 52) hx hb dX0_reckon_37 (by decide) (fun h => absurd h (nI_pos0 (by omega))) (fun _ => ?_)
      refine lv_aload_n hx hb dX0_reckon_40 rfl (lv_at hl 2 rfl) ?_
      refine lv_iload_n hx hb dX0_reckon_41 rfl (lv_at hl 1 rfl) ?_
      refine lv_iload_n hx hb dX0_reckon_42 rfl (lv_at hl 0 rfl) ?_
      refine rw_v (D := D) (wr := [(aI k w2 4 sr2_1), (aI k w4 8 fo2_1)]) (va_runV (As := [.int (nI q_1), .int (nI qi_5)]) (rest := []) ⟨hx, hb, hml, hown, hts⟩ ((y_reckonDoor l D k st lo h0 h1 h2 h3 h4 n see tm g ff fp fl w0 w1 w2 w3 w4 on3_5 (upd en2_1 q_1 r_2) q_1 qi_5 (by first | assumption | omega) (by first | assumption | omega) (by first | assumption | omega) (by first | assumption | omega) hl9 hok9 hv_5.2.1) H.size) (cwV 2 hts (gV tw_532 tw_534 tw_5 tw_85 tw_535) rfl rfl rfl (by decide +kernel) ⟨Nat.le_of_ble_eq_true rfl, Nat.le_of_ble_eq_true rfl⟩) (pV hS hAlo hlo hP hK (va_Dlo hD hAlo) hZ [0, 1, 2, 3, 4, 5, 6, 8] (by decide) rfl (ci := 0) (q := (RX0, TX0, 5)) (q0 := 5) rfl rfl) rfl rfl hl.1 rfl (lv_room (Nat.le_of_ble_eq_true rfl)) dX0_reckon_43 ⟨Nat.le_of_ble_eq_true rfl, Nat.le_of_ble_eq_true rfl⟩) hS hA hP hD [0, 1, 2, 3, 4, 5, 6, 8] [7, 9] rfl rfl (by decide +kernel) (by decide +kernel) (fun u H locs hw_8 hP hD hS => ?_)
      obtain ⟨on__8, rfl⟩ : ∃ z, z = u := ⟨_, rfl⟩
      have hQ9 := pd_mk [(aI k w2 4 sr2_1), (aI k w4 8 fo2_1), (h0, .inr (5, (fX5 h1 h2 h3 h4))), (aI k h1 10 (vv n see tm g)), (aI k h2 24 ff), (aI k h3 24 fp), (aI k h4 4 fl), (w0, .inr (0, (fX0 h0 w1 w2 w3 w4))), (aI k w1 768 on__8), (aI k w3 4 (upd en2_1 q_1 r_2))] hP hD
      clear hP hD
      obtain ⟨hP, hD⟩ := hQ9
      try dsimp only at hw_8
      refine lv_iinc (v := (nI qi_5 - 1)) (lv' := [(2, .int (nI qi_5 - 1)), (1, .int (nI q_1)), (0, .ref w0)]) hx hb dX0_reckon_46 hl (k := 0) rfl (dn1 _) (by decide) rfl (fun ls hl => ?_)
      refine lv_goto (tgt := 36) hx hb dX0_reckon_49 (by decide) ?_
      exact ih_5 _ (qi_5, on__8) _ _ _ (by omega) ⟨rfl, ⟨by omega, hw_8.1, fun x hx => (hw_8.2 x hx).trans (hv_5.2.2 x hx)⟩, (hP.sub [2, 3, 4, 5, 6, 7, 8, 0, 9, 1] rfl), (hD.sub [2, 3, 4, 5, 6, 7, 8, 0, 9, 1] (by decide +kernel) rfl), hS, (lv_sub hl [0, 1, 2] rfl)⟩

theorem f_glueP16 : True := trivial
/-! the reference's rows -/
def wwOK (d : SDt) (see r : Nat) (E : Int32) (i0 : Nat) (wo : Nat → Int32) : Prop := ∀ i, i0 ≤ i → i < d.1 → ∀ g, g < 2 ^ sqN see d.1 i → wo (slN r i g) = pWo d see r E i g
theorem ww_step {d : SDt} {see r i g : Nat} {E x : Int32} {on : Nat → Int32} (hn : d.1 ≤ 24) (hs : see ≤ 2) (hi : i < d.1) (hg : g < 8) (h1 : wwOK d see r E (i + 1) on) (h2 : ∀ h, h < g → on (slN r i h) = pWo d see r E i h) (hx : x = pWo d see r E i g) : wwOK d see r E (i + 1) (upd on (slN r i g) x) ∧ ∀ h, h < g + 1 → upd on (slN r i g) x (slN r i h) = pWo d see r E i h := by
  refine ⟨fun j hj hj2 h hh => ?_, fun h hh => ?_⟩
  · have h8 := (p8 (sq_le (n := d.1) (i := j) hs)).2
    rw [pk_un (by unfold slN; omega)]
    exact h1 j hj hj2 h hh
  · by_cases e : h = g
    · rw [e, pk_us]
      exact hx
    · rw [pk_un (by unfold slN; omega)]
      exact h2 h (by omega)
theorem ww_door {d : SDt} {see r i m : Nat} {E : Int32} {on : Nat → Int32} (hm : m = 2 ^ sqN see d.1 i) (h1 : wwOK d see r E (i + 1) on) (h2 : ∀ h, h < m → on (slN r i h) = pWo d see r E i h) : wwOK d see r E i on := by
  intro j hj hj2 h hh
  rcases Nat.eq_or_lt_of_le hj with e | e
  · subst e
    exact h2 h (by rw [hm]; exact hh)
  · exact h1 j e hj2 h hh
theorem ww_other {d : SDt} {see r q : Nat} {E : Int32} {on on2 : Nat → Int32} (hn : d.1 ≤ 24) (hs : see ≤ 2) (h : ∀ x, ¬ (192 * q ≤ x ∧ x < 192 * q + 192) → on2 x = on x) (hr : r ≠ q) (h1 : wwOK d see r E 0 on) : wwOK d see r E 0 on2 := by
  intro i hi hi2 g hg
  have h8 := (p8 (sq_le (n := d.1) (i := i) hs)).2
  rw [h _ (by unfold slN; omega)]
  exact h1 i hi hi2 g hg
/-- goes round, as a row holds it -/
def grV (d : SDt) (see tm r : Nat) : Int32 := if pEr d see tm r < pGar d r then 1 else 0
def wmOK (d : SDt) (see tm r0 : Nat) (on wo sr en gr : Nat → Int32) : Prop := ∀ r, r0 ≤ r → r ≤ tm → en r = pEr d see tm r ∧ sr r = pSr d see tm r ∧ gr r = grV d see tm r ∧ onOK d see r (pEr d see tm r) 0 on ∧ wwOK d see r (pEr d see tm r) 0 wo
theorem gr_of {a b : Int32} : (pMn a b < a ↔ b < a) := by
  unfold pMn
  by_cases h : b < a
  · rw [if_pos h]
  · rw [if_neg h]
    exact ⟨fun q => absurd q Int32.lt_irrefl, fun q => absurd q h⟩
theorem nxm_1 {d : SDt} {see i g : Nat} {W : Nat → Int32} {c a b q : Int32} (h : i + 1 + see < d.1) (hc : c = pChance d (i + 1 + see) (pb (pBit g see))) (ha : a = W (g / 2 + 2 ^ see)) (hb : b = W (g / 2)) (hq : q = fM_mixed c a b) : q = pNx d see i W g :=
  nx_1 h hc ha hb (hq.trans (mix_same (by rw [hc]; exact pCh_in)).symm)
theorem pbm_1 {g k : Nat} (hk : k < 3) (hg : g < 8) (h : (nI g >>> (nI k &&& 31)) &&& 1 = 1) : pb (pBit g k) = 1 := by
  rw [((bt_shr k hk g hg).2).mp h]
  rfl
theorem pbm_0 {g k : Nat} (hk : k < 3) (hg : g < 8) (h : ¬ (nI g >>> (nI k &&& 31)) &&& 1 = 1) : pb (pBit g k) = 0 := by
  rcases hb : pBit g k with _ | _
  · rfl
  · exact absurd (((bt_shr k hk g hg).2).mpr hb) h
theorem ahm_1 {g k : Nat} (hk : k < 3) (hk0 : 0 < k) (hg : g < 8) (h : (nI g >>> (nI (k - 1) &&& 31)) &&& 1 = 1) : pAh g k = 1 :=
  ah_1 hk hk0 hg (by rw [h]; decide)
theorem ahm_0 {g k : Nat} (hk : k < 3) (hg : g < 8) (h : ¬ (nI g >>> (nI (k - 1) &&& 31)) &&& 1 = 1) : pAh g k = 0 := by
  refine ah_0 hk hg ?_
  rcases and1_01 (nI g >>> (nI (k - 1) &&& 31)) with e | e
  · exact e
  · exact absurd e h
theorem pWm_1 {d : SDt} {r i g : Nat} {on t : Int32} (hg : g < 8) (h : nI g &&& 1 = 1) (ht : t = pTake d r i) (hc : t ≤ on) : t = pW d r i on g := by
  unfold pW
  rw [if_pos (((ev_and g hg).2).mp h), ← ht, ← pMn_le, if_pos hc]
theorem pWm_2 {d : SDt} {r i g : Nat} {on t : Int32} (hg : g < 8) (h : nI g &&& 1 = 1) (ht : t = pTake d r i) (hc : ¬ t ≤ on) : on = pW d r i on g := by
  unfold pW
  rw [if_pos (((ev_and g hg).2).mp h), ← ht, ← pMn_le, if_neg hc]
theorem pWm_0 {d : SDt} {r i g : Nat} {on : Int32} (hg : g < 8) (h : ¬ nI g &&& 1 = 1) : on = pW d r i on g := by
  unfold pW
  rw [if_neg (fun q => h (((ev_and g hg).2).mpr q))]
theorem wm_step {d : SDt} {see tm r : Nat} {on on2 wo wo2 sr en gr : Nat → Int32} {x s y : Int32} (hn : d.1 ≤ 24) (hs : see ≤ 2) (hr : r ≤ tm) (h : wmOK d see tm (r + 1) on wo sr en gr) (hx : x = pEr d see tm r) (hy : y = grV d see tm r) (h1 : onOK d see r x 0 on2) (h2 : wwOK d see r x 0 wo2) (ho : ∀ y, ¬ (192 * r ≤ y ∧ y < 192 * r + 192) → on2 y = on y) (hw : ∀ y, ¬ (192 * r ≤ y ∧ y < 192 * r + 192) → wo2 y = wo y) (hsv : s = pSv d see r x) : wmOK d see tm r on2 wo2 (upd sr r s) (upd en r x) (upd gr r y) := by
  intro q hq hq2
  rcases Nat.eq_or_lt_of_le hq with e | e
  · subst e
    rw [pk_us, pk_us, pk_us, hsv, hy]
    rw [hx] at h1 h2 ⊢
    exact ⟨rfl, (pSr_of hr).symm, rfl, h1, h2⟩
  · rw [pk_un (by omega), pk_un (by omega), pk_un (by omega)]
    obtain ⟨a1, a2, a3, a4, a5⟩ := h q e hq2
    exact ⟨a1, a2, a3, on_other hn hs ho (by omega) a4, ww_other hn hs hw (by omega) a5⟩
theorem mPass {dn se tm : Nat → Nat} {gs ffr fpr : Nat → Int32} {s : Nat} : sg se tm gs (9 * s + 2) * 1000 = pPass (sdM dn (sg se tm gs) ffr fpr s) := by
  unfold pPass
  rw [gM' (by omega) (by omega)]
theorem mRnd {dn se tm : Nat → Nat} {gs ffr fpr : Nat → Int32} {s : Nat} : sg se tm gs (9 * s + 2) * sg se tm gs (9 * s + 6) * 1000 = pRnd (sdM dn (sg se tm gs) ffr fpr s) := by
  unfold pRnd
  rw [gM' (by omega) (by omega), gM' (by omega) (by omega)]


set_option maxHeartbeats 4000000 in
set_option maxRecDepth 100000 in
theorem n_seen (l : Launch) (D : va_G) (k : Nat → ClassId) (st : Nat → Nat) (lo : Nat) (a : Nat → Nat) (tx : Nat) (t0 : Nat) (we : Nat) (rd : Nat) (ru : Nat) (rw : Nat) (ca : Nat) (fp : Int32) (wd : Int64) (nu : Int32) (na : Int32) (ts : Int32) (df : Int32) (db : Int32) (sd : Int32) (dn : Nat → Nat) (se : Nat → Nat) (tm : Nat → Nat) (gs : Nat → Int32) (sn : Nat) (i : Nat) (hdn : ∀ j, dn j ≤ 24) (hse : ∀ j, se j ≤ 2) (hs : sn < 3) (hi : i ≤ dn sn) : CRi l D k st lo yX8_seen cX8_seen 4 (some .int) ({ frames := 1, cells := 0, slots := 0, locals := 22 }) [.ref (a 0), .int (nI sn), .int (nI i)] [((a 0), .inr (8, (fX8 a (nI tx) fp (nI t0) wd (nI we) nu na (nI rd) ts (nI ru) (nI rw) (nI ca) df db sd))), (aI k (a 1) 3 (nF dn)), (aI k (a 4) 27 (sg se tm gs))] (fun r => r = nI (sqN (se sn) (dn sn) i)) := by
  intro sz
  refine Met.ofW (cc := cX8_seen) (maxL := 4) (ret := (some .int)) (by decide) rfl ?_
  intro p e s m args below meth c s₁ B hml hv
  obtain ⟨rfl, hsz, hlo, hP, hK, hDL, hZ⟩ := hv
  have hx := B.exec
  have hb := B.bytes
  have hr := B.returns
  have hts := WS_ts B.pre
  have hown : s.vm.findClass RX8 = some m.cls := findClass_of_methodNamed B.named
  have hlocks := B.notSynchronized
  subst hsz
  have hA : ∀ q : Nat, s.heap.size ≤ q → (fun q : Nat => s.heap.size ≤ q) q := fun _ h => h
  have hAlo : ∀ q : Nat, (fun q : Nat => s.heap.size ≤ q) q → lo ≤ q := fun q h => Nat.le_trans hlo h
  have hS : va_S (fun q : Nat => s.heap.size ≤ q) s.heap s.heap [] := va_S.rf
  have hl := lv_entry ([.ref (a 0), .int (nI sn), .int (nI i)]) (n := 4) (Nat.le_of_ble_eq_true rfl)
  rw [lg_entry_eq]
  generalize (lg_sl ([.ref (a 0), .int (nI sn), .int (nI i)]) ++ List.replicate (4 - (lg_sl ([.ref (a 0), .int (nI sn), .int (nI i)])).length) Slot.unset).toArray = ls at hl ⊢
  have hl : lv_has ls 4 [(0, .ref (a 0)), (1, .int (nI sn)), (2, .int (nI i))] := hl
  have hd_9 := hdn sn
  have hd_8 := hse sn
  refine lv_aload_n hx hb dX8_seen_0 rfl (lv_at hl 0 rfl) ?_
  refine va_get (D := D) (ci := 8) (v := .ref (a 1)) (C := RX8) (T := TX8) (N := 44) hx hb hts inX8 hown hK hP 0 rfl rfl 0 (by decide) (hts _ tw_973) (fun _ h9 => h9) rfl dX8_seen_1 ?_
  refine lv_iload_n hx hb dX8_seen_4 rfl (lv_at hl 1 rfl) ?_
  refine va_iald hx hb hK hP 1 1 rfl rfl (vp_in_nI (by omega) (by decide)) dX8_seen_5 ?_
  refine lv_ti (y := (nI (dn sn))) (by rw [nI_clamp (by omega)]; rfl) ?_
  refine lv_iload_n hx hb dX8_seen_6 rfl (lv_at hl 2 rfl) ?_
  refine lv_isub hx hb dX8_seen_7 ?_
  refine lv_ti (y := (nI ((dn sn) - i))) (pk_sub (a := (dn sn)) (b := i) (by omega)) ?_
  refine lv_istore_n (lv' := [(3, .int (nI ((dn sn) - i))), (0, .ref (a 0)), (1, .int (nI sn)), (2, .int (nI i))]) hx hb dX8_seen_8 rfl hl (by decide) rfl (fun ls hl => ?_)
  refine lv_iload_n hx hb dX8_seen_9 rfl (lv_at hl 0 rfl) ?_
  refine lv_aload_n hx hb dX8_seen_10 rfl (lv_at hl 1 rfl) ?_
  refine lv_iload_n hx hb dX8_seen_11 rfl (lv_at hl 2 rfl) ?_
  refine lv_iconst (v := 5) hx hb dX8_seen_12 (by decide) ?_
  refine ro_i (D := D) (va_runV (As := [.int (nI sn), .int 5]) (rest := [.int (nI ((dn sn) - i))]) ⟨hx, hb, hml, hown, hts⟩ ((m_of l D k st lo a tx t0 we rd ru rw ca fp wd nu na ts df db sd se tm gs sn 5 (by first | assumption | omega) (by first | assumption | omega)) s.heap.size) (cwV 2 hts (gV tw_1194 tw_1196 tw_39 tw_87 tw_1197) rfl rfl rfl (by decide +kernel) ⟨Nat.le_of_ble_eq_true rfl, Nat.le_of_ble_eq_true rfl⟩) (pV hS hAlo hlo hP hK hDL hZ [0, 2] (by decide) rfl (ci := 8) (q := (RX8, TX8, 44)) (q0 := 0) rfl rfl) rfl rfl hl.1 rfl (lv_room (Nat.le_of_ble_eq_true rfl)) dX8_seen_13 ⟨Nat.le_of_ble_eq_true rfl, Nat.le_of_ble_eq_true rfl⟩) hS hA hP (fun r_1 H locs hw_1 hP hS => ?_)
  try dsimp only at hw_1
  obtain rfl := hw_1.trans (sg_se _ _ _ _)
  refine lv_iconst (v := 1) hx hb dX8_seen_16 (by decide) ?_
  refine lv_iadd hx hb dX8_seen_17 ?_
  refine lv_ti (y := (nI (se sn + 1))) (nI_add (se sn) 1) ?_
  refine lv_icmp_ge (tgt := 25) hx hb dX8_seen_18 (by decide) (fun c_2 => ?_) (fun c_2 => ?_)
  · have c_2 := (nI_leI (a := (se sn + 1)) (b := ((dn sn) - i)) (by omega) (by omega)).mp c_2
    refine lv_aload_n hx hb dX8_seen_25 rfl (lv_at hl 1 rfl) ?_
    refine lv_iload_n hx hb dX8_seen_26 rfl (lv_at hl 2 rfl) ?_
    refine lv_iconst (v := 5) hx hb dX8_seen_27 (by decide) ?_
    refine ro_i (D := D) (va_runV (As := [.int (nI sn), .int 5]) (rest := []) ⟨hx, hb, hml, hown, hts⟩ ((m_of l D k st lo a tx t0 we rd ru rw ca fp wd nu na ts df db sd se tm gs sn 5 (by first | assumption | omega) (by first | assumption | omega)) H.size) (cwV 2 hts (gV tw_1194 tw_1196 tw_39 tw_87 tw_1197) rfl rfl rfl (by decide +kernel) ⟨Nat.le_of_ble_eq_true rfl, Nat.le_of_ble_eq_true rfl⟩) (pV hS hAlo hlo hP hK hDL hZ [0, 2] (by decide) rfl (ci := 8) (q := (RX8, TX8, 44)) (q0 := 0) rfl rfl) rfl rfl hl.1 rfl (lv_room (Nat.le_of_ble_eq_true rfl)) dX8_seen_28 ⟨Nat.le_of_ble_eq_true rfl, Nat.le_of_ble_eq_true rfl⟩) hS hA hP (fun r_3 H locs hw_3 hP hS => ?_)
    try dsimp only at hw_3
    obtain rfl := hw_3.trans (sg_se _ _ _ _)
    refine lv_iconst (v := 1) hx hb dX8_seen_31 (by decide) ?_
    refine lv_iadd hx hb dX8_seen_32 ?_
    refine lv_ti (y := (nI (se sn + 1))) (nI_add (se sn) 1) ?_
    exact W.iret (v := (nI (se sn + 1))) hx hb hr (fun t ht hW => ⟨⟨(nI (se sn + 1)), (), rfl, (congrArg nI (by unfold sqN; omega)), trivial⟩, hS.F ht⟩) hS.2.2 dX8_seen_33
  · have c_2 : ¬ ((se sn + 1) ≤ ((dn sn) - i)) := fun h => c_2 ((nI_leI (a := (se sn + 1)) (b := ((dn sn) - i)) (by omega) (by omega)).mpr h)
    refine lv_iload_n hx hb dX8_seen_21 rfl (lv_at hl 0 rfl) ?_
    refine lv_goto (tgt := 33) hx hb dX8_seen_22 (by decide) ?_
    exact W.iret (v := (nI ((dn sn) - i))) hx hb hr (fun t ht hW => ⟨⟨(nI ((dn sn) - i)), (), rfl, (congrArg nI (by unfold sqN; omega)), trivial⟩, hS.F ht⟩) hS.2.2 dX8_seen_33


set_option maxHeartbeats 4000000 in
set_option maxRecDepth 100000 in
theorem n_on (l : Launch) (D : va_G) (k : Nat → ClassId) (st : Nat → Nat) (lo : Nat) (a : Nat → Nat) (tx : Nat) (t0 : Nat) (we : Nat) (rd : Nat) (ru : Nat) (rw : Nat) (ca : Nat) (fp : Int32) (wd : Int64) (nu : Int32) (na : Int32) (ts : Int32) (df : Int32) (db : Int32) (sd : Int32) (dn : Nat → Nat) (se : Nat → Nat) (tm : Nat → Nat) (gs : Nat → Int32) (ffrees : Nat → Int32) (fprices : Nat → Int32) (fworths : Nat → Int32) (sn : Nat) (rn : Nat) (i : Nat) (g : Nat) (hdn : ∀ j, dn j ≤ 24) (hse : ∀ j, se j ≤ 2) (hs : sn < 3) (hrn : rn ≤ 3) (hi : i + 1 < dn sn) (hg : g < 2 ^ sqN (se sn) (dn sn) i) (hg8 : g < 8) : CRi l D k st lo yX8_on cX8_on 9 (some .int) ({ frames := 2, cells := 0, slots := 0, locals := 47 }) [.ref (a 0), .int (nI sn), .int (nI rn), .int (nI i), .int (nI g)] [((a 0), .inr (8, (fX8 a (nI tx) fp (nI t0) wd (nI we) nu na (nI rd) ts (nI ru) (nI rw) (nI ca) df db sd))), (aI k (a 1) 3 (nF dn)), (aI k (a 4) 27 (sg se tm gs)), (aI k (a 2) 72 ffrees), (aI k (a 3) 72 fprices), (aI k (a 19) 768 fworths)] (fun r => r = pNx (sdM dn (sg se tm gs) ffrees fprices sn) (se sn) i (fun h => fworths (slN rn (i + 1) h)) g) := by
  intro sz
  refine Met.ofW (cc := cX8_on) (maxL := 9) (ret := (some .int)) (by decide) rfl ?_
  intro p e s m args below meth c s₁ B hml hv
  obtain ⟨rfl, hsz, hlo, hP, hK, hDL, hZ⟩ := hv
  have hx := B.exec
  have hb := B.bytes
  have hr := B.returns
  have hts := WS_ts B.pre
  have hown : s.vm.findClass RX8 = some m.cls := findClass_of_methodNamed B.named
  have hlocks := B.notSynchronized
  subst hsz
  have hA : ∀ q : Nat, s.heap.size ≤ q → (fun q : Nat => s.heap.size ≤ q) q := fun _ h => h
  have hAlo : ∀ q : Nat, (fun q : Nat => s.heap.size ≤ q) q → lo ≤ q := fun q h => Nat.le_trans hlo h
  have hS : va_S (fun q : Nat => s.heap.size ≤ q) s.heap s.heap [] := va_S.rf
  have hl := lv_entry ([.ref (a 0), .int (nI sn), .int (nI rn), .int (nI i), .int (nI g)]) (n := 9) (Nat.le_of_ble_eq_true rfl)
  rw [lg_entry_eq]
  generalize (lg_sl ([.ref (a 0), .int (nI sn), .int (nI rn), .int (nI i), .int (nI g)]) ++ List.replicate (9 - (lg_sl ([.ref (a 0), .int (nI sn), .int (nI rn), .int (nI i), .int (nI g)])).length) Slot.unset).toArray = ls at hl ⊢
  have hl : lv_has ls 9 [(0, .ref (a 0)), (1, .int (nI sn)), (2, .int (nI rn)), (3, .int (nI i)), (4, .int (nI g))] := hl
  have hd_9 := hdn sn
  have hd_8 := hse sn
  refine lv_aload_n hx hb dX8_on_0 rfl (lv_at hl 0 rfl) ?_
  refine lv_iload_n hx hb dX8_on_1 rfl (lv_at hl 1 rfl) ?_
  refine lv_iconst (v := 5) hx hb dX8_on_2 (by decide) ?_
  refine ro_i (D := D) (va_runV (As := [.int (nI sn), .int 5]) (rest := []) ⟨hx, hb, hml, hown, hts⟩ ((m_of l D k st lo a tx t0 we rd ru rw ca fp wd nu na ts df db sd se tm gs sn 5 (by first | assumption | omega) (by first | assumption | omega)) s.heap.size) (cwV 2 hts (gV tw_1194 tw_1196 tw_39 tw_87 tw_1197) rfl rfl rfl (by decide +kernel) ⟨Nat.le_of_ble_eq_true rfl, Nat.le_of_ble_eq_true rfl⟩) (pV hS hAlo hlo hP hK hDL hZ [0, 2] (by decide) rfl (ci := 8) (q := (RX8, TX8, 44)) (q0 := 0) rfl rfl) rfl rfl hl.1 rfl (lv_room (Nat.le_of_ble_eq_true rfl)) dX8_on_3 ⟨Nat.le_of_ble_eq_true rfl, Nat.le_of_ble_eq_true rfl⟩) hS hA hP (fun r_1 H locs hw_1 hP hS => ?_)
  try dsimp only at hw_1
  obtain rfl := hw_1.trans (sg_se _ _ _ _)
  refine lv_istore (lv' := [(5, .int (nI (se sn))), (0, .ref (a 0)), (1, .int (nI sn)), (2, .int (nI rn)), (3, .int (nI i)), (4, .int (nI g))]) hx hb dX8_on_6 hl (by decide) rfl (fun ls hl => ?_)
  refine lv_iload_n hx hb dX8_on_8 rfl (lv_at hl 4 rfl) ?_
  refine lv_iconst (v := 1) hx hb dX8_on_9 (by decide) ?_
  refine lv_iadd hx hb dX8_on_10 ?_
  refine lv_ti (y := (nI (i + 1))) (nI_add i 1) ?_
  refine lv_iload hx hb dX8_on_11 (lv_at hl 0 rfl) ?_
  refine lv_iadd hx hb dX8_on_13 ?_
  refine lv_ti (y := (nI (i + 1 + se sn))) (nI_add (i + 1) (se sn)) ?_
  refine lv_istore (lv' := [(6, .int (nI (i + 1 + se sn))), (5, .int (nI (se sn))), (0, .ref (a 0)), (1, .int (nI sn)), (2, .int (nI rn)), (3, .int (nI i)), (4, .int (nI g))]) hx hb dX8_on_14 hl (by decide) rfl (fun ls hl => ?_)
  refine lv_iload hx hb dX8_on_16 (lv_at hl 6 rfl) ?_
  refine lv_iconst (v := 1) hx hb dX8_on_18 (by decide) ?_
  refine lv_ishr hx hb dX8_on_19 ?_
  refine lv_ti (y := (nI (g / 2))) (pk_shrN (by omega) _ 1 (by decide)) ?_
  refine lv_istore (lv' := [(7, .int (nI (g / 2))), (6, .int (nI (i + 1 + se sn))), (5, .int (nI (se sn))), (0, .ref (a 0)), (1, .int (nI sn)), (2, .int (nI rn)), (3, .int (nI i)), (4, .int (nI g))]) hx hb dX8_on_20 hl (by decide) rfl (fun ls hl => ?_)
  refine lv_iload hx hb dX8_on_22 (lv_at hl 1 rfl) ?_
  refine lv_aload_n hx hb dX8_on_24 rfl (lv_at hl 3 rfl) ?_
  refine va_get (D := D) (ci := 8) (v := .ref (a 1)) (C := RX8) (T := TX8) (N := 44) hx hb hts inX8 hown hK hP 0 rfl rfl 0 (by decide) (hts _ tw_973) (fun _ h9 => h9) rfl dX8_on_25 ?_
  refine lv_iload_n hx hb dX8_on_28 rfl (lv_at hl 4 rfl) ?_
  refine va_iald hx hb hK hP 1 1 rfl rfl (vp_in_nI (by omega) (by decide)) dX8_on_29 ?_
  refine lv_ti (y := (nI (dn sn))) (by rw [nI_clamp (by omega)]; rfl) ?_
  refine lv_icmp_lt (tgt := 48) hx hb dX8_on_30 (by decide) (fun c_2 => ?_) (fun c_2 => ?_)
  · have c_2 := (nI_ltI (a := (i + 1 + se sn)) (b := (dn sn)) (by omega) (by omega)).mp c_2
    have hgh_9 : g / 2 < 2 ^ se sn := half_lt (by rw [← (sq_in (show i + 1 + se sn < dn sn by omega)).1]; exact hg)
    have hp5_9 := pw4 (show se sn ≤ 2 by omega)
    refine lv_aload_n hx hb dX8_on_48 rfl (lv_at hl 3 rfl) ?_
    refine lv_iload_n hx hb dX8_on_49 rfl (lv_at hl 4 rfl) ?_
    refine lv_iload hx hb dX8_on_50 (lv_at hl 1 rfl) ?_
    refine lv_iload hx hb dX8_on_52 (lv_at hl 7 rfl) ?_
    refine lv_iload hx hb dX8_on_54 (lv_at hl 2 rfl) ?_
    refine lv_ishr hx hb dX8_on_56 ?_
    refine lv_topi (fun x_3 ex_3 => ?_)
    refine lv_iconst (v := 1) hx hb dX8_on_57 (by decide) ?_
    refine lv_iand hx hb dX8_on_58 ?_
    refine lv_topi (fun x_4 ex_4 => ?_)
    refine lv_iconst (v := 1) hx hb dX8_on_59 (by decide) ?_
    refine lv_icmp_ne (tgt := 67) hx hb dX8_on_60 (by decide) (fun c_5 => ?_) (fun c_5 => ?_)
    · rw [ex_4, ex_3] at c_5
      refine lv_iconst (v := 0) hx hb dX8_on_67 (by decide) ?_
      refine ro_i (D := D) (va_runV (As := [.int (nI sn), .int (nI (i + 1 + se sn)), .int 0]) (rest := []) ⟨hx, hb, hml, hown, hts⟩ ((n_chanceOf l D k st lo a tx t0 we rd ru rw ca fp wd nu na ts df db sd ffrees se tm gs sn (i + 1 + se sn) 0 (by first | assumption | omega) (by first | assumption | omega)) H.size) (cwV 3 hts (gV tw_1210 tw_1212 tw_41 tw_87 tw_1213) rfl rfl rfl (by decide +kernel) ⟨Nat.le_of_ble_eq_true rfl, Nat.le_of_ble_eq_true rfl⟩) (pV hS hAlo hlo hP hK hDL hZ [0, 3, 2] (by decide) rfl (ci := 8) (q := (RX8, TX8, 44)) (q0 := 0) rfl rfl) rfl rfl hl.1 rfl (lv_room (Nat.le_of_ble_eq_true rfl)) dX8_on_68 ⟨Nat.le_of_ble_eq_true rfl, Nat.le_of_ble_eq_true rfl⟩) hS hA hP (fun r_6 H locs hw_6 hP hS => ?_)
      try dsimp only at hw_6
      refine lv_istore (lv' := [(8, .int r_6), (7, .int (nI (g / 2))), (6, .int (nI (i + 1 + se sn))), (5, .int (nI (se sn))), (0, .ref (a 0)), (1, .int (nI sn)), (2, .int (nI rn)), (3, .int (nI i)), (4, .int (nI g))]) hx hb dX8_on_71 hl (by decide) rfl (fun ls hl => ?_)
      refine lv_iload hx hb dX8_on_73 (lv_at hl 0 rfl) ?_
      refine lv_aload_n hx hb dX8_on_75 rfl (lv_at hl 4 rfl) ?_
      refine va_get (D := D) (ci := 8) (v := .ref (a 19)) (C := RX8) (T := TX8) (N := 44) hx hb hts inX8 hown hK hP 0 rfl rfl 18 (by decide) (hts _ tw_991) (fun _ h9 => h9) rfl dX8_on_76 ?_
      refine lv_iload_n hx hb dX8_on_79 rfl (lv_at hl 6 rfl) ?_
      refine lv_iload_n hx hb dX8_on_80 rfl (lv_at hl 7 rfl) ?_
      refine lv_iconst (v := 1) hx hb dX8_on_81 (by decide) ?_
      refine lv_iadd hx hb dX8_on_82 ?_
      refine lv_ti (y := (nI (i + 1))) (nI_add i 1) ?_
      refine lv_iload hx hb dX8_on_83 (lv_at hl 1 rfl) ?_
      refine lv_iconst (v := 1) hx hb dX8_on_85 (by decide) ?_
      refine lv_iload hx hb dX8_on_86 (lv_at hl 3 rfl) ?_
      refine lv_ishl hx hb dX8_on_88 ?_
      refine lv_ti (y := (nI (2 ^ (se sn)))) (shl1 (se sn) (by omega)) ?_
      refine lv_ior hx hb dX8_on_89 ?_
      refine lv_ti (y := (nI (g / 2 + 2 ^ (se sn)))) (or_bit2 (se sn) (by omega) (g / 2) (by omega)) ?_
      refine ro_i (D := D) (va_runS (As := [.int (nI rn), .int (nI (i + 1)), .int (nI (g / 2 + 2 ^ (se sn)))]) (rest := [.ref (a 19), .int r_6]) ⟨hx, hb, hml, hown, hts⟩ ((m_at l D k st lo rn (i + 1) (g / 2 + 2 ^ (se sn))) H.size) (va_cwS 3 hts (gS tw_1266 tw_1267 tw_87 tw_1268) rfl rfl rfl (by decide +kernel) ⟨Nat.le_of_ble_eq_true rfl, Nat.le_of_ble_eq_true rfl⟩) (pS hS hAlo hlo hP hK hDL hZ [] (by decide) rfl) rfl rfl hl.1 rfl (lv_room (Nat.le_of_ble_eq_true rfl)) dX8_on_90 ⟨Nat.le_of_ble_eq_true rfl, Nat.le_of_ble_eq_true rfl⟩) hS hA hP (fun r_7 H locs hw_7 hP hS => ?_)
      try dsimp only at hw_7
      subst hw_7
      refine va_iald hx hb hK hP 5 1 rfl rfl (vp_in_nI (by omega) (by decide)) dX8_on_93 ?_
      refine lv_ti (y := (fworths (192 * rn + 8 * (i + 1) + (g / 2 + 2 ^ (se sn))))) (by rw [nI_clamp (by omega)]) ?_
      refine lv_aload_n hx hb dX8_on_94 rfl (lv_at hl 4 rfl) ?_
      refine va_get (D := D) (ci := 8) (v := .ref (a 19)) (C := RX8) (T := TX8) (N := 44) hx hb hts inX8 hown hK hP 0 rfl rfl 18 (by decide) (hts _ tw_991) (fun _ h9 => h9) rfl dX8_on_95 ?_
      refine lv_iload_n hx hb dX8_on_98 rfl (lv_at hl 6 rfl) ?_
      refine lv_iload_n hx hb dX8_on_99 rfl (lv_at hl 7 rfl) ?_
      refine lv_iconst (v := 1) hx hb dX8_on_100 (by decide) ?_
      refine lv_iadd hx hb dX8_on_101 ?_
      refine lv_ti (y := (nI (i + 1))) (nI_add i 1) ?_
      refine lv_iload hx hb dX8_on_102 (lv_at hl 1 rfl) ?_
      refine ro_i (D := D) (va_runS (As := [.int (nI rn), .int (nI (i + 1)), .int (nI (g / 2))]) (rest := [.ref (a 19), .int (fworths (192 * rn + 8 * (i + 1) + (g / 2 + 2 ^ (se sn)))), .int r_6]) ⟨hx, hb, hml, hown, hts⟩ ((m_at l D k st lo rn (i + 1) (g / 2)) H.size) (va_cwS 3 hts (gS tw_1266 tw_1267 tw_87 tw_1268) rfl rfl rfl (by decide +kernel) ⟨Nat.le_of_ble_eq_true rfl, Nat.le_of_ble_eq_true rfl⟩) (pS hS hAlo hlo hP hK hDL hZ [] (by decide) rfl) rfl rfl hl.1 rfl (lv_room (Nat.le_of_ble_eq_true rfl)) dX8_on_104 ⟨Nat.le_of_ble_eq_true rfl, Nat.le_of_ble_eq_true rfl⟩) hS hA hP (fun r_8 H locs hw_8 hP hS => ?_)
      try dsimp only at hw_8
      subst hw_8
      refine va_iald hx hb hK hP 5 1 rfl rfl (vp_in_nI (by omega) (by decide)) dX8_on_107 ?_
      refine lv_ti (y := (fworths (192 * rn + 8 * (i + 1) + (g / 2)))) (by rw [nI_clamp (by omega)]) ?_
      refine ro_i (D := D) (va_runS (As := [.int r_6, .int (fworths (192 * rn + 8 * (i + 1) + (g / 2 + 2 ^ (se sn)))), .int (fworths (192 * rn + 8 * (i + 1) + (g / 2)))]) (rest := []) ⟨hx, hb, hml, hown, hts⟩ ((n_mixed l D k st lo r_6 (fworths (192 * rn + 8 * (i + 1) + (g / 2 + 2 ^ (se sn)))) (fworths (192 * rn + 8 * (i + 1) + (g / 2)))) H.size) (va_cwS 3 hts (gS tw_1269 tw_1270 tw_87 tw_1271) rfl rfl rfl (by decide +kernel) ⟨Nat.le_of_ble_eq_true rfl, Nat.le_of_ble_eq_true rfl⟩) (pS hS hAlo hlo hP hK hDL hZ [] (by decide) rfl) rfl rfl hl.1 rfl (lv_room (Nat.le_of_ble_eq_true rfl)) dX8_on_108 ⟨Nat.le_of_ble_eq_true rfl, Nat.le_of_ble_eq_true rfl⟩) hS hA hP (fun r_9 H locs hw_9 hP hS => ?_)
      try dsimp only at hw_9
      exact W.iret (v := r_9) hx hb hr (fun t ht hW => ⟨⟨r_9, (), rfl, nxm_1 (W := fun h => fworths (slN rn (i + 1) h)) (show i + 1 + se sn < dn sn by omega) (by rw [(pbm_0 (by omega) hg8 c_5)]; exact hw_6.trans (mChance (by omega))) (congrArg fworths (show 192 * rn + 8 * (i + 1) + (g / 2 + 2 ^ se sn) = slN rn (i + 1) (g / 2 + 2 ^ se sn) by unfold slN; omega)) (congrArg fworths (show 192 * rn + 8 * (i + 1) + (g / 2) = slN rn (i + 1) (g / 2) by unfold slN; omega)) hw_9, trivial⟩, hS.F ht⟩) hS.2.2 dX8_on_111
    · rw [ex_4, ex_3] at c_5
      refine lv_iconst (v := 1) hx hb dX8_on_63 (by decide) ?_
      refine lv_goto (tgt := 68) hx hb dX8_on_64 (by decide) ?_
      refine ro_i (D := D) (va_runV (As := [.int (nI sn), .int (nI (i + 1 + se sn)), .int 1]) (rest := []) ⟨hx, hb, hml, hown, hts⟩ ((n_chanceOf l D k st lo a tx t0 we rd ru rw ca fp wd nu na ts df db sd ffrees se tm gs sn (i + 1 + se sn) 1 (by first | assumption | omega) (by first | assumption | omega)) H.size) (cwV 3 hts (gV tw_1210 tw_1212 tw_41 tw_87 tw_1213) rfl rfl rfl (by decide +kernel) ⟨Nat.le_of_ble_eq_true rfl, Nat.le_of_ble_eq_true rfl⟩) (pV hS hAlo hlo hP hK hDL hZ [0, 3, 2] (by decide) rfl (ci := 8) (q := (RX8, TX8, 44)) (q0 := 0) rfl rfl) rfl rfl hl.1 rfl (lv_room (Nat.le_of_ble_eq_true rfl)) dX8_on_68 ⟨Nat.le_of_ble_eq_true rfl, Nat.le_of_ble_eq_true rfl⟩) hS hA hP (fun r_10 H locs hw_10 hP hS => ?_)
      try dsimp only at hw_10
      refine lv_istore (lv' := [(8, .int r_10), (7, .int (nI (g / 2))), (6, .int (nI (i + 1 + se sn))), (5, .int (nI (se sn))), (0, .ref (a 0)), (1, .int (nI sn)), (2, .int (nI rn)), (3, .int (nI i)), (4, .int (nI g))]) hx hb dX8_on_71 hl (by decide) rfl (fun ls hl => ?_)
      refine lv_iload hx hb dX8_on_73 (lv_at hl 0 rfl) ?_
      refine lv_aload_n hx hb dX8_on_75 rfl (lv_at hl 4 rfl) ?_
      refine va_get (D := D) (ci := 8) (v := .ref (a 19)) (C := RX8) (T := TX8) (N := 44) hx hb hts inX8 hown hK hP 0 rfl rfl 18 (by decide) (hts _ tw_991) (fun _ h9 => h9) rfl dX8_on_76 ?_
      refine lv_iload_n hx hb dX8_on_79 rfl (lv_at hl 6 rfl) ?_
      refine lv_iload_n hx hb dX8_on_80 rfl (lv_at hl 7 rfl) ?_
      refine lv_iconst (v := 1) hx hb dX8_on_81 (by decide) ?_
      refine lv_iadd hx hb dX8_on_82 ?_
      refine lv_ti (y := (nI (i + 1))) (nI_add i 1) ?_
      refine lv_iload hx hb dX8_on_83 (lv_at hl 1 rfl) ?_
      refine lv_iconst (v := 1) hx hb dX8_on_85 (by decide) ?_
      refine lv_iload hx hb dX8_on_86 (lv_at hl 3 rfl) ?_
      refine lv_ishl hx hb dX8_on_88 ?_
      refine lv_ti (y := (nI (2 ^ (se sn)))) (shl1 (se sn) (by omega)) ?_
      refine lv_ior hx hb dX8_on_89 ?_
      refine lv_ti (y := (nI (g / 2 + 2 ^ (se sn)))) (or_bit2 (se sn) (by omega) (g / 2) (by omega)) ?_
      refine ro_i (D := D) (va_runS (As := [.int (nI rn), .int (nI (i + 1)), .int (nI (g / 2 + 2 ^ (se sn)))]) (rest := [.ref (a 19), .int r_10]) ⟨hx, hb, hml, hown, hts⟩ ((m_at l D k st lo rn (i + 1) (g / 2 + 2 ^ (se sn))) H.size) (va_cwS 3 hts (gS tw_1266 tw_1267 tw_87 tw_1268) rfl rfl rfl (by decide +kernel) ⟨Nat.le_of_ble_eq_true rfl, Nat.le_of_ble_eq_true rfl⟩) (pS hS hAlo hlo hP hK hDL hZ [] (by decide) rfl) rfl rfl hl.1 rfl (lv_room (Nat.le_of_ble_eq_true rfl)) dX8_on_90 ⟨Nat.le_of_ble_eq_true rfl, Nat.le_of_ble_eq_true rfl⟩) hS hA hP (fun r_11 H locs hw_11 hP hS => ?_)
      try dsimp only at hw_11
      subst hw_11
      refine va_iald hx hb hK hP 5 1 rfl rfl (vp_in_nI (by omega) (by decide)) dX8_on_93 ?_
      refine lv_ti (y := (fworths (192 * rn + 8 * (i + 1) + (g / 2 + 2 ^ (se sn))))) (by rw [nI_clamp (by omega)]) ?_
      refine lv_aload_n hx hb dX8_on_94 rfl (lv_at hl 4 rfl) ?_
      refine va_get (D := D) (ci := 8) (v := .ref (a 19)) (C := RX8) (T := TX8) (N := 44) hx hb hts inX8 hown hK hP 0 rfl rfl 18 (by decide) (hts _ tw_991) (fun _ h9 => h9) rfl dX8_on_95 ?_
      refine lv_iload_n hx hb dX8_on_98 rfl (lv_at hl 6 rfl) ?_
      refine lv_iload_n hx hb dX8_on_99 rfl (lv_at hl 7 rfl) ?_
      refine lv_iconst (v := 1) hx hb dX8_on_100 (by decide) ?_
      refine lv_iadd hx hb dX8_on_101 ?_
      refine lv_ti (y := (nI (i + 1))) (nI_add i 1) ?_
      refine lv_iload hx hb dX8_on_102 (lv_at hl 1 rfl) ?_
      refine ro_i (D := D) (va_runS (As := [.int (nI rn), .int (nI (i + 1)), .int (nI (g / 2))]) (rest := [.ref (a 19), .int (fworths (192 * rn + 8 * (i + 1) + (g / 2 + 2 ^ (se sn)))), .int r_10]) ⟨hx, hb, hml, hown, hts⟩ ((m_at l D k st lo rn (i + 1) (g / 2)) H.size) (va_cwS 3 hts (gS tw_1266 tw_1267 tw_87 tw_1268) rfl rfl rfl (by decide +kernel) ⟨Nat.le_of_ble_eq_true rfl, Nat.le_of_ble_eq_true rfl⟩) (pS hS hAlo hlo hP hK hDL hZ [] (by decide) rfl) rfl rfl hl.1 rfl (lv_room (Nat.le_of_ble_eq_true rfl)) dX8_on_104 ⟨Nat.le_of_ble_eq_true rfl, Nat.le_of_ble_eq_true rfl⟩) hS hA hP (fun r_12 H locs hw_12 hP hS => ?_)
      try dsimp only at hw_12
      subst hw_12
      refine va_iald hx hb hK hP 5 1 rfl rfl (vp_in_nI (by omega) (by decide)) dX8_on_107 ?_
      refine lv_ti (y := (fworths (192 * rn + 8 * (i + 1) + (g / 2)))) (by rw [nI_clamp (by omega)]) ?_
      refine ro_i (D := D) (va_runS (As := [.int r_10, .int (fworths (192 * rn + 8 * (i + 1) + (g / 2 + 2 ^ (se sn)))), .int (fworths (192 * rn + 8 * (i + 1) + (g / 2)))]) (rest := []) ⟨hx, hb, hml, hown, hts⟩ ((n_mixed l D k st lo r_10 (fworths (192 * rn + 8 * (i + 1) + (g / 2 + 2 ^ (se sn)))) (fworths (192 * rn + 8 * (i + 1) + (g / 2)))) H.size) (va_cwS 3 hts (gS tw_1269 tw_1270 tw_87 tw_1271) rfl rfl rfl (by decide +kernel) ⟨Nat.le_of_ble_eq_true rfl, Nat.le_of_ble_eq_true rfl⟩) (pS hS hAlo hlo hP hK hDL hZ [] (by decide) rfl) rfl rfl hl.1 rfl (lv_room (Nat.le_of_ble_eq_true rfl)) dX8_on_108 ⟨Nat.le_of_ble_eq_true rfl, Nat.le_of_ble_eq_true rfl⟩) hS hA hP (fun r_13 H locs hw_13 hP hS => ?_)
      try dsimp only at hw_13
      exact W.iret (v := r_13) hx hb hr (fun t ht hW => ⟨⟨r_13, (), rfl, nxm_1 (W := fun h => fworths (slN rn (i + 1) h)) (show i + 1 + se sn < dn sn by omega) (by rw [(pbm_1 (by omega) hg8 c_5)]; exact hw_10.trans (mChance (by omega))) (congrArg fworths (show 192 * rn + 8 * (i + 1) + (g / 2 + 2 ^ se sn) = slN rn (i + 1) (g / 2 + 2 ^ se sn) by unfold slN; omega)) (congrArg fworths (show 192 * rn + 8 * (i + 1) + (g / 2) = slN rn (i + 1) (g / 2) by unfold slN; omega)) hw_13, trivial⟩, hS.F ht⟩) hS.2.2 dX8_on_111
  · have c_2 : ¬ ((i + 1 + se sn) < (dn sn)) := fun h => c_2 ((nI_ltI (a := (i + 1 + se sn)) (b := (dn sn)) (by omega) (by omega)).mpr h)
    refine lv_aload_n hx hb dX8_on_33 rfl (lv_at hl 3 rfl) ?_
    refine va_get (D := D) (ci := 8) (v := .ref (a 19)) (C := RX8) (T := TX8) (N := 44) hx hb hts inX8 hown hK hP 0 rfl rfl 18 (by decide) (hts _ tw_991) (fun _ h9 => h9) rfl dX8_on_34 ?_
    refine lv_iload_n hx hb dX8_on_37 rfl (lv_at hl 5 rfl) ?_
    refine lv_iload_n hx hb dX8_on_38 rfl (lv_at hl 6 rfl) ?_
    refine lv_iconst (v := 1) hx hb dX8_on_39 (by decide) ?_
    refine lv_iadd hx hb dX8_on_40 ?_
    refine lv_ti (y := (nI (i + 1))) (nI_add i 1) ?_
    refine lv_iload hx hb dX8_on_41 (lv_at hl 0 rfl) ?_
    refine ro_i (D := D) (va_runS (As := [.int (nI rn), .int (nI (i + 1)), .int (nI (g / 2))]) (rest := [.ref (a 19)]) ⟨hx, hb, hml, hown, hts⟩ ((m_at l D k st lo rn (i + 1) (g / 2)) H.size) (va_cwS 3 hts (gS tw_1266 tw_1267 tw_87 tw_1268) rfl rfl rfl (by decide +kernel) ⟨Nat.le_of_ble_eq_true rfl, Nat.le_of_ble_eq_true rfl⟩) (pS hS hAlo hlo hP hK hDL hZ [] (by decide) rfl) rfl rfl hl.1 rfl (lv_room (Nat.le_of_ble_eq_true rfl)) dX8_on_43 ⟨Nat.le_of_ble_eq_true rfl, Nat.le_of_ble_eq_true rfl⟩) hS hA hP (fun r_14 H locs hw_14 hP hS => ?_)
    try dsimp only at hw_14
    subst hw_14
    refine va_iald hx hb hK hP 5 1 rfl rfl (vp_in_nI (by omega) (by decide)) dX8_on_46 ?_
    refine lv_ti (y := (fworths (192 * rn + 8 * (i + 1) + (g / 2)))) (by rw [nI_clamp (by omega)]) ?_
    exact W.iret (v := (fworths (192 * rn + 8 * (i + 1) + (g / 2)))) hx hb hr (fun t ht hW => ⟨⟨(fworths (192 * rn + 8 * (i + 1) + (g / 2))), (), rfl, nx_0 (W := fun h => fworths (slN rn (i + 1) h)) (show ¬ i + 1 + se sn < dn sn by omega) (congrArg fworths (show 192 * rn + 8 * (i + 1) + (g / 2) = slN rn (i + 1) (g / 2) by unfold slN; omega)), trivial⟩, hS.F ht⟩) hS.2.2 dX8_on_47


theorem m_glue13 : True := trivial
theorem lgc0 {x y : Int64} (h : lg_cmp x y = 0) : x = y :=
  Int64.le_antisymm (Int64.not_lt.mp (fun q => absurd ((lg_cmp_gt x y).mpr q) (by rw [h]; decide))) (Int64.not_lt.mp (fun q => absurd ((lg_cmp_lt x y).mpr q) (by rw [h]; decide)))
/-- a word of fewer than three letters is small -/
def wB (n : Nat) (w : Int64) : Prop := n < 3 → ∃ v : Nat, v < 27 ^ n ∧ w = Int64.ofNat v
abbrev bigW (q : Int64) : Prop := ∀ v, v < 729 → q ≠ Int64.ofNat v
theorem wB0 (t : Nat) : wB (t - t) 0 := fun _ => ⟨0, by rw [Nat.sub_self]; decide, rfl⟩
theorem wB_key : ∀ v, v < 27 → ∀ d, d < 26 → ((27 : Int32).toInt64) * Int64.ofNat v + (nI (97 + d)).toInt64 - ((96 : Int32).toInt64) = Int64.ofNat (27 * v + d + 1) := by decide +kernel
theorem wB_lt {n v : Nat} (hn : n < 2) (h : v < 27 ^ n) : v < 27 ∧ 27 * v + 26 < 27 ^ (n + 1) := by
  rcases (show n = 0 ∨ n = 1 by omega) with rfl | rfl
  · have h2 : v < 1 := h
    exact ⟨by omega, by show 27 * v + 26 < 27; omega⟩
  · have h2 : v < 27 := h
    exact ⟨by omega, by show 27 * v + 26 < 729; omega⟩
theorem wB_step {t e2 : Nat} {w : Int64} {x : Int32} (ht : t ≤ e2) (h : wB (e2 - t) w) (hc : inB x 97 122) : wB (e2 + 1 - t) (((27 : Int32).toInt64) * w + x.toInt64 - ((96 : Int32).toInt64)) := by
  intro hn
  obtain ⟨v, hv, rfl⟩ := h (by omega)
  obtain ⟨j, h1, h2, rfl⟩ := inB_ofc (a := 97) (b := 122) (by omega) (by omega) hc
  obtain ⟨d, rfl⟩ : ∃ d, j = 97 + d := ⟨j - 97, by omega⟩
  have h3 := wB_lt (by omega) hv
  refine ⟨27 * v + d + 1, ?_, wB_key v h3.1 d (by omega)⟩
  have e : e2 + 1 - t = e2 - t + 1 := by omega
  rw [e]
  omega
theorem wB_far_key : ∀ v, v < 27 → lg_cmp (Int64.ofNat v) 1000000000000 ≤ 0 := by decide +kernel
theorem wB_far {t e2 : Nat} {w : Int64} (ht : t ≤ e2) (h : wB (e2 - t) w) (hc : ¬ lg_cmp w 1000000000000 ≤ 0) (y : Int64) : wB (e2 + 1 - t) y := by
  intro hn
  obtain ⟨v, hv, rfl⟩ := h (by omega)
  exact absurd (wB_far_key v (wB_lt (by omega) hv).1) hc
theorem wB_big {n : Nat} {w : Int64} (h : wB n w) (hb : bigW w) : 3 ≤ n := by
  rcases Nat.lt_or_ge n 3 with hn | hn
  · obtain ⟨v, hv, e⟩ := h hn
    have h2 : 27 ^ n ≤ 27 ^ 2 := Nat.pow_le_pow_right (by omega) (by omega)
    exact absurd e (hb v (by have : (27 : Nat) ^ 2 = 729 := rfl; omega))
  · exact hn
/-- what images keep: row's size, cars, bars -/
def imP (k : Nat) (v : Int32) : Prop := (k = 0 → ∃ a : Nat, a ≤ 24 ∧ v = nI a) ∧ (k = 1 → ∃ a : Nat, a ≤ 4 ∧ v = nI a) ∧ (31 ≤ k → ∃ a : Nat, a ≤ 24 ∧ v = nI a)
def imOK (f : Nat → Int32) : Prop := ∀ j, imP (j % 35) (f j)
theorem imOK_upd {f : Nat → Int32} (h : imOK f) (i : Nat) (x : Int32) (hx : imP (i % 35) x) : imOK (upd f i x) := by
  intro j
  unfold upd
  by_cases hj : j = i
  · rw [if_pos hj, hj]
    exact hx
  · rw [if_neg hj]
    exact h j
theorem imOK_0 : imOK (fun _ => 0) := fun _ => ⟨fun _ => ⟨0, by omega, rfl⟩, fun _ => ⟨0, by omega, rfl⟩, fun _ => ⟨0, by omega, rfl⟩⟩


set_option maxHeartbeats 4000000 in
set_option maxRecDepth 100000 in
theorem m_code_from (l : Launch) (D : va_G) (k : Nat → ClassId) (st : Nat → Nat) (lo : Nat)   : CRl l D k st lo yX8_code cX8_code 3 (some .long) ({ frames := 0, cells := 0, slots := 0, locals := 0 }) [.int 102, .int 114, .int 111] [] (fun r => r = 4875) := by
  intro sz
  refine Met.ofW (cc := cX8_code) (maxL := 3) (ret := (some .long)) (by decide) rfl ?_
  intro p e s m args below meth c s₁ B hml hv
  obtain ⟨rfl, hsz, hlo, hP, hK, hDL, hZ⟩ := hv
  have hx := B.exec
  have hb := B.bytes
  have hr := B.returns
  have hts := WS_ts B.pre
  have hown : s.vm.findClass RX8 = some m.cls := findClass_of_methodNamed B.named
  have hlocks := B.notSynchronized
  subst hsz
  have hA : ∀ q : Nat, s.heap.size ≤ q → (fun q : Nat => s.heap.size ≤ q) q := fun _ h => h
  have hAlo : ∀ q : Nat, (fun q : Nat => s.heap.size ≤ q) q → lo ≤ q := fun q h => Nat.le_trans hlo h
  have hS : va_S (fun q : Nat => s.heap.size ≤ q) s.heap s.heap [] := va_S.rf
  have hl := lv_entry ([.int 102, .int 114, .int 111]) (n := 3) (Nat.le_of_ble_eq_true rfl)
  rw [lg_entry_eq]
  generalize (lg_sl ([.int 102, .int 114, .int 111]) ++ List.replicate (3 - (lg_sl ([.int 102, .int 114, .int 111])).length) Slot.unset).toArray = ls at hl ⊢
  have hl : lv_has ls 3 [(0, .int 102), (1, .int 114), (2, .int 111)] := hl
  refine lv_ldc2 hx hb hown (hts _ tw_1136) dX8_code_0 ?_
  refine lv_ldc2 hx hb hown (hts _ tw_1136) dX8_code_3 ?_
  refine lv_iload_n hx hb dX8_code_6 rfl (lv_at hl 0 rfl) ?_
  refine lv_i2l (v := 102) hx hb dX8_code_7 (by decide) ?_
  refine lv_ldc2 hx hb hown (hts _ tw_1137) dX8_code_8 ?_
  refine lv_lsub hx hb dX8_code_11 ?_
  refine lv_tl (y := 6) (by decide) ?_
  refine lv_lmul hx hb dX8_code_12 ?_
  refine lv_tl (y := 162) (by decide) ?_
  refine lv_iload_n hx hb dX8_code_13 rfl (lv_at hl 1 rfl) ?_
  refine lv_i2l (v := 114) hx hb dX8_code_14 (by decide) ?_
  refine lv_ladd hx hb dX8_code_15 ?_
  refine lv_tl (y := 276) (by decide) ?_
  refine lv_ldc2 hx hb hown (hts _ tw_1137) dX8_code_16 ?_
  refine lv_lsub hx hb dX8_code_19 ?_
  refine lv_tl (y := 180) (by decide) ?_
  refine lv_lmul hx hb dX8_code_20 ?_
  refine lv_tl (y := 4860) (by decide) ?_
  refine lv_iload_n hx hb dX8_code_21 rfl (lv_at hl 2 rfl) ?_
  refine lv_i2l (v := 111) hx hb dX8_code_22 (by decide) ?_
  refine lv_ladd hx hb dX8_code_23 ?_
  refine lv_tl (y := 4971) (by decide) ?_
  refine lv_ldc2 hx hb hown (hts _ tw_1137) dX8_code_24 ?_
  refine lv_lsub hx hb dX8_code_27 ?_
  refine lv_tl (y := 4875) (by decide) ?_
  exact W.lret (v := 4875) hx hb hr (fun t ht hW => ⟨⟨4875, (), rfl, rfl, trivial⟩, hS.F ht⟩) hS.2.2 dX8_code_28


set_option maxHeartbeats 4000000 in
set_option maxRecDepth 100000 in
theorem m_longer_from (l : Launch) (D : va_G) (k : Nat → ClassId) (st : Nat → Nat) (lo : Nat)   : CRl l D k st lo yX8_longer cX8_longer 3 (some .long) ({ frames := 0, cells := 0, slots := 0, locals := 0 }) [.long 4875, .int 109] [] (fun r => r = 131638) := by
  intro sz
  refine Met.ofW (cc := cX8_longer) (maxL := 3) (ret := (some .long)) (by decide) rfl ?_
  intro p e s m args below meth c s₁ B hml hv
  obtain ⟨rfl, hsz, hlo, hP, hK, hDL, hZ⟩ := hv
  have hx := B.exec
  have hb := B.bytes
  have hr := B.returns
  have hts := WS_ts B.pre
  have hown : s.vm.findClass RX8 = some m.cls := findClass_of_methodNamed B.named
  have hlocks := B.notSynchronized
  subst hsz
  have hA : ∀ q : Nat, s.heap.size ≤ q → (fun q : Nat => s.heap.size ≤ q) q := fun _ h => h
  have hAlo : ∀ q : Nat, (fun q : Nat => s.heap.size ≤ q) q → lo ≤ q := fun q h => Nat.le_trans hlo h
  have hS : va_S (fun q : Nat => s.heap.size ≤ q) s.heap s.heap [] := va_S.rf
  have hl := lv_entry ([.long 4875, .int 109]) (n := 3) (Nat.le_of_ble_eq_true rfl)
  rw [lg_entry_eq]
  generalize (lg_sl ([.long 4875, .int 109]) ++ List.replicate (3 - (lg_sl ([.long 4875, .int 109])).length) Slot.unset).toArray = ls at hl ⊢
  have hl : lv_has ls 3 [(0, .long 4875), (2, .int 109)] := hl
  refine lv_ldc2 hx hb hown (hts _ tw_1136) dX8_longer_0 ?_
  refine lv_lload_n hx hb dX8_longer_3 rfl (lv_at hl 0 rfl) ?_
  refine lv_lmul hx hb dX8_longer_4 ?_
  refine lv_tl (y := 131625) (by decide) ?_
  refine lv_iload_n hx hb dX8_longer_5 rfl (lv_at hl 1 rfl) ?_
  refine lv_i2l (v := 109) hx hb dX8_longer_6 (by decide) ?_
  refine lv_ladd hx hb dX8_longer_7 ?_
  refine lv_tl (y := 131734) (by decide) ?_
  refine lv_ldc2 hx hb hown (hts _ tw_1137) dX8_longer_8 ?_
  refine lv_lsub hx hb dX8_longer_11 ?_
  refine lv_tl (y := 131638) (by decide) ?_
  exact W.lret (v := 131638) hx hb hr (fun t ht hW => ⟨⟨131638, (), rfl, rfl, trivial⟩, hS.F ht⟩) hS.2.2 dX8_longer_12


set_option maxHeartbeats 4000000 in
set_option maxRecDepth 100000 in
theorem m_code_seen (l : Launch) (D : va_G) (k : Nat → ClassId) (st : Nat → Nat) (lo : Nat)   : CRl l D k st lo yX8_code cX8_code 3 (some .long) ({ frames := 0, cells := 0, slots := 0, locals := 0 }) [.int 115, .int 101, .int 101] [] (fun r => r = 13991) := by
  intro sz
  refine Met.ofW (cc := cX8_code) (maxL := 3) (ret := (some .long)) (by decide) rfl ?_
  intro p e s m args below meth c s₁ B hml hv
  obtain ⟨rfl, hsz, hlo, hP, hK, hDL, hZ⟩ := hv
  have hx := B.exec
  have hb := B.bytes
  have hr := B.returns
  have hts := WS_ts B.pre
  have hown : s.vm.findClass RX8 = some m.cls := findClass_of_methodNamed B.named
  have hlocks := B.notSynchronized
  subst hsz
  have hA : ∀ q : Nat, s.heap.size ≤ q → (fun q : Nat => s.heap.size ≤ q) q := fun _ h => h
  have hAlo : ∀ q : Nat, (fun q : Nat => s.heap.size ≤ q) q → lo ≤ q := fun q h => Nat.le_trans hlo h
  have hS : va_S (fun q : Nat => s.heap.size ≤ q) s.heap s.heap [] := va_S.rf
  have hl := lv_entry ([.int 115, .int 101, .int 101]) (n := 3) (Nat.le_of_ble_eq_true rfl)
  rw [lg_entry_eq]
  generalize (lg_sl ([.int 115, .int 101, .int 101]) ++ List.replicate (3 - (lg_sl ([.int 115, .int 101, .int 101])).length) Slot.unset).toArray = ls at hl ⊢
  have hl : lv_has ls 3 [(0, .int 115), (1, .int 101), (2, .int 101)] := hl
  refine lv_ldc2 hx hb hown (hts _ tw_1136) dX8_code_0 ?_
  refine lv_ldc2 hx hb hown (hts _ tw_1136) dX8_code_3 ?_
  refine lv_iload_n hx hb dX8_code_6 rfl (lv_at hl 0 rfl) ?_
  refine lv_i2l (v := 115) hx hb dX8_code_7 (by decide) ?_
  refine lv_ldc2 hx hb hown (hts _ tw_1137) dX8_code_8 ?_
  refine lv_lsub hx hb dX8_code_11 ?_
  refine lv_tl (y := 19) (by decide) ?_
  refine lv_lmul hx hb dX8_code_12 ?_
  refine lv_tl (y := 513) (by decide) ?_
  refine lv_iload_n hx hb dX8_code_13 rfl (lv_at hl 1 rfl) ?_
  refine lv_i2l (v := 101) hx hb dX8_code_14 (by decide) ?_
  refine lv_ladd hx hb dX8_code_15 ?_
  refine lv_tl (y := 614) (by decide) ?_
  refine lv_ldc2 hx hb hown (hts _ tw_1137) dX8_code_16 ?_
  refine lv_lsub hx hb dX8_code_19 ?_
  refine lv_tl (y := 518) (by decide) ?_
  refine lv_lmul hx hb dX8_code_20 ?_
  refine lv_tl (y := 13986) (by decide) ?_
  refine lv_iload_n hx hb dX8_code_21 rfl (lv_at hl 2 rfl) ?_
  refine lv_i2l (v := 101) hx hb dX8_code_22 (by decide) ?_
  refine lv_ladd hx hb dX8_code_23 ?_
  refine lv_tl (y := 14087) (by decide) ?_
  refine lv_ldc2 hx hb hown (hts _ tw_1137) dX8_code_24 ?_
  refine lv_lsub hx hb dX8_code_27 ?_
  refine lv_tl (y := 13991) (by decide) ?_
  exact W.lret (v := 13991) hx hb hr (fun t ht hW => ⟨⟨13991, (), rfl, rfl, trivial⟩, hS.F ht⟩) hS.2.2 dX8_code_28


set_option maxHeartbeats 4000000 in
set_option maxRecDepth 100000 in
theorem m_longer_seen (l : Launch) (D : va_G) (k : Nat → ClassId) (st : Nat → Nat) (lo : Nat)   : CRl l D k st lo yX8_longer cX8_longer 3 (some .long) ({ frames := 0, cells := 0, slots := 0, locals := 0 }) [.long 13991, .int 110] [] (fun r => r = 377771) := by
  intro sz
  refine Met.ofW (cc := cX8_longer) (maxL := 3) (ret := (some .long)) (by decide) rfl ?_
  intro p e s m args below meth c s₁ B hml hv
  obtain ⟨rfl, hsz, hlo, hP, hK, hDL, hZ⟩ := hv
  have hx := B.exec
  have hb := B.bytes
  have hr := B.returns
  have hts := WS_ts B.pre
  have hown : s.vm.findClass RX8 = some m.cls := findClass_of_methodNamed B.named
  have hlocks := B.notSynchronized
  subst hsz
  have hA : ∀ q : Nat, s.heap.size ≤ q → (fun q : Nat => s.heap.size ≤ q) q := fun _ h => h
  have hAlo : ∀ q : Nat, (fun q : Nat => s.heap.size ≤ q) q → lo ≤ q := fun q h => Nat.le_trans hlo h
  have hS : va_S (fun q : Nat => s.heap.size ≤ q) s.heap s.heap [] := va_S.rf
  have hl := lv_entry ([.long 13991, .int 110]) (n := 3) (Nat.le_of_ble_eq_true rfl)
  rw [lg_entry_eq]
  generalize (lg_sl ([.long 13991, .int 110]) ++ List.replicate (3 - (lg_sl ([.long 13991, .int 110])).length) Slot.unset).toArray = ls at hl ⊢
  have hl : lv_has ls 3 [(0, .long 13991), (2, .int 110)] := hl
  refine lv_ldc2 hx hb hown (hts _ tw_1136) dX8_longer_0 ?_
  refine lv_lload_n hx hb dX8_longer_3 rfl (lv_at hl 0 rfl) ?_
  refine lv_lmul hx hb dX8_longer_4 ?_
  refine lv_tl (y := 377757) (by decide) ?_
  refine lv_iload_n hx hb dX8_longer_5 rfl (lv_at hl 1 rfl) ?_
  refine lv_i2l (v := 110) hx hb dX8_longer_6 (by decide) ?_
  refine lv_ladd hx hb dX8_longer_7 ?_
  refine lv_tl (y := 377867) (by decide) ?_
  refine lv_ldc2 hx hb hown (hts _ tw_1137) dX8_longer_8 ?_
  refine lv_lsub hx hb dX8_longer_11 ?_
  refine lv_tl (y := 377771) (by decide) ?_
  exact W.lret (v := 377771) hx hb hr (fun t ht hW => ⟨⟨377771, (), rfl, rfl, trivial⟩, hS.F ht⟩) hS.2.2 dX8_longer_12


set_option maxHeartbeats 4000000 in
set_option maxRecDepth 100000 in
theorem m_readWord3 (l : Launch) (D : va_G) (k : Nat → ClassId) (st : Nat → Nat) (lo : Nat) (a : Nat → Nat) (tx : Nat) (t0 : Nat) (we : Nat) (rd : Nat) (ru : Nat) (rw : Nat) (ca : Nat) (fp : Int32) (wd : Int64) (nu : Int32) (na : Int32) (ts : Int32) (df : Int32) (db : Int32) (sd : Int32) (ftext : Nat → Int32) (ht : t0 ≤ tx) (htx : tx ≤ 240) : CWv l D k st lo yX8_readWord cX8_readWord 2 none ({ frames := 1, cells := 0, slots := 0, locals := 25 }) 0 0 [.ref (a 0)] [((a 0), .inr (8, (fX8 a (nI tx) fp (nI t0) wd (nI we) nu na (nI rd) ts (nI ru) (nI rw) (nI ca) df db sd))), (aI k (a 5) 240 ftext)] (fun (u : Nat × Int64 × Nat) => match u with | (t0_, wd_, we_) => t0 ≤ t0_ ∧ t0_ ≤ we_ ∧ we_ ≤ tx ∧ wB (we_ - t0_) wd_) (fun (u : Nat × Int64 × Nat) => match u with | (t0_, wd_, we_) => [((a 0), .inr (8, (fX8 a (nI tx) fp (nI t0_) wd_ (nI we_) nu na (nI rd) ts (nI ru) (nI rw) (nI ca) df db sd))), (aI k (a 5) 240 ftext)]) := by
  intro sz
  refine Met.ofW (cc := cX8_readWord) (maxL := 2) (ret := none) (by decide) rfl ?_
  intro p e s m args below meth c s₁ B hml hv
  obtain ⟨rfl, hsz, hlo, hP, hK, hDL, hZ⟩ := hv
  have hx := B.exec
  have hb := B.bytes
  have hr := B.returns
  have hts := WS_ts B.pre
  have hown : s.vm.findClass RX8 = some m.cls := findClass_of_methodNamed B.named
  have hlocks := B.notSynchronized
  subst hsz
  have hD := hDL.self (sz := s.heap.size)
  have hAlo := A_lo hDL hlo
  generalize hAe : va_A [((a 0), .inr (8, (fX8 a (nI tx) fp (nI t0) wd (nI we) nu na (nI rd) ts (nI ru) (nI rw) (nI ca) df db sd))), (aI k (a 5) 240 ftext)] s.heap.size = A at hD hAlo ⊢
  have hA : ∀ q : Nat, s.heap.size ≤ q → A q := fun q h => by rw [← hAe]; exact Or.inr h
  have hS : va_S A s.heap s.heap [] := va_S.rf
  have hl := lv_entry ([.ref (a 0)]) (n := 2) (Nat.le_of_ble_eq_true rfl)
  rw [lg_entry_eq]
  generalize (lg_sl ([.ref (a 0)]) ++ List.replicate (2 - (lg_sl ([.ref (a 0)])).length) Slot.unset).toArray = ls at hl ⊢
  have hl : lv_has ls 2 [(0, .ref (a 0))] := hl
  refine lv_aload_n hx hb dX8_readWord_0 rfl (lv_at hl 0 rfl) ?_
  refine rw_i (D := D) (wr := []) (va_runV (As := []) (rest := []) ⟨hx, hb, hml, hown, hts⟩ ((m_here l D k st lo a tx t0 we rd ru rw ca fp wd nu na ts df db sd ftext (by omega) (by omega)) s.heap.size) (cwV 0 hts (gV tw_1120 tw_1122 tw_27 tw_87 tw_1123) rfl rfl rfl (by decide +kernel) ⟨Nat.le_of_ble_eq_true rfl, Nat.le_of_ble_eq_true rfl⟩) (pV hS hAlo hlo hP hK (va_Dlo hD hAlo) hZ [0, 1] (by decide) rfl (ci := 8) (q := (RX8, TX8, 44)) (q0 := 0) rfl rfl) rfl rfl hl.1 rfl (lv_room (Nat.le_of_ble_eq_true rfl)) dX8_readWord_1 ⟨Nat.le_of_ble_eq_true rfl, Nat.le_of_ble_eq_true rfl⟩) hS hA hP hD [0, 1] [] rfl rfl (by decide) (by decide) (fun r_1 u H locs hw_1 hP hD hS => ?_)
  obtain ⟨t0__1, rfl⟩ : ∃ z, z = u := ⟨_, rfl⟩
  replace hP : va_P D classes [((a 0), .inr (8, (fX8 a (nI tx) fp (nI t0__1) wd (nI we) nu na (nI rd) ts (nI ru) (nI rw) (nI ca) df db sd))), (aI k (a 5) 240 ftext)] H := hP
  replace hD : va_D A [((a 0), .inr (8, (fX8 a (nI tx) fp (nI t0__1) wd (nI we) nu na (nI rd) ts (nI ru) (nI rw) (nI ca) df db sd))), (aI k (a 5) 240 ftext)] := hD
  try dsimp only at hw_1
  refine lv_istore_n (lv' := [(1, .int r_1), (0, .ref (a 0))]) hx hb dX8_readWord_4 rfl hl (by decide) rfl (fun ls hl => ?_)
  refine lv_aload_n hx hb dX8_readWord_5 rfl (lv_at hl 1 rfl) ?_
  refine lv_lconst (v := (0 : Int32).toInt64) hx hb dX8_readWord_6 (by decide) ?_
  refine va_put (D := D) (ci := 8) (v := .long ((0 : Int32).toInt64)) (ty := .long) (C := RX8) (T := TX8) (N := 44) hx hb hts inX8 tyX8 tyX8_ok nmX8 hown hK hP hD hS 0 rfl rfl 8 (by decide) (hts _ tw_981) (fun _ h9 => h9) rfl (by decide +kernel) rfl rfl (Nat.le_of_ble_eq_true rfl) dX8_readWord_7 (fun H locs hP hD hS => ?_)
  replace hP : va_P D classes [((a 0), .inr (8, (fX8 a (nI tx) fp (nI t0__1) ((0 : Int32).toInt64) (nI we) nu na (nI rd) ts (nI ru) (nI rw) (nI ca) df db sd))), (aI k (a 5) 240 ftext)] H := hP
  replace hD : va_D A [((a 0), .inr (8, (fX8 a (nI tx) fp (nI t0__1) ((0 : Int32).toInt64) (nI we) nu na (nI rd) ts (nI ru) (nI rw) (nI ca) df db sd))), (aI k (a 5) 240 ftext)] := hD
  refine lv_aload_n hx hb dX8_readWord_10 rfl (lv_at hl 1 rfl) ?_
  refine lv_aload_n hx hb dX8_readWord_11 rfl (lv_at hl 1 rfl) ?_
  refine va_get (D := D) (ci := 8) (v := .int (nI t0__1)) (C := RX8) (T := TX8) (N := 44) hx hb hts inX8 hown hK hP 0 rfl rfl 7 (by decide) (hts _ tw_980) (fun _ h9 => h9) rfl dX8_readWord_12 ?_
  refine va_put (D := D) (ci := 8) (v := .int (nI t0__1)) (ty := .int) (C := RX8) (T := TX8) (N := 44) hx hb hts inX8 tyX8 tyX8_ok nmX8 hown hK hP hD hS 0 rfl rfl 9 (by decide) (hts _ tw_982) (fun _ h9 => h9) rfl (by decide +kernel) rfl rfl (Nat.le_of_ble_eq_true rfl) dX8_readWord_15 (fun H locs hP hD hS => ?_)
  replace hP : va_P D classes [((a 0), .inr (8, (fX8 a (nI tx) fp (nI t0__1) ((0 : Int32).toInt64) (nI t0__1) nu na (nI rd) ts (nI ru) (nI rw) (nI ca) df db sd))), (aI k (a 5) 240 ftext)] H := hP
  replace hD : va_D A [((a 0), .inr (8, (fX8 a (nI tx) fp (nI t0__1) ((0 : Int32).toInt64) (nI t0__1) nu na (nI rd) ts (nI ru) (nI rw) (nI ca) df db sd))), (aI k (a 5) 240 ftext)] := hD
  refine W_loop (σ := Int64 × Nat) (fun (n_ : Nat) (x_ : Int64 × Nat) (H : Heap) (locs : List Loc) (ls : Array Slot) => match x_ with | (wd2_2, e2_2) => n_ = tx - e2_2 ∧ (t0__1 ≤ e2_2 ∧ e2_2 ≤ tx ∧ wB (e2_2 - t0__1) wd2_2) ∧ va_P D classes [((a 0), .inr (8, (fX8 a (nI tx) fp (nI t0__1) wd2_2 (nI e2_2) nu na (nI rd) ts (nI ru) (nI rw) (nI ca) df db sd))), (aI k (a 5) 240 ftext)] H ∧ va_D A [((a 0), .inr (8, (fX8 a (nI tx) fp (nI t0__1) wd2_2 (nI e2_2) nu na (nI rd) ts (nI ru) (nI rw) (nI ca) df db sd))), (aI k (a 5) 240 ftext)] ∧ va_S A s.heap H locs ∧ lv_has ls 2 [(0, .ref (a 0))]) (fun n_2 x_2 H locs ls hI ih_2 => ?_) _ (((0 : Int32).toInt64), t0__1) ⟨rfl, ⟨by omega, by omega, wB0 _⟩, hP, hD, hS, (lv_sub hl [1] rfl)⟩
  obtain ⟨wd2_2, e2_2⟩ := x_2
  obtain ⟨hm_2, hv_2, hP, hD, hS, hl⟩ := hI
  subst hm_2
  refine lv_aload_n hx hb dX8_readWord_18 rfl (lv_at hl 0 rfl) ?_
  refine va_get (D := D) (ci := 8) (v := .int (nI e2_2)) (C := RX8) (T := TX8) (N := 44) hx hb hts inX8 hown hK hP 0 rfl rfl 9 (by decide) (hts _ tw_982) (fun _ h9 => h9) rfl dX8_readWord_19 ?_
  refine lv_aload_n hx hb dX8_readWord_22 rfl (lv_at hl 0 rfl) ?_
  refine va_get (D := D) (ci := 8) (v := .int (nI tx)) (C := RX8) (T := TX8) (N := 44) hx hb hts inX8 hown hK hP 0 rfl rfl 5 (by decide) (hts _ tw_978) (fun _ h9 => h9) rfl dX8_readWord_23 ?_
  refine lv_icmp_ge (tgt := 108) hx hb dX8_readWord_26 (by decide) (fun c_3 => ?_) (fun c_3 => ?_)
  · have c_3 := (nI_leI (a := tx) (b := e2_2) (by omega) (by omega)).mp c_3
    have hP9 := hP.sub (ws' := [((a 0), .inr (8, (fX8 a (nI tx) fp (nI t0__1) wd2_2 (nI e2_2) nu na (nI rd) ts (nI ru) (nI rw) (nI ca) df db sd))), (aI k (a 5) 240 ftext)]) [0, 1] rfl
    have hD9 := hD.sub (ws' := [((a 0), .inr (8, (fX8 a (nI tx) fp (nI t0__1) wd2_2 (nI e2_2) nu na (nI rd) ts (nI ru) (nI rw) (nI ca) df db sd))), (aI k (a 5) 240 ftext)]) [0, 1] (by decide) rfl
    exact W.vret hx hb hr (fun t ht hW => ⟨⟨(t0__1, wd2_2, e2_2), rfl, ⟨by omega, by omega, by omega, hv_2.2.2⟩, by rw [ht]; exact hP9, hD9⟩, hS.F ht⟩) hS.2.2 dX8_readWord_108
  · have c_3 : ¬ (tx ≤ e2_2) := fun h => c_3 ((nI_leI (a := tx) (b := e2_2) (by omega) (by omega)).mpr h)
    refine lv_aload_n hx hb dX8_readWord_29 rfl (lv_at hl 0 rfl) ?_
    refine va_get (D := D) (ci := 8) (v := .ref (a 5)) (C := RX8) (T := TX8) (N := 44) hx hb hts inX8 hown hK hP 0 rfl rfl 4 (by decide) (hts _ tw_977) (fun _ h9 => h9) rfl dX8_readWord_30 ?_
    refine lv_aload_n hx hb dX8_readWord_33 rfl (lv_at hl 0 rfl) ?_
    refine va_get (D := D) (ci := 8) (v := .int (nI e2_2)) (C := RX8) (T := TX8) (N := 44) hx hb hts inX8 hown hK hP 0 rfl rfl 9 (by decide) (hts _ tw_982) (fun _ h9 => h9) rfl dX8_readWord_34 ?_
    refine va_iald hx hb hK hP 1 1 rfl rfl (vp_in_nI (by omega) (by decide)) dX8_readWord_37 ?_
    refine lv_ti (y := (ftext e2_2)) (by rw [nI_clamp (by omega)]) ?_
    refine lv_i2l (v := (ftext e2_2).toInt64) hx hb dX8_readWord_38 rfl ?_
    refine lv_ldc2 hx hb hown (hts _ tw_1132) dX8_readWord_39 ?_
    refine lv_tl (y := ((97 : Int32).toInt64)) (by decide) ?_
    refine lv_ldc2 hx hb hown (hts _ tw_1133) dX8_readWord_42 ?_
    refine lv_tl (y := ((122 : Int32).toInt64)) (by decide) ?_
    refine ro_i (D := D) (va_runS (As := [.long ((ftext e2_2).toInt64), .long ((97 : Int32).toInt64), .long ((122 : Int32).toInt64)]) (rest := []) ⟨hx, hb, hml, hown, hts⟩ ((k_in l D k st lo (ftext e2_2) (97 : Int32) (122 : Int32)) H.size) (va_cwS 3 hts (gS tw_1111 tw_1112 tw_87 tw_1113) rfl rfl rfl (by decide +kernel) ⟨Nat.le_of_ble_eq_true rfl, Nat.le_of_ble_eq_true rfl⟩) (pS hS hAlo hlo hP hK (va_Dlo hD hAlo) hZ [] (by decide) rfl) rfl rfl hl.1 rfl (lv_room (Nat.le_of_ble_eq_true rfl)) dX8_readWord_45 ⟨Nat.le_of_ble_eq_true rfl, Nat.le_of_ble_eq_true rfl⟩) hS hA hP (fun r_4 H locs hw_4 hP hS => ?_)
    try dsimp only at hw_4
    rcases hw_4 with ⟨rfl, hw_4⟩ | ⟨rfl, hw_4⟩
    · refine lv_if_eq (tgt := 108) hx hb dX8_readWord_48 (by decide) (fun h => absurd h (by decide)) (fun _ => ?_)
      refine lv_aload_n hx hb dX8_readWord_51 rfl (lv_at hl 0 rfl) ?_
      refine lv_aload_n hx hb dX8_readWord_52 rfl (lv_at hl 0 rfl) ?_
      refine va_get (D := D) (ci := 8) (v := .long wd2_2) (C := RX8) (T := TX8) (N := 44) hx hb hts inX8 hown hK hP 0 rfl rfl 8 (by decide) (hts _ tw_981) (fun _ h9 => h9) rfl dX8_readWord_53 ?_
      refine lv_ldc2 hx hb hown (hts _ tw_1134) dX8_readWord_56 ?_
      refine W.lcmp hx hb dX8_readWord_59 ?_
      refine lv_if_le (tgt := 69) hx hb dX8_readWord_60 (by decide) (fun c_5 => ?_) (fun c_5 => ?_)
      · refine lv_ldc2 hx hb hown (hts _ tw_1136) dX8_readWord_69 ?_
        refine lv_tl (y := ((27 : Int32).toInt64)) (by decide) ?_
        refine lv_aload_n hx hb dX8_readWord_72 rfl (lv_at hl 0 rfl) ?_
        refine va_get (D := D) (ci := 8) (v := .long wd2_2) (C := RX8) (T := TX8) (N := 44) hx hb hts inX8 hown hK hP 0 rfl rfl 8 (by decide) (hts _ tw_981) (fun _ h9 => h9) rfl dX8_readWord_73 ?_
        refine lv_lmul hx hb dX8_readWord_76 ?_
        refine lv_topl (fun x_6 ex_6 => ?_)
        refine lv_aload_n hx hb dX8_readWord_77 rfl (lv_at hl 0 rfl) ?_
        refine va_get (D := D) (ci := 8) (v := .ref (a 5)) (C := RX8) (T := TX8) (N := 44) hx hb hts inX8 hown hK hP 0 rfl rfl 4 (by decide) (hts _ tw_977) (fun _ h9 => h9) rfl dX8_readWord_78 ?_
        refine lv_aload_n hx hb dX8_readWord_81 rfl (lv_at hl 0 rfl) ?_
        refine va_get (D := D) (ci := 8) (v := .int (nI e2_2)) (C := RX8) (T := TX8) (N := 44) hx hb hts inX8 hown hK hP 0 rfl rfl 9 (by decide) (hts _ tw_982) (fun _ h9 => h9) rfl dX8_readWord_82 ?_
        refine va_iald hx hb hK hP 1 1 rfl rfl (vp_in_nI (by omega) (by decide)) dX8_readWord_85 ?_
        refine lv_ti (y := (ftext e2_2)) (by rw [nI_clamp (by omega)]) ?_
        refine lv_i2l (v := (ftext e2_2).toInt64) hx hb dX8_readWord_86 rfl ?_
        refine lv_ladd hx hb dX8_readWord_87 ?_
        refine lv_topl (fun x_7 ex_7 => ?_)
        refine lv_ldc2 hx hb hown (hts _ tw_1137) dX8_readWord_88 ?_
        refine lv_tl (y := ((96 : Int32).toInt64)) (by decide) ?_
        refine lv_lsub hx hb dX8_readWord_91 ?_
        refine lv_topl (fun x_8 ex_8 => ?_)
        refine va_put (D := D) (ci := 8) (v := .long x_8) (ty := .long) (C := RX8) (T := TX8) (N := 44) hx hb hts inX8 tyX8 tyX8_ok nmX8 hown hK hP hD hS 0 rfl rfl 8 (by decide) (hts _ tw_981) (fun _ h9 => h9) rfl (by decide +kernel) rfl rfl (Nat.le_of_ble_eq_true rfl) dX8_readWord_92 (fun H locs hP hD hS => ?_)
        replace hP : va_P D classes [((a 0), .inr (8, (fX8 a (nI tx) fp (nI t0__1) x_8 (nI e2_2) nu na (nI rd) ts (nI ru) (nI rw) (nI ca) df db sd))), (aI k (a 5) 240 ftext)] H := hP
        replace hD : va_D A [((a 0), .inr (8, (fX8 a (nI tx) fp (nI t0__1) x_8 (nI e2_2) nu na (nI rd) ts (nI ru) (nI rw) (nI ca) df db sd))), (aI k (a 5) 240 ftext)] := hD
        refine lv_aload_n hx hb dX8_readWord_95 rfl (lv_at hl 0 rfl) ?_
        refine lv_dup hx hb dX8_readWord_96 rfl ?_
        refine va_get (D := D) (ci := 8) (v := .int (nI e2_2)) (C := RX8) (T := TX8) (N := 44) hx hb hts inX8 hown hK hP 0 rfl rfl 9 (by decide) (hts _ tw_982) (fun _ h9 => h9) rfl dX8_readWord_97 ?_
        refine lv_iconst (v := 1) hx hb dX8_readWord_100 (by decide) ?_
        refine lv_iadd hx hb dX8_readWord_101 ?_
        refine lv_ti (y := (nI (e2_2 + 1))) (nI_add e2_2 1) ?_
        refine va_put (D := D) (ci := 8) (v := .int (nI (e2_2 + 1))) (ty := .int) (C := RX8) (T := TX8) (N := 44) hx hb hts inX8 tyX8 tyX8_ok nmX8 hown hK hP hD hS 0 rfl rfl 9 (by decide) (hts _ tw_982) (fun _ h9 => h9) rfl (by decide +kernel) rfl rfl (Nat.le_of_ble_eq_true rfl) dX8_readWord_102 (fun H locs hP hD hS => ?_)
        replace hP : va_P D classes [((a 0), .inr (8, (fX8 a (nI tx) fp (nI t0__1) x_8 (nI (e2_2 + 1)) nu na (nI rd) ts (nI ru) (nI rw) (nI ca) df db sd))), (aI k (a 5) 240 ftext)] H := hP
        replace hD : va_D A [((a 0), .inr (8, (fX8 a (nI tx) fp (nI t0__1) x_8 (nI (e2_2 + 1)) nu na (nI rd) ts (nI ru) (nI rw) (nI ca) df db sd))), (aI k (a 5) 240 ftext)] := hD
        refine lv_goto (tgt := 18) hx hb dX8_readWord_105 (by decide) ?_
        exact ih_2 _ (x_8, e2_2 + 1) _ _ _ (by omega) ⟨rfl, ⟨by omega, by omega, (by rw [ex_8, ex_7, ex_6]; exact wB_step hv_2.1 hv_2.2.2 hw_4)⟩, hP, hD, hS, (lv_sub hl [0] rfl)⟩
      · refine lv_ldc2 hx hb hown (hts _ tw_1135) dX8_readWord_63 ?_
        refine lv_goto (tgt := 92) hx hb dX8_readWord_66 (by decide) ?_
        refine va_put (D := D) (ci := 8) (v := .long 2000000000000) (ty := .long) (C := RX8) (T := TX8) (N := 44) hx hb hts inX8 tyX8 tyX8_ok nmX8 hown hK hP hD hS 0 rfl rfl 8 (by decide) (hts _ tw_981) (fun _ h9 => h9) rfl (by decide +kernel) rfl rfl (Nat.le_of_ble_eq_true rfl) dX8_readWord_92 (fun H locs hP hD hS => ?_)
        replace hP : va_P D classes [((a 0), .inr (8, (fX8 a (nI tx) fp (nI t0__1) 2000000000000 (nI e2_2) nu na (nI rd) ts (nI ru) (nI rw) (nI ca) df db sd))), (aI k (a 5) 240 ftext)] H := hP
        replace hD : va_D A [((a 0), .inr (8, (fX8 a (nI tx) fp (nI t0__1) 2000000000000 (nI e2_2) nu na (nI rd) ts (nI ru) (nI rw) (nI ca) df db sd))), (aI k (a 5) 240 ftext)] := hD
        refine lv_aload_n hx hb dX8_readWord_95 rfl (lv_at hl 0 rfl) ?_
        refine lv_dup hx hb dX8_readWord_96 rfl ?_
        refine va_get (D := D) (ci := 8) (v := .int (nI e2_2)) (C := RX8) (T := TX8) (N := 44) hx hb hts inX8 hown hK hP 0 rfl rfl 9 (by decide) (hts _ tw_982) (fun _ h9 => h9) rfl dX8_readWord_97 ?_
        refine lv_iconst (v := 1) hx hb dX8_readWord_100 (by decide) ?_
        refine lv_iadd hx hb dX8_readWord_101 ?_
        refine lv_ti (y := (nI (e2_2 + 1))) (nI_add e2_2 1) ?_
        refine va_put (D := D) (ci := 8) (v := .int (nI (e2_2 + 1))) (ty := .int) (C := RX8) (T := TX8) (N := 44) hx hb hts inX8 tyX8 tyX8_ok nmX8 hown hK hP hD hS 0 rfl rfl 9 (by decide) (hts _ tw_982) (fun _ h9 => h9) rfl (by decide +kernel) rfl rfl (Nat.le_of_ble_eq_true rfl) dX8_readWord_102 (fun H locs hP hD hS => ?_)
        replace hP : va_P D classes [((a 0), .inr (8, (fX8 a (nI tx) fp (nI t0__1) 2000000000000 (nI (e2_2 + 1)) nu na (nI rd) ts (nI ru) (nI rw) (nI ca) df db sd))), (aI k (a 5) 240 ftext)] H := hP
        replace hD : va_D A [((a 0), .inr (8, (fX8 a (nI tx) fp (nI t0__1) 2000000000000 (nI (e2_2 + 1)) nu na (nI rd) ts (nI ru) (nI rw) (nI ca) df db sd))), (aI k (a 5) 240 ftext)] := hD
        refine lv_goto (tgt := 18) hx hb dX8_readWord_105 (by decide) ?_
        exact ih_2 _ (2000000000000, e2_2 + 1) _ _ _ (by omega) ⟨rfl, ⟨by omega, by omega, wB_far hv_2.1 hv_2.2.2 c_5 _⟩, hP, hD, hS, (lv_sub hl [0] rfl)⟩
    · refine lv_if_eq (tgt := 108) hx hb dX8_readWord_48 (by decide) (fun _ => ?_) (fun h => absurd (by decide) h)
      have hP9 := hP.sub (ws' := [((a 0), .inr (8, (fX8 a (nI tx) fp (nI t0__1) wd2_2 (nI e2_2) nu na (nI rd) ts (nI ru) (nI rw) (nI ca) df db sd))), (aI k (a 5) 240 ftext)]) [0, 1] rfl
      have hD9 := hD.sub (ws' := [((a 0), .inr (8, (fX8 a (nI tx) fp (nI t0__1) wd2_2 (nI e2_2) nu na (nI rd) ts (nI ru) (nI rw) (nI ca) df db sd))), (aI k (a 5) 240 ftext)]) [0, 1] (by decide) rfl
      exact W.vret hx hb hr (fun t ht hW => ⟨⟨(t0__1, wd2_2, e2_2), rfl, ⟨by omega, by omega, by omega, hv_2.2.2⟩, by rw [ht]; exact hP9, hD9⟩, hS.F ht⟩) hS.2.2 dX8_readWord_108


set_option maxHeartbeats 4000000 in
set_option maxRecDepth 100000 in
theorem m_needs3 (l : Launch) (D : va_G) (k : Nat → ClassId) (st : Nat → Nat) (lo : Nat) (a : Nat → Nat) (tx : Nat) (t0 : Nat) (we : Nat) (rd : Nat) (ru : Nat) (rw : Nat) (ca : Nat) (fp : Int32) (wd : Int64) (nu : Int32) (na : Int32) (ts : Int32) (df : Int32) (db : Int32) (sd : Int32) (ftext : Nat → Int32) (q0 : Int64) (ht : t0 ≤ tx) (htx : tx ≤ 240) (hdue : bigW q0) : CWi l D k st lo yX8_needs cX8_needs 3 (some .int) ({ frames := 2, cells := 0, slots := 0, locals := 46 }) 0 0 [.ref (a 0), .long q0] [((a 0), .inr (8, (fX8 a (nI tx) fp (nI t0) wd (nI we) nu na (nI rd) ts (nI ru) (nI rw) (nI ca) df db sd))), (aI k (a 5) 240 ftext)] (fun (r : Int32) (u : Nat × Int64 × Nat × Int32 × Nat) => match u with | (t0_, wd_, we_, fp_, er) => r = nI er ∧ er ≤ 1 ∧ t0 ≤ t0_ ∧ t0_ ≤ tx ∧ we_ ≤ tx ∧ (er = 0 → t0 + 3 ≤ t0_)) (fun (u : Nat × Int64 × Nat × Int32 × Nat) => match u with | (t0_, wd_, we_, fp_, er) => [((a 0), .inr (8, (fX8 a (nI tx) fp_ (nI t0_) wd_ (nI we_) nu na (nI rd) ts (nI ru) (nI rw) (nI ca) df db sd))), (aI k (a 5) 240 ftext)]) := by
  intro sz
  refine Met.ofW (cc := cX8_needs) (maxL := 3) (ret := (some .int)) (by decide) rfl ?_
  intro p e s m args below meth c s₁ B hml hv
  obtain ⟨rfl, hsz, hlo, hP, hK, hDL, hZ⟩ := hv
  have hx := B.exec
  have hb := B.bytes
  have hr := B.returns
  have hts := WS_ts B.pre
  have hown : s.vm.findClass RX8 = some m.cls := findClass_of_methodNamed B.named
  have hlocks := B.notSynchronized
  subst hsz
  have hD := hDL.self (sz := s.heap.size)
  have hAlo := A_lo hDL hlo
  generalize hAe : va_A [((a 0), .inr (8, (fX8 a (nI tx) fp (nI t0) wd (nI we) nu na (nI rd) ts (nI ru) (nI rw) (nI ca) df db sd))), (aI k (a 5) 240 ftext)] s.heap.size = A at hD hAlo ⊢
  have hA : ∀ q : Nat, s.heap.size ≤ q → A q := fun q h => by rw [← hAe]; exact Or.inr h
  have hS : va_S A s.heap s.heap [] := va_S.rf
  have hl := lv_entry ([.ref (a 0), .long q0]) (n := 3) (Nat.le_of_ble_eq_true rfl)
  rw [lg_entry_eq]
  generalize (lg_sl ([.ref (a 0), .long q0]) ++ List.replicate (3 - (lg_sl ([.ref (a 0), .long q0])).length) Slot.unset).toArray = ls at hl ⊢
  have hl : lv_has ls 3 [(0, .ref (a 0)), (1, .long q0)] := hl
  refine lv_aload_n hx hb dX8_needs_0 rfl (lv_at hl 0 rfl) ?_
  refine rw_v (D := D) (wr := []) (va_runV (As := []) (rest := []) ⟨hx, hb, hml, hown, hts⟩ ((m_readWord3 l D k st lo a tx t0 we rd ru rw ca fp wd nu na ts df db sd ftext (by omega) (by omega)) s.heap.size) (cwV 0 hts (gV tw_1128 tw_1130 tw_29 tw_87 tw_1131) rfl rfl rfl (by decide +kernel) ⟨Nat.le_of_ble_eq_true rfl, Nat.le_of_ble_eq_true rfl⟩) (pV hS hAlo hlo hP hK (va_Dlo hD hAlo) hZ [0, 1] (by decide) rfl (ci := 8) (q := (RX8, TX8, 44)) (q0 := 0) rfl rfl) rfl rfl hl.1 rfl (lv_room (Nat.le_of_ble_eq_true rfl)) dX8_needs_1 ⟨Nat.le_of_ble_eq_true rfl, Nat.le_of_ble_eq_true rfl⟩) hS hA hP hD [0, 1] [] rfl rfl (by decide) (by decide) (fun u H locs hw_1 hP hD hS => ?_)
  obtain ⟨t0__1, wd__1, we__1⟩ := u
  replace hP : va_P D classes [((a 0), .inr (8, (fX8 a (nI tx) fp (nI t0__1) wd__1 (nI we__1) nu na (nI rd) ts (nI ru) (nI rw) (nI ca) df db sd))), (aI k (a 5) 240 ftext)] H := hP
  replace hD : va_D A [((a 0), .inr (8, (fX8 a (nI tx) fp (nI t0__1) wd__1 (nI we__1) nu na (nI rd) ts (nI ru) (nI rw) (nI ca) df db sd))), (aI k (a 5) 240 ftext)] := hD
  try dsimp only at hw_1
  refine lv_aload_n hx hb dX8_needs_4 rfl (lv_at hl 0 rfl) ?_
  refine va_get (D := D) (ci := 8) (v := .long wd__1) (C := RX8) (T := TX8) (N := 44) hx hb hts inX8 hown hK hP 0 rfl rfl 8 (by decide) (hts _ tw_981) (fun _ h9 => h9) rfl dX8_needs_5 ?_
  refine lv_lload_n hx hb dX8_needs_8 rfl (lv_at hl 1 rfl) ?_
  refine W.lcmp hx hb dX8_needs_9 ?_
  refine lv_if_eq (tgt := 23) hx hb dX8_needs_10 (by decide) (fun c_2 => ?_) (fun c_2 => ?_)
  · refine lv_aload_n hx hb dX8_needs_23 rfl (lv_at hl 0 rfl) ?_
    refine lv_aload_n hx hb dX8_needs_24 rfl (lv_at hl 0 rfl) ?_
    refine va_get (D := D) (ci := 8) (v := .int (nI we__1)) (C := RX8) (T := TX8) (N := 44) hx hb hts inX8 hown hK hP 0 rfl rfl 9 (by decide) (hts _ tw_982) (fun _ h9 => h9) rfl dX8_needs_25 ?_
    refine va_put (D := D) (ci := 8) (v := .int (nI we__1)) (ty := .int) (C := RX8) (T := TX8) (N := 44) hx hb hts inX8 tyX8 tyX8_ok nmX8 hown hK hP hD hS 0 rfl rfl 7 (by decide) (hts _ tw_980) (fun _ h9 => h9) rfl (by decide +kernel) rfl rfl (Nat.le_of_ble_eq_true rfl) dX8_needs_28 (fun H locs hP hD hS => ?_)
    replace hP : va_P D classes [((a 0), .inr (8, (fX8 a (nI tx) fp (nI we__1) wd__1 (nI we__1) nu na (nI rd) ts (nI ru) (nI rw) (nI ca) df db sd))), (aI k (a 5) 240 ftext)] H := hP
    replace hD : va_D A [((a 0), .inr (8, (fX8 a (nI tx) fp (nI we__1) wd__1 (nI we__1) nu na (nI rd) ts (nI ru) (nI rw) (nI ca) df db sd))), (aI k (a 5) 240 ftext)] := hD
    refine lv_iconst (v := 0) hx hb dX8_needs_31 (by decide) ?_
    have hP9 := hP.sub (ws' := [((a 0), .inr (8, (fX8 a (nI tx) fp (nI we__1) wd__1 (nI we__1) nu na (nI rd) ts (nI ru) (nI rw) (nI ca) df db sd))), (aI k (a 5) 240 ftext)]) [0, 1] rfl
    have hD9 := hD.sub (ws' := [((a 0), .inr (8, (fX8 a (nI tx) fp (nI we__1) wd__1 (nI we__1) nu na (nI rd) ts (nI ru) (nI rw) (nI ca) df db sd))), (aI k (a 5) 240 ftext)]) [0, 1] (by decide) rfl
    exact W.iret (v := 0) hx hb hr (fun t ht hW => ⟨⟨0, (we__1, wd__1, we__1, fp, 0), rfl, ⟨rfl, by omega, by omega, by omega, by omega, fun _ => by have h9 := wB_big hw_1.2.2.2 (by rw [lgc0 c_2]; exact hdue); omega⟩, by rw [ht]; exact hP9, hD9⟩, hS.F ht⟩) hS.2.2 dX8_needs_32
  · refine lv_aload_n hx hb dX8_needs_13 rfl (lv_at hl 0 rfl) ?_
    refine lv_iconst (v := 1) hx hb dX8_needs_14 (by decide) ?_
    refine lv_aload_n hx hb dX8_needs_15 rfl (lv_at hl 0 rfl) ?_
    refine va_get (D := D) (ci := 8) (v := .int (nI t0__1)) (C := RX8) (T := TX8) (N := 44) hx hb hts inX8 hown hK hP 0 rfl rfl 7 (by decide) (hts _ tw_980) (fun _ h9 => h9) rfl dX8_needs_16 ?_
    refine rw_i (D := D) (wr := [(aI k (a 5) 240 ftext)]) (va_runV (As := [.int 1, .int (nI t0__1)]) (rest := []) ⟨hx, hb, hml, hown, hts⟩ ((m_fails l D k st lo a tx t0__1 we__1 rd ru rw ca fp wd__1 nu na ts df db sd 1 (nI t0__1)) H.size) (cwV 2 hts (gV tw_1151 tw_1153 tw_31 tw_87 tw_1154) rfl rfl rfl (by decide +kernel) ⟨Nat.le_of_ble_eq_true rfl, Nat.le_of_ble_eq_true rfl⟩) (pV hS hAlo hlo hP hK (va_Dlo hD hAlo) hZ [0] (by decide) rfl (ci := 8) (q := (RX8, TX8, 44)) (q0 := 0) rfl rfl) rfl rfl hl.1 rfl (lv_room (Nat.le_of_ble_eq_true rfl)) dX8_needs_19 ⟨Nat.le_of_ble_eq_true rfl, Nat.le_of_ble_eq_true rfl⟩) hS hA hP hD [0] [1] rfl rfl (by decide) (by decide) (fun r_3 u H locs hw_3 hP hD hS => ?_)
    obtain ⟨fp__3, rfl⟩ : ∃ z, z = u := ⟨_, rfl⟩
    replace hP : va_P D classes [(aI k (a 5) 240 ftext), ((a 0), .inr (8, (fX8 a (nI tx) fp__3 (nI t0__1) wd__1 (nI we__1) nu na (nI rd) ts (nI ru) (nI rw) (nI ca) df db sd)))] H := hP
    replace hD : va_D A [(aI k (a 5) 240 ftext), ((a 0), .inr (8, (fX8 a (nI tx) fp__3 (nI t0__1) wd__1 (nI we__1) nu na (nI rd) ts (nI ru) (nI rw) (nI ca) df db sd)))] := hD
    try dsimp only at hw_3
    subst hw_3
    have hP9 := hP.sub (ws' := [((a 0), .inr (8, (fX8 a (nI tx) fp__3 (nI t0__1) wd__1 (nI we__1) nu na (nI rd) ts (nI ru) (nI rw) (nI ca) df db sd))), (aI k (a 5) 240 ftext)]) [1, 0] rfl
    have hD9 := hD.sub (ws' := [((a 0), .inr (8, (fX8 a (nI tx) fp__3 (nI t0__1) wd__1 (nI we__1) nu na (nI rd) ts (nI ru) (nI rw) (nI ca) df db sd))), (aI k (a 5) 240 ftext)]) [1, 0] (by decide) rfl
    exact W.iret (v := 1) hx hb hr (fun t ht hW => ⟨⟨1, (t0__1, wd__1, we__1, fp__3, 1), rfl, ⟨rfl, by omega, by omega, by omega, by omega, fun h => absurd h (by decide)⟩, by rw [ht]; exact hP9, hD9⟩, hS.F ht⟩) hS.2.2 dX8_needs_22

theorem dX8_takeSeen_0 : decode cX8_takeSeen 0 = .ok (.aload_n 0, 1) := by decide +kernel
theorem dX8_takeSeen_1 : decode cX8_takeSeen 1 = .ok (.bipush 115, 2) := by decide +kernel
theorem dX8_takeSeen_3 : decode cX8_takeSeen 3 = .ok (.bipush 101, 2) := by decide +kernel
theorem dX8_takeSeen_5 : decode cX8_takeSeen 5 = .ok (.bipush 101, 2) := by decide +kernel
theorem dX8_takeSeen_7 : decode cX8_takeSeen 7 = .ok (.invokestatic 148, 3) := by decide +kernel
theorem dX8_takeSeen_10 : decode cX8_takeSeen 10 = .ok (.bipush 110, 2) := by decide +kernel
theorem dX8_takeSeen_12 : decode cX8_takeSeen 12 = .ok (.invokestatic 144, 3) := by decide +kernel
theorem dX8_takeSeen_15 : decode cX8_takeSeen 15 = .ok (.invokevirtual 186, 3) := by decide +kernel
theorem dX8_takeSeen_18 : decode cX8_takeSeen 18 = .ok (.istore_n 3, 1) := by decide +kernel
theorem dX8_takeSeen_19 : decode cX8_takeSeen 19 = .ok (.iload_n 3, 1) := by decide +kernel
theorem dX8_takeSeen_20 : decode cX8_takeSeen 20 = .ok (.ifCond .le 7, 3) := by decide +kernel
theorem dX8_takeSeen_23 : decode cX8_takeSeen 23 = .ok (.iload_n 3, 1) := by decide +kernel
theorem dX8_takeSeen_24 : decode cX8_takeSeen 24 = .ok (.goto 10, 3) := by decide +kernel
theorem dX8_takeSeen_27 : decode cX8_takeSeen 27 = .ok (.aload_n 0, 1) := by decide +kernel
theorem dX8_takeSeen_28 : decode cX8_takeSeen 28 = .ok (.iconst 1, 1) := by decide +kernel
theorem dX8_takeSeen_29 : decode cX8_takeSeen 29 = .ok (.bipush 24, 2) := by decide +kernel
theorem dX8_takeSeen_31 : decode cX8_takeSeen 31 = .ok (.invokevirtual 183, 3) := by decide +kernel
theorem dX8_takeSeen_34 : decode cX8_takeSeen 34 = .ok (.istore_n 3, 1) := by decide +kernel
theorem dX8_takeSeen_35 : decode cX8_takeSeen 35 = .ok (.bipush 12, 2) := by decide +kernel
theorem dX8_takeSeen_37 : decode cX8_takeSeen 37 = .ok (.aload_n 0, 1) := by decide +kernel
theorem dX8_takeSeen_38 : decode cX8_takeSeen 38 = .ok (.getfield 276, 3) := by decide +kernel
theorem dX8_takeSeen_41 : decode cX8_takeSeen 41 = .ok (.imul, 1) := by decide +kernel
theorem dX8_takeSeen_42 : decode cX8_takeSeen 42 = .ok (.aload_n 0, 1) := by decide +kernel
theorem dX8_takeSeen_43 : decode cX8_takeSeen 43 = .ok (.getfield 57, 3) := by decide +kernel
theorem dX8_takeSeen_46 : decode cX8_takeSeen 46 = .ok (.aload_n 0, 1) := by decide +kernel
theorem dX8_takeSeen_47 : decode cX8_takeSeen 47 = .ok (.getfield 276, 3) := by decide +kernel
theorem dX8_takeSeen_50 : decode cX8_takeSeen 50 = .ok (.iaload, 1) := by decide +kernel
theorem dX8_takeSeen_51 : decode cX8_takeSeen 51 = .ok (.iadd, 1) := by decide +kernel
theorem dX8_takeSeen_52 : decode cX8_takeSeen 52 = .ok (.istore 4, 2) := by decide +kernel
theorem dX8_takeSeen_54 : decode cX8_takeSeen 54 = .ok (.iload_n 3, 1) := by decide +kernel
theorem dX8_takeSeen_55 : decode cX8_takeSeen 55 = .ok (.ifCond .ne 29, 3) := by decide +kernel
theorem dX8_takeSeen_58 : decode cX8_takeSeen 58 = .ok (.aload_n 0, 1) := by decide +kernel
theorem dX8_takeSeen_59 : decode cX8_takeSeen 59 = .ok (.getfield 163, 3) := by decide +kernel
theorem dX8_takeSeen_62 : decode cX8_takeSeen 62 = .ok (.aload_n 0, 1) := by decide +kernel
theorem dX8_takeSeen_63 : decode cX8_takeSeen 63 = .ok (.getfield 60, 3) := by decide +kernel
theorem dX8_takeSeen_66 : decode cX8_takeSeen 66 = .ok (.iload 4, 2) := by decide +kernel
theorem dX8_takeSeen_68 : decode cX8_takeSeen 68 = .ok (.iconst 1, 1) := by decide +kernel
theorem dX8_takeSeen_69 : decode cX8_takeSeen 69 = .ok (.isub, 1) := by decide +kernel
theorem dX8_takeSeen_70 : decode cX8_takeSeen 70 = .ok (.iaload, 1) := by decide +kernel
theorem dX8_takeSeen_71 : decode cX8_takeSeen 71 = .ok (.if_icmp .gt 13, 3) := by decide +kernel
theorem dX8_takeSeen_74 : decode cX8_takeSeen 74 = .ok (.aload_n 0, 1) := by decide +kernel
theorem dX8_takeSeen_75 : decode cX8_takeSeen 75 = .ok (.iconst 3, 1) := by decide +kernel
theorem dX8_takeSeen_76 : decode cX8_takeSeen 76 = .ok (.aload_n 0, 1) := by decide +kernel
theorem dX8_takeSeen_77 : decode cX8_takeSeen 77 = .ok (.getfield 170, 3) := by decide +kernel
theorem dX8_takeSeen_80 : decode cX8_takeSeen 80 = .ok (.invokevirtual 159, 3) := by decide +kernel
theorem dX8_takeSeen_83 : decode cX8_takeSeen 83 = .ok (.istore_n 3, 1) := by decide +kernel
theorem dX8_takeSeen_84 : decode cX8_takeSeen 84 = .ok (.iload_n 3, 1) := by decide +kernel
theorem dX8_takeSeen_85 : decode cX8_takeSeen 85 = .ok (.ifCond .le 5, 3) := by decide +kernel
theorem dX8_takeSeen_88 : decode cX8_takeSeen 88 = .ok (.iload_n 3, 1) := by decide +kernel
theorem dX8_takeSeen_89 : decode cX8_takeSeen 89 = .ok (.ireturn, 1) := by decide +kernel
theorem dX8_takeSeen_90 : decode cX8_takeSeen 90 = .ok (.aload_n 0, 1) := by decide +kernel
theorem dX8_takeSeen_91 : decode cX8_takeSeen 91 = .ok (.getfield 60, 3) := by decide +kernel
theorem dX8_takeSeen_94 : decode cX8_takeSeen 94 = .ok (.iload 4, 2) := by decide +kernel
theorem dX8_takeSeen_96 : decode cX8_takeSeen 96 = .ok (.aload_n 0, 1) := by decide +kernel
theorem dX8_takeSeen_97 : decode cX8_takeSeen 97 = .ok (.getfield 163, 3) := by decide +kernel
theorem dX8_takeSeen_100 : decode cX8_takeSeen 100 = .ok (.iastore, 1) := by decide +kernel
theorem dX8_takeSeen_101 : decode cX8_takeSeen 101 = .ok (.aload_n 0, 1) := by decide +kernel
theorem dX8_takeSeen_102 : decode cX8_takeSeen 102 = .ok (.lload_n 1, 1) := by decide +kernel
theorem dX8_takeSeen_103 : decode cX8_takeSeen 103 = .ok (.invokevirtual 186, 3) := by decide +kernel
theorem dX8_takeSeen_106 : decode cX8_takeSeen 106 = .ok (.istore_n 3, 1) := by decide +kernel
theorem dX8_takeSeen_107 : decode cX8_takeSeen 107 = .ok (.iload_n 3, 1) := by decide +kernel
theorem dX8_takeSeen_108 : decode cX8_takeSeen 108 = .ok (.ifCond .le 7, 3) := by decide +kernel
theorem dX8_takeSeen_111 : decode cX8_takeSeen 111 = .ok (.iload_n 3, 1) := by decide +kernel
theorem dX8_takeSeen_112 : decode cX8_takeSeen 112 = .ok (.goto 10, 3) := by decide +kernel
theorem dX8_takeSeen_115 : decode cX8_takeSeen 115 = .ok (.aload_n 0, 1) := by decide +kernel
theorem dX8_takeSeen_116 : decode cX8_takeSeen 116 = .ok (.iconst 0, 1) := by decide +kernel
theorem dX8_takeSeen_117 : decode cX8_takeSeen 117 = .ok (.bipush 24, 2) := by decide +kernel
theorem dX8_takeSeen_119 : decode cX8_takeSeen 119 = .ok (.invokevirtual 183, 3) := by decide +kernel
theorem dX8_takeSeen_122 : decode cX8_takeSeen 122 = .ok (.istore_n 3, 1) := by decide +kernel
theorem dX8_takeSeen_123 : decode cX8_takeSeen 123 = .ok (.aload_n 0, 1) := by decide +kernel
theorem dX8_takeSeen_124 : decode cX8_takeSeen 124 = .ok (.getfield 63, 3) := by decide +kernel
theorem dX8_takeSeen_127 : decode cX8_takeSeen 127 = .ok (.iload 4, 2) := by decide +kernel
theorem dX8_takeSeen_129 : decode cX8_takeSeen 129 = .ok (.aload_n 0, 1) := by decide +kernel
theorem dX8_takeSeen_130 : decode cX8_takeSeen 130 = .ok (.getfield 163, 3) := by decide +kernel
theorem dX8_takeSeen_133 : decode cX8_takeSeen 133 = .ok (.iastore, 1) := by decide +kernel
theorem dX8_takeSeen_134 : decode cX8_takeSeen 134 = .ok (.aload_n 0, 1) := by decide +kernel
theorem dX8_takeSeen_135 : decode cX8_takeSeen 135 = .ok (.getfield 57, 3) := by decide +kernel
theorem dX8_takeSeen_138 : decode cX8_takeSeen 138 = .ok (.aload_n 0, 1) := by decide +kernel
theorem dX8_takeSeen_139 : decode cX8_takeSeen 139 = .ok (.getfield 276, 3) := by decide +kernel
theorem dX8_takeSeen_142 : decode cX8_takeSeen 142 = .ok (.dup2, 1) := by decide +kernel
theorem dX8_takeSeen_143 : decode cX8_takeSeen 143 = .ok (.iaload, 1) := by decide +kernel
theorem dX8_takeSeen_144 : decode cX8_takeSeen 144 = .ok (.iconst 1, 1) := by decide +kernel
theorem dX8_takeSeen_145 : decode cX8_takeSeen 145 = .ok (.iadd, 1) := by decide +kernel
theorem dX8_takeSeen_146 : decode cX8_takeSeen 146 = .ok (.iastore, 1) := by decide +kernel
theorem dX8_takeSeen_147 : decode cX8_takeSeen 147 = .ok (.iload_n 3, 1) := by decide +kernel
theorem dX8_takeSeen_148 : decode cX8_takeSeen 148 = .ok (.ireturn, 1) := by decide +kernel
set_option maxHeartbeats 4000000 in
set_option maxRecDepth 100000 in
theorem m_takeSeen (l : Launch) (D : va_G) (k : Nat → ClassId) (st : Nat → Nat) (lo : Nat) (a : Nat → Nat) (tx : Nat) (t0 : Nat) (we : Nat) (rd : Nat) (ru : Nat) (rw : Nat) (ca : Nat) (fp : Int32) (wd : Int64) (nu : Int32) (na : Int32) (ts : Int32) (df : Int32) (db : Int32) (sd : Int32) (ftext : Nat → Int32) (bm : Nat → Nat) (fbarSeen : Nat → Int32) (fbarFrom : Nat → Int32) (q0 : Int64) (ht : t0 ≤ tx) (htx : tx ≤ 240) (hbm : ∀ j, bm j ≤ 12) (hru3 : ru ≤ 3) (hdue : bigW q0) (hb1 : 1 ≤ bm ru ∧ bm ru ≤ 11) : CWi l D k st lo yX8_takeSeen cX8_takeSeen 5 (some .int) ({ frames := 3, cells := 0, slots := 0, locals := 74 }) 0 0 [.ref (a 0), .long q0] [((a 0), .inr (8, (fX8 a (nI tx) fp (nI t0) wd (nI we) nu na (nI rd) ts (nI ru) (nI rw) (nI ca) df db sd))), (aI k (a 5) 240 ftext), (aI k (a 25) 4 (nF bm)), (aI k (a 26) 48 fbarSeen), (aI k (a 27) 48 fbarFrom)] (fun (r : Int32) (u : Nat × Int64 × Nat × Int32 × Int32 × Int32 × (Nat → Nat) × (Nat → Int32) × (Nat → Int32) × Nat) => match u with | (t0_, wd_, we_, fp_, nu_, na_, bm_, fbarSeen_, fbarFrom_, er) => r = nI er ∧ er ≤ 3 ∧ t0 ≤ t0_ ∧ t0_ ≤ tx ∧ (∀ j, bm_ j ≤ 12) ∧ (er = 0 → t0 + 8 ≤ t0_ ∧ bm_ ru = bm ru + 1)) (fun (u : Nat × Int64 × Nat × Int32 × Int32 × Int32 × (Nat → Nat) × (Nat → Int32) × (Nat → Int32) × Nat) => match u with | (t0_, wd_, we_, fp_, nu_, na_, bm_, fbarSeen_, fbarFrom_, er) => [((a 0), .inr (8, (fX8 a (nI tx) fp_ (nI t0_) wd_ (nI we_) nu_ na_ (nI rd) ts (nI ru) (nI rw) (nI ca) df db sd))), (aI k (a 5) 240 ftext), (aI k (a 25) 4 (nF bm_)), (aI k (a 26) 48 fbarSeen_), (aI k (a 27) 48 fbarFrom_)]) := by
  intro sz
  refine Met.ofW (cc := cX8_takeSeen) (maxL := 5) (ret := (some .int)) (by decide) rfl ?_
  intro p e s m args below meth c s₁ B hml hv
  obtain ⟨rfl, hsz, hlo, hP, hK, hDL, hZ⟩ := hv
  have hx := B.exec
  have hb := B.bytes
  have hr := B.returns
  have hts := WS_ts B.pre
  have hown : s.vm.findClass RX8 = some m.cls := findClass_of_methodNamed B.named
  have hlocks := B.notSynchronized
  subst hsz
  have hD := hDL.self (sz := s.heap.size)
  have hAlo := A_lo hDL hlo
  generalize hAe : va_A [((a 0), .inr (8, (fX8 a (nI tx) fp (nI t0) wd (nI we) nu na (nI rd) ts (nI ru) (nI rw) (nI ca) df db sd))), (aI k (a 5) 240 ftext), (aI k (a 25) 4 (nF bm)), (aI k (a 26) 48 fbarSeen), (aI k (a 27) 48 fbarFrom)] s.heap.size = A at hD hAlo ⊢
  have hA : ∀ q : Nat, s.heap.size ≤ q → A q := fun q h => by rw [← hAe]; exact Or.inr h
  have hS : va_S A s.heap s.heap [] := va_S.rf
  have hl := lv_entry ([.ref (a 0), .long q0]) (n := 5) (Nat.le_of_ble_eq_true rfl)
  rw [lg_entry_eq]
  generalize (lg_sl ([.ref (a 0), .long q0]) ++ List.replicate (5 - (lg_sl ([.ref (a 0), .long q0])).length) Slot.unset).toArray = ls at hl ⊢
  have hl : lv_has ls 5 [(0, .ref (a 0)), (1, .long q0)] := hl
  refine lv_aload_n hx hb dX8_takeSeen_0 rfl (lv_at hl 0 rfl) ?_
  refine lv_bipush (v := 115) hx hb dX8_takeSeen_1 (by decide) ?_
  refine lv_bipush (v := 101) hx hb dX8_takeSeen_3 (by decide) ?_
  refine lv_bipush (v := 101) hx hb dX8_takeSeen_5 (by decide) ?_
  refine ro_l (D := D) (va_runS (As := [.int 115, .int 101, .int 101]) (rest := [.ref (a 0)]) ⟨hx, hb, hml, hown, hts⟩ ((m_code_seen l D k st lo ) s.heap.size) (va_cwS 3 hts (gS tw_1142 tw_1143 tw_87 tw_1144) rfl rfl rfl (by decide +kernel) ⟨Nat.le_of_ble_eq_true rfl, Nat.le_of_ble_eq_true rfl⟩) (pS hS hAlo hlo hP hK (va_Dlo hD hAlo) hZ [] (by decide) rfl) rfl rfl hl.1 rfl (lv_room (Nat.le_of_ble_eq_true rfl)) dX8_takeSeen_7 ⟨Nat.le_of_ble_eq_true rfl, Nat.le_of_ble_eq_true rfl⟩) hS hA hP (fun r_1 H locs hw_1 hP hS => ?_)
  try dsimp only at hw_1
  subst hw_1
  refine lv_bipush (v := 110) hx hb dX8_takeSeen_10 (by decide) ?_
  refine ro_l (D := D) (va_runS (As := [.long 13991, .int 110]) (rest := [.ref (a 0)]) ⟨hx, hb, hml, hown, hts⟩ ((m_longer_seen l D k st lo ) H.size) (va_cwS 2 hts (gS tw_1148 tw_1149 tw_87 tw_1150) rfl rfl rfl (by decide +kernel) ⟨Nat.le_of_ble_eq_true rfl, Nat.le_of_ble_eq_true rfl⟩) (pS hS hAlo hlo hP hK (va_Dlo hD hAlo) hZ [] (by decide) rfl) rfl rfl hl.1 rfl (lv_room (Nat.le_of_ble_eq_true rfl)) dX8_takeSeen_12 ⟨Nat.le_of_ble_eq_true rfl, Nat.le_of_ble_eq_true rfl⟩) hS hA hP (fun r_2 H locs hw_2 hP hS => ?_)
  try dsimp only at hw_2
  subst hw_2
  refine rw_i (D := D) (wr := [(aI k (a 25) 4 (nF bm)), (aI k (a 26) 48 fbarSeen), (aI k (a 27) 48 fbarFrom)]) (va_runV (As := [.long 377771]) (rest := []) ⟨hx, hb, hml, hown, hts⟩ ((m_needs3 l D k st lo a tx t0 we rd ru rw ca fp wd nu na ts df db sd ftext 377771 (by omega) (by omega) (by decide +kernel)) H.size) (cwV 1 hts (gV tw_1169 tw_1171 tw_35 tw_87 tw_1172) rfl rfl rfl (by decide +kernel) ⟨Nat.le_of_ble_eq_true rfl, Nat.le_of_ble_eq_true rfl⟩) (pV hS hAlo hlo hP hK (va_Dlo hD hAlo) hZ [0, 1] (by decide) rfl (ci := 8) (q := (RX8, TX8, 44)) (q0 := 0) rfl rfl) rfl rfl hl.1 rfl (lv_room (Nat.le_of_ble_eq_true rfl)) dX8_takeSeen_15 ⟨Nat.le_of_ble_eq_true rfl, Nat.le_of_ble_eq_true rfl⟩) hS hA hP hD [0, 1] [2, 3, 4] rfl rfl (by decide) (by decide) (fun r_3 u H locs hw_3 hP hD hS => ?_)
  obtain ⟨t0__3, wd__3, we__3, fp__3, er_3⟩ := u
  replace hP : va_P D classes [(aI k (a 25) 4 (nF bm)), (aI k (a 26) 48 fbarSeen), (aI k (a 27) 48 fbarFrom), ((a 0), .inr (8, (fX8 a (nI tx) fp__3 (nI t0__3) wd__3 (nI we__3) nu na (nI rd) ts (nI ru) (nI rw) (nI ca) df db sd))), (aI k (a 5) 240 ftext)] H := hP
  replace hD : va_D A [(aI k (a 25) 4 (nF bm)), (aI k (a 26) 48 fbarSeen), (aI k (a 27) 48 fbarFrom), ((a 0), .inr (8, (fX8 a (nI tx) fp__3 (nI t0__3) wd__3 (nI we__3) nu na (nI rd) ts (nI ru) (nI rw) (nI ca) df db sd))), (aI k (a 5) 240 ftext)] := hD
  try dsimp only at hw_3
  obtain ⟨rfl, hw_3⟩ := hw_3
  refine lv_istore_n (lv' := [(3, .int (nI er_3)), (0, .ref (a 0)), (1, .long q0)]) hx hb dX8_takeSeen_18 rfl hl (by decide) rfl (fun ls hl => ?_)
  refine lv_iload_n hx hb dX8_takeSeen_19 rfl (lv_at hl 0 rfl) ?_
  refine lv_if_le (tgt := 27) hx hb dX8_takeSeen_20 (by decide) (fun c_4 => ?_) (fun c_4 => ?_)
  · have c_4 := (nI_leI (a := er_3) (b := 0) (by omega) (by omega)).mp c_4
    refine lv_aload_n hx hb dX8_takeSeen_27 rfl (lv_at hl 1 rfl) ?_
    refine lv_iconst (v := 1) hx hb dX8_takeSeen_28 (by decide) ?_
    refine lv_bipush (v := 24) hx hb dX8_takeSeen_29 (by decide) ?_
    refine rw_i (D := D) (wr := [(aI k (a 25) 4 (nF bm)), (aI k (a 26) 48 fbarSeen), (aI k (a 27) 48 fbarFrom)]) (va_runV (As := [.int 1, .int 24]) (rest := []) ⟨hx, hb, hml, hown, hts⟩ ((m_takeNumber l D k st lo a tx t0__3 we__3 rd ru rw ca fp__3 wd__3 nu na ts df db sd ftext 1 24 (by omega) (by omega)) H.size) (cwV 2 hts (gV tw_1159 tw_1161 tw_33 tw_87 tw_1162) rfl rfl rfl (by decide +kernel) ⟨Nat.le_of_ble_eq_true rfl, Nat.le_of_ble_eq_true rfl⟩) (pV hS hAlo hlo hP hK (va_Dlo hD hAlo) hZ [3, 4] (by decide) rfl (ci := 8) (q := (RX8, TX8, 44)) (q0 := 0) rfl rfl) rfl rfl hl.1 rfl (lv_room (Nat.le_of_ble_eq_true rfl)) dX8_takeSeen_31 ⟨Nat.le_of_ble_eq_true rfl, Nat.le_of_ble_eq_true rfl⟩) hS hA hP hD [3, 4] [0, 1, 2] rfl rfl (by decide) (by decide) (fun r_5 u H locs hw_5 hP hD hS => ?_)
    obtain ⟨t0__5, nu__5, na__5, fp__5, er_5⟩ := u
    replace hP : va_P D classes [(aI k (a 25) 4 (nF bm)), (aI k (a 26) 48 fbarSeen), (aI k (a 27) 48 fbarFrom), ((a 0), .inr (8, (fX8 a (nI tx) fp__5 (nI t0__5) wd__3 (nI we__3) nu__5 na__5 (nI rd) ts (nI ru) (nI rw) (nI ca) df db sd))), (aI k (a 5) 240 ftext)] H := hP
    replace hD : va_D A [(aI k (a 25) 4 (nF bm)), (aI k (a 26) 48 fbarSeen), (aI k (a 27) 48 fbarFrom), ((a 0), .inr (8, (fX8 a (nI tx) fp__5 (nI t0__5) wd__3 (nI we__3) nu__5 na__5 (nI rd) ts (nI ru) (nI rw) (nI ca) df db sd))), (aI k (a 5) 240 ftext)] := hD
    try dsimp only at hw_5
    obtain ⟨rfl, hw_5⟩ := hw_5
    refine lv_istore_n (lv' := [(3, .int (nI er_5)), (0, .ref (a 0)), (1, .long q0)]) hx hb dX8_takeSeen_34 rfl hl (by decide) rfl (fun ls hl => ?_)
    refine lv_bipush (v := 12) hx hb dX8_takeSeen_35 (by decide) ?_
    refine lv_aload_n hx hb dX8_takeSeen_37 rfl (lv_at hl 1 rfl) ?_
    refine va_get (D := D) (ci := 8) (v := .int (nI ru)) (C := RX8) (T := TX8) (N := 44) hx hb hts inX8 hown hK hP 3 rfl rfl 23 (by decide) (hts _ tw_996) (fun _ h9 => h9) rfl dX8_takeSeen_38 ?_
    refine lv_imul hx hb dX8_takeSeen_41 ?_
    refine lv_ti (y := (nI (12 * ru))) (pk_mul 12 ru) ?_
    refine lv_aload_n hx hb dX8_takeSeen_42 rfl (lv_at hl 1 rfl) ?_
    refine va_get (D := D) (ci := 8) (v := .ref (a 25)) (C := RX8) (T := TX8) (N := 44) hx hb hts inX8 hown hK hP 3 rfl rfl 24 (by decide) (hts _ tw_997) (fun _ h9 => h9) rfl dX8_takeSeen_43 ?_
    refine lv_aload_n hx hb dX8_takeSeen_46 rfl (lv_at hl 1 rfl) ?_
    refine va_get (D := D) (ci := 8) (v := .int (nI ru)) (C := RX8) (T := TX8) (N := 44) hx hb hts inX8 hown hK hP 3 rfl rfl 23 (by decide) (hts _ tw_996) (fun _ h9 => h9) rfl dX8_takeSeen_47 ?_
    refine va_iald hx hb hK hP 0 1 rfl rfl (vp_in_nI (by omega) (by decide)) dX8_takeSeen_50 ?_
    refine lv_ti (y := (nI (bm ru))) (by rw [nI_clamp (by omega)]; rfl) ?_
    refine lv_iadd hx hb dX8_takeSeen_51 ?_
    refine lv_ti (y := (nI (12 * ru + bm ru))) (nI_add (12 * ru) (bm ru)) ?_
    refine lv_istore (lv' := [(4, .int (nI (12 * ru + bm ru))), (3, .int (nI er_5)), (0, .ref (a 0)), (1, .long q0)]) hx hb dX8_takeSeen_52 hl (by decide) rfl (fun ls hl => ?_)
    refine lv_iload_n hx hb dX8_takeSeen_54 rfl (lv_at hl 1 rfl) ?_
    refine lv_if_ne (tgt := 84) hx hb dX8_takeSeen_55 (by decide) (fun c_6 => ?_) (fun c_6 => ?_)
    · have c_6 : ¬ (er_5 = 0) := fun h => c_6 ((nI_eq (a := er_5) (b := 0) (by omega) (by omega)).mpr h)
      refine lv_iload_n hx hb dX8_takeSeen_84 rfl (lv_at hl 1 rfl) ?_
      refine lv_if_le (tgt := 90) hx hb dX8_takeSeen_85 (by decide) (fun h => absurd ((nI_leI (a := er_5) (b := 0) (by omega) (by omega)).mp h) (by omega)) (fun _ => ?_)
      refine lv_iload_n hx hb dX8_takeSeen_88 rfl (lv_at hl 1 rfl) ?_
      have hP9 := hP.sub (ws' := [((a 0), .inr (8, (fX8 a (nI tx) fp__5 (nI t0__5) wd__3 (nI we__3) nu__5 na__5 (nI rd) ts (nI ru) (nI rw) (nI ca) df db sd))), (aI k (a 5) 240 ftext), (aI k (a 25) 4 (nF bm)), (aI k (a 26) 48 fbarSeen), (aI k (a 27) 48 fbarFrom)]) [3, 4, 0, 1, 2] rfl
      have hD9 := hD.sub (ws' := [((a 0), .inr (8, (fX8 a (nI tx) fp__5 (nI t0__5) wd__3 (nI we__3) nu__5 na__5 (nI rd) ts (nI ru) (nI rw) (nI ca) df db sd))), (aI k (a 5) 240 ftext), (aI k (a 25) 4 (nF bm)), (aI k (a 26) 48 fbarSeen), (aI k (a 27) 48 fbarFrom)]) [3, 4, 0, 1, 2] (by decide) rfl
      exact W.iret (v := (nI er_5)) hx hb hr (fun t ht hW => ⟨⟨(nI er_5), (t0__5, wd__3, we__3, fp__5, nu__5, na__5, bm, fbarSeen, fbarFrom, er_5), rfl, ⟨rfl, by omega, by omega, by omega, hbm, by omega⟩, by rw [ht]; exact hP9, hD9⟩, hS.F ht⟩) hS.2.2 dX8_takeSeen_89
    · have c_6 := (nI_eq (a := er_5) (b := 0) (by omega) (by omega)).mp c_6
      refine lv_aload_n hx hb dX8_takeSeen_58 rfl (lv_at hl 2 rfl) ?_
      refine va_get (D := D) (ci := 8) (v := .int nu__5) (C := RX8) (T := TX8) (N := 44) hx hb hts inX8 hown hK hP 3 rfl rfl 10 (by decide) (hts _ tw_983) (fun _ h9 => h9) rfl dX8_takeSeen_59 ?_
      refine lv_aload_n hx hb dX8_takeSeen_62 rfl (lv_at hl 2 rfl) ?_
      refine va_get (D := D) (ci := 8) (v := .ref (a 26)) (C := RX8) (T := TX8) (N := 44) hx hb hts inX8 hown hK hP 3 rfl rfl 25 (by decide) (hts _ tw_998) (fun _ h9 => h9) rfl dX8_takeSeen_63 ?_
      refine lv_iload hx hb dX8_takeSeen_66 (lv_at hl 0 rfl) ?_
      refine lv_iconst (v := 1) hx hb dX8_takeSeen_68 (by decide) ?_
      refine lv_isub hx hb dX8_takeSeen_69 ?_
      refine lv_ti (y := (nI ((12 * ru + bm ru) - 1))) (pk_sub (a := (12 * ru + bm ru)) (b := 1) (by omega)) ?_
      refine va_iald hx hb hK hP 1 1 rfl rfl (vp_in_nI (by omega) (by decide)) dX8_takeSeen_70 ?_
      refine lv_ti (y := (fbarSeen ((12 * ru + bm ru) - 1))) (by rw [nI_clamp (by omega)]) ?_
      refine lv_icmp_gt (tgt := 84) hx hb dX8_takeSeen_71 (by decide) (fun c_8 => ?_) (fun c_8 => ?_)
      · refine lv_iload_n hx hb dX8_takeSeen_84 rfl (lv_at hl 1 rfl) ?_
        refine lv_if_le (tgt := 90) hx hb dX8_takeSeen_85 (by decide) (fun _ => ?_) (fun h => absurd ((nI_leI (a := er_5) (b := 0) (by omega) (by omega)).mpr (by omega)) h)
        refine lv_aload_n hx hb dX8_takeSeen_90 rfl (lv_at hl 2 rfl) ?_
        refine va_get (D := D) (ci := 8) (v := .ref (a 26)) (C := RX8) (T := TX8) (N := 44) hx hb hts inX8 hown hK hP 3 rfl rfl 25 (by decide) (hts _ tw_998) (fun _ h9 => h9) rfl dX8_takeSeen_91 ?_
        refine lv_iload hx hb dX8_takeSeen_94 (lv_at hl 0 rfl) ?_
        refine lv_aload_n hx hb dX8_takeSeen_96 rfl (lv_at hl 2 rfl) ?_
        refine va_get (D := D) (ci := 8) (v := .int nu__5) (C := RX8) (T := TX8) (N := 44) hx hb hts inX8 hown hK hP 3 rfl rfl 10 (by decide) (hts _ tw_983) (fun _ h9 => h9) rfl dX8_takeSeen_97 ?_
        refine va_iast hx hb hK hP hD hS 1 1 rfl rfl (vp_in_nI (by omega) (by decide)) dX8_takeSeen_100 (fun H locs hP hD hS => ?_)
        replace hP : va_P D classes [(aI k (a 25) 4 (nF bm)), (aI k (a 26) 48 (upd fbarSeen (Int32.toNatClampNeg (nI (12 * ru + bm ru))) nu__5)), (aI k (a 27) 48 fbarFrom), ((a 0), .inr (8, (fX8 a (nI tx) fp__5 (nI t0__5) wd__3 (nI we__3) nu__5 na__5 (nI rd) ts (nI ru) (nI rw) (nI ca) df db sd))), (aI k (a 5) 240 ftext)] H := hP
        replace hD : va_D A [(aI k (a 25) 4 (nF bm)), (aI k (a 26) 48 (upd fbarSeen (Int32.toNatClampNeg (nI (12 * ru + bm ru))) nu__5)), (aI k (a 27) 48 fbarFrom), ((a 0), .inr (8, (fX8 a (nI tx) fp__5 (nI t0__5) wd__3 (nI we__3) nu__5 na__5 (nI rd) ts (nI ru) (nI rw) (nI ca) df db sd))), (aI k (a 5) 240 ftext)] := hD
        generalize (upd fbarSeen (Int32.toNatClampNeg (nI (12 * ru + bm ru))) nu__5) = f_10 at hP hD
        refine lv_aload_n hx hb dX8_takeSeen_101 rfl (lv_at hl 2 rfl) ?_
        refine lv_lload_n hx hb dX8_takeSeen_102 rfl (lv_at hl 3 rfl) ?_
        refine rw_i (D := D) (wr := [(aI k (a 25) 4 (nF bm)), (aI k (a 26) 48 f_10), (aI k (a 27) 48 fbarFrom)]) (va_runV (As := [.long q0]) (rest := []) ⟨hx, hb, hml, hown, hts⟩ ((m_needs3 l D k st lo a tx t0__5 we__3 rd ru rw ca fp__5 wd__3 nu__5 na__5 ts df db sd ftext q0 (by omega) (by omega) hdue) H.size) (cwV 1 hts (gV tw_1169 tw_1171 tw_35 tw_87 tw_1172) rfl rfl rfl (by decide +kernel) ⟨Nat.le_of_ble_eq_true rfl, Nat.le_of_ble_eq_true rfl⟩) (pV hS hAlo hlo hP hK (va_Dlo hD hAlo) hZ [3, 4] (by decide) rfl (ci := 8) (q := (RX8, TX8, 44)) (q0 := 0) rfl rfl) rfl rfl hl.1 rfl (lv_room (Nat.le_of_ble_eq_true rfl)) dX8_takeSeen_103 ⟨Nat.le_of_ble_eq_true rfl, Nat.le_of_ble_eq_true rfl⟩) hS hA hP hD [3, 4] [0, 1, 2] rfl rfl (by decide) (by decide) (fun r_11 u H locs hw_11 hP hD hS => ?_)
        obtain ⟨t0__11, wd__11, we__11, fp__11, er_11⟩ := u
        replace hP : va_P D classes [(aI k (a 25) 4 (nF bm)), (aI k (a 26) 48 f_10), (aI k (a 27) 48 fbarFrom), ((a 0), .inr (8, (fX8 a (nI tx) fp__11 (nI t0__11) wd__11 (nI we__11) nu__5 na__5 (nI rd) ts (nI ru) (nI rw) (nI ca) df db sd))), (aI k (a 5) 240 ftext)] H := hP
        replace hD : va_D A [(aI k (a 25) 4 (nF bm)), (aI k (a 26) 48 f_10), (aI k (a 27) 48 fbarFrom), ((a 0), .inr (8, (fX8 a (nI tx) fp__11 (nI t0__11) wd__11 (nI we__11) nu__5 na__5 (nI rd) ts (nI ru) (nI rw) (nI ca) df db sd))), (aI k (a 5) 240 ftext)] := hD
        try dsimp only at hw_11
        obtain ⟨rfl, hw_11⟩ := hw_11
        refine lv_istore_n (lv' := [(3, .int (nI er_11)), (4, .int (nI (12 * ru + bm ru))), (0, .ref (a 0)), (1, .long q0)]) hx hb dX8_takeSeen_106 rfl hl (by decide) rfl (fun ls hl => ?_)
        refine lv_iload_n hx hb dX8_takeSeen_107 rfl (lv_at hl 0 rfl) ?_
        refine lv_if_le (tgt := 115) hx hb dX8_takeSeen_108 (by decide) (fun c_12 => ?_) (fun c_12 => ?_)
        · have c_12 := (nI_leI (a := er_11) (b := 0) (by omega) (by omega)).mp c_12
          refine lv_aload_n hx hb dX8_takeSeen_115 rfl (lv_at hl 2 rfl) ?_
          refine lv_iconst (v := 0) hx hb dX8_takeSeen_116 (by decide) ?_
          refine lv_bipush (v := 24) hx hb dX8_takeSeen_117 (by decide) ?_
          refine rw_i (D := D) (wr := [(aI k (a 25) 4 (nF bm)), (aI k (a 26) 48 f_10), (aI k (a 27) 48 fbarFrom)]) (va_runV (As := [.int 0, .int 24]) (rest := []) ⟨hx, hb, hml, hown, hts⟩ ((m_takeNumber l D k st lo a tx t0__11 we__11 rd ru rw ca fp__11 wd__11 nu__5 na__5 ts df db sd ftext 0 24 (by omega) (by omega)) H.size) (cwV 2 hts (gV tw_1159 tw_1161 tw_33 tw_87 tw_1162) rfl rfl rfl (by decide +kernel) ⟨Nat.le_of_ble_eq_true rfl, Nat.le_of_ble_eq_true rfl⟩) (pV hS hAlo hlo hP hK (va_Dlo hD hAlo) hZ [3, 4] (by decide) rfl (ci := 8) (q := (RX8, TX8, 44)) (q0 := 0) rfl rfl) rfl rfl hl.1 rfl (lv_room (Nat.le_of_ble_eq_true rfl)) dX8_takeSeen_119 ⟨Nat.le_of_ble_eq_true rfl, Nat.le_of_ble_eq_true rfl⟩) hS hA hP hD [3, 4] [0, 1, 2] rfl rfl (by decide) (by decide) (fun r_13 u H locs hw_13 hP hD hS => ?_)
          obtain ⟨t0__13, nu__13, na__13, fp__13, er_13⟩ := u
          replace hP : va_P D classes [(aI k (a 25) 4 (nF bm)), (aI k (a 26) 48 f_10), (aI k (a 27) 48 fbarFrom), ((a 0), .inr (8, (fX8 a (nI tx) fp__13 (nI t0__13) wd__11 (nI we__11) nu__13 na__13 (nI rd) ts (nI ru) (nI rw) (nI ca) df db sd))), (aI k (a 5) 240 ftext)] H := hP
          replace hD : va_D A [(aI k (a 25) 4 (nF bm)), (aI k (a 26) 48 f_10), (aI k (a 27) 48 fbarFrom), ((a 0), .inr (8, (fX8 a (nI tx) fp__13 (nI t0__13) wd__11 (nI we__11) nu__13 na__13 (nI rd) ts (nI ru) (nI rw) (nI ca) df db sd))), (aI k (a 5) 240 ftext)] := hD
          try dsimp only at hw_13
          obtain ⟨rfl, hw_13⟩ := hw_13
          refine lv_istore_n (lv' := [(3, .int (nI er_13)), (4, .int (nI (12 * ru + bm ru))), (0, .ref (a 0)), (1, .long q0)]) hx hb dX8_takeSeen_122 rfl hl (by decide) rfl (fun ls hl => ?_)
          refine lv_aload_n hx hb dX8_takeSeen_123 rfl (lv_at hl 2 rfl) ?_
          refine va_get (D := D) (ci := 8) (v := .ref (a 27)) (C := RX8) (T := TX8) (N := 44) hx hb hts inX8 hown hK hP 3 rfl rfl 26 (by decide) (hts _ tw_999) (fun _ h9 => h9) rfl dX8_takeSeen_124 ?_
          refine lv_iload hx hb dX8_takeSeen_127 (lv_at hl 1 rfl) ?_
          refine lv_aload_n hx hb dX8_takeSeen_129 rfl (lv_at hl 2 rfl) ?_
          refine va_get (D := D) (ci := 8) (v := .int nu__13) (C := RX8) (T := TX8) (N := 44) hx hb hts inX8 hown hK hP 3 rfl rfl 10 (by decide) (hts _ tw_983) (fun _ h9 => h9) rfl dX8_takeSeen_130 ?_
          refine va_iast hx hb hK hP hD hS 2 1 rfl rfl (vp_in_nI (by omega) (by decide)) dX8_takeSeen_133 (fun H locs hP hD hS => ?_)
          replace hP : va_P D classes [(aI k (a 25) 4 (nF bm)), (aI k (a 26) 48 f_10), (aI k (a 27) 48 (upd fbarFrom (Int32.toNatClampNeg (nI (12 * ru + bm ru))) nu__13)), ((a 0), .inr (8, (fX8 a (nI tx) fp__13 (nI t0__13) wd__11 (nI we__11) nu__13 na__13 (nI rd) ts (nI ru) (nI rw) (nI ca) df db sd))), (aI k (a 5) 240 ftext)] H := hP
          replace hD : va_D A [(aI k (a 25) 4 (nF bm)), (aI k (a 26) 48 f_10), (aI k (a 27) 48 (upd fbarFrom (Int32.toNatClampNeg (nI (12 * ru + bm ru))) nu__13)), ((a 0), .inr (8, (fX8 a (nI tx) fp__13 (nI t0__13) wd__11 (nI we__11) nu__13 na__13 (nI rd) ts (nI ru) (nI rw) (nI ca) df db sd))), (aI k (a 5) 240 ftext)] := hD
          generalize (upd fbarFrom (Int32.toNatClampNeg (nI (12 * ru + bm ru))) nu__13) = f_14 at hP hD
          refine lv_aload_n hx hb dX8_takeSeen_134 rfl (lv_at hl 2 rfl) ?_
          refine va_get (D := D) (ci := 8) (v := .ref (a 25)) (C := RX8) (T := TX8) (N := 44) hx hb hts inX8 hown hK hP 3 rfl rfl 24 (by decide) (hts _ tw_997) (fun _ h9 => h9) rfl dX8_takeSeen_135 ?_
          refine lv_aload_n hx hb dX8_takeSeen_138 rfl (lv_at hl 2 rfl) ?_
          refine va_get (D := D) (ci := 8) (v := .int (nI ru)) (C := RX8) (T := TX8) (N := 44) hx hb hts inX8 hown hK hP 3 rfl rfl 23 (by decide) (hts _ tw_996) (fun _ h9 => h9) rfl dX8_takeSeen_139 ?_
          refine lv_dup2_11 hx hb dX8_takeSeen_142 rfl rfl ?_
          refine va_iald hx hb hK hP 0 1 rfl rfl (vp_in_nI (by omega) (by decide)) dX8_takeSeen_143 ?_
          refine lv_ti (y := (nI (bm ru))) (by rw [nI_clamp (by omega)]; rfl) ?_
          refine lv_iconst (v := 1) hx hb dX8_takeSeen_144 (by decide) ?_
          refine lv_iadd hx hb dX8_takeSeen_145 ?_
          refine lv_ti (y := (nI (bm ru + 1))) (nI_add (bm ru) 1) ?_
          refine va_iast hx hb hK hP hD hS 0 1 rfl rfl (vp_in_nI (by omega) (by decide)) dX8_takeSeen_146 (fun H locs hP hD hS => ?_)
          replace hP : va_P D classes [(aI k (a 25) 4 (upd (nF bm) (Int32.toNatClampNeg (nI ru)) (nI (bm ru + 1)))), (aI k (a 26) 48 f_10), (aI k (a 27) 48 f_14), ((a 0), .inr (8, (fX8 a (nI tx) fp__13 (nI t0__13) wd__11 (nI we__11) nu__13 na__13 (nI rd) ts (nI ru) (nI rw) (nI ca) df db sd))), (aI k (a 5) 240 ftext)] H := hP
          replace hD : va_D A [(aI k (a 25) 4 (upd (nF bm) (Int32.toNatClampNeg (nI ru)) (nI (bm ru + 1)))), (aI k (a 26) 48 f_10), (aI k (a 27) 48 f_14), ((a 0), .inr (8, (fX8 a (nI tx) fp__13 (nI t0__13) wd__11 (nI we__11) nu__13 na__13 (nI rd) ts (nI ru) (nI rw) (nI ca) df db sd))), (aI k (a 5) 240 ftext)] := hD
          rw [nI_clamp (n := ru) (by omega)] at hP hD
          rw [show upd (nF bm) ru (nI (bm ru + 1)) = nF (fun j => if j = ru then bm ru + 1 else bm j) from nF_upd _ _ _] at hP hD
          obtain ⟨d_16, hd_16⟩ : ∃ z : Nat → Nat, z = (fun j => if j = ru then bm ru + 1 else bm j) := ⟨_, rfl⟩
          rw [← hd_16] at hP hD
          have hbb_16 : ∀ j, d_16 j ≤ 12 := by rw [hd_16]; exact up_le hbm (by omega)
          have hbu_16 : d_16 ru = bm ru + 1 := by rw [hd_16]; exact if_pos rfl
          refine lv_iload_n hx hb dX8_takeSeen_147 rfl (lv_at hl 0 rfl) ?_
          have hP9 := hP.sub (ws' := [((a 0), .inr (8, (fX8 a (nI tx) fp__13 (nI t0__13) wd__11 (nI we__11) nu__13 na__13 (nI rd) ts (nI ru) (nI rw) (nI ca) df db sd))), (aI k (a 5) 240 ftext), (aI k (a 25) 4 (nF d_16)), (aI k (a 26) 48 f_10), (aI k (a 27) 48 f_14)]) [3, 4, 0, 1, 2] rfl
          have hD9 := hD.sub (ws' := [((a 0), .inr (8, (fX8 a (nI tx) fp__13 (nI t0__13) wd__11 (nI we__11) nu__13 na__13 (nI rd) ts (nI ru) (nI rw) (nI ca) df db sd))), (aI k (a 5) 240 ftext), (aI k (a 25) 4 (nF d_16)), (aI k (a 26) 48 f_10), (aI k (a 27) 48 f_14)]) [3, 4, 0, 1, 2] (by decide) rfl
          exact W.iret (v := (nI er_13)) hx hb hr (fun t ht hW => ⟨⟨(nI er_13), (t0__13, wd__11, we__11, fp__13, nu__13, na__13, d_16, f_10, f_14, er_13), rfl, ⟨rfl, by omega, by omega, by omega, hbb_16, by omega⟩, by rw [ht]; exact hP9, hD9⟩, hS.F ht⟩) hS.2.2 dX8_takeSeen_148
        · have c_12 : ¬ (er_11 ≤ 0) := fun h => c_12 ((nI_leI (a := er_11) (b := 0) (by omega) (by omega)).mpr h)
          refine lv_iload_n hx hb dX8_takeSeen_111 rfl (lv_at hl 0 rfl) ?_
          refine lv_goto (tgt := 122) hx hb dX8_takeSeen_112 (by decide) ?_
          refine lv_istore_n (lv' := [(3, .int (nI er_11)), (4, .int (nI (12 * ru + bm ru))), (0, .ref (a 0)), (1, .long q0)]) hx hb dX8_takeSeen_122 rfl hl (by decide) rfl (fun ls hl => ?_)
          refine lv_aload_n hx hb dX8_takeSeen_123 rfl (lv_at hl 2 rfl) ?_
          refine va_get (D := D) (ci := 8) (v := .ref (a 27)) (C := RX8) (T := TX8) (N := 44) hx hb hts inX8 hown hK hP 3 rfl rfl 26 (by decide) (hts _ tw_999) (fun _ h9 => h9) rfl dX8_takeSeen_124 ?_
          refine lv_iload hx hb dX8_takeSeen_127 (lv_at hl 1 rfl) ?_
          refine lv_aload_n hx hb dX8_takeSeen_129 rfl (lv_at hl 2 rfl) ?_
          refine va_get (D := D) (ci := 8) (v := .int nu__5) (C := RX8) (T := TX8) (N := 44) hx hb hts inX8 hown hK hP 3 rfl rfl 10 (by decide) (hts _ tw_983) (fun _ h9 => h9) rfl dX8_takeSeen_130 ?_
          refine va_iast hx hb hK hP hD hS 2 1 rfl rfl (vp_in_nI (by omega) (by decide)) dX8_takeSeen_133 (fun H locs hP hD hS => ?_)
          replace hP : va_P D classes [(aI k (a 25) 4 (nF bm)), (aI k (a 26) 48 f_10), (aI k (a 27) 48 (upd fbarFrom (Int32.toNatClampNeg (nI (12 * ru + bm ru))) nu__5)), ((a 0), .inr (8, (fX8 a (nI tx) fp__11 (nI t0__11) wd__11 (nI we__11) nu__5 na__5 (nI rd) ts (nI ru) (nI rw) (nI ca) df db sd))), (aI k (a 5) 240 ftext)] H := hP
          replace hD : va_D A [(aI k (a 25) 4 (nF bm)), (aI k (a 26) 48 f_10), (aI k (a 27) 48 (upd fbarFrom (Int32.toNatClampNeg (nI (12 * ru + bm ru))) nu__5)), ((a 0), .inr (8, (fX8 a (nI tx) fp__11 (nI t0__11) wd__11 (nI we__11) nu__5 na__5 (nI rd) ts (nI ru) (nI rw) (nI ca) df db sd))), (aI k (a 5) 240 ftext)] := hD
          generalize (upd fbarFrom (Int32.toNatClampNeg (nI (12 * ru + bm ru))) nu__5) = f_17 at hP hD
          refine lv_aload_n hx hb dX8_takeSeen_134 rfl (lv_at hl 2 rfl) ?_
          refine va_get (D := D) (ci := 8) (v := .ref (a 25)) (C := RX8) (T := TX8) (N := 44) hx hb hts inX8 hown hK hP 3 rfl rfl 24 (by decide) (hts _ tw_997) (fun _ h9 => h9) rfl dX8_takeSeen_135 ?_
          refine lv_aload_n hx hb dX8_takeSeen_138 rfl (lv_at hl 2 rfl) ?_
          refine va_get (D := D) (ci := 8) (v := .int (nI ru)) (C := RX8) (T := TX8) (N := 44) hx hb hts inX8 hown hK hP 3 rfl rfl 23 (by decide) (hts _ tw_996) (fun _ h9 => h9) rfl dX8_takeSeen_139 ?_
          refine lv_dup2_11 hx hb dX8_takeSeen_142 rfl rfl ?_
          refine va_iald hx hb hK hP 0 1 rfl rfl (vp_in_nI (by omega) (by decide)) dX8_takeSeen_143 ?_
          refine lv_ti (y := (nI (bm ru))) (by rw [nI_clamp (by omega)]; rfl) ?_
          refine lv_iconst (v := 1) hx hb dX8_takeSeen_144 (by decide) ?_
          refine lv_iadd hx hb dX8_takeSeen_145 ?_
          refine lv_ti (y := (nI (bm ru + 1))) (nI_add (bm ru) 1) ?_
          refine va_iast hx hb hK hP hD hS 0 1 rfl rfl (vp_in_nI (by omega) (by decide)) dX8_takeSeen_146 (fun H locs hP hD hS => ?_)
          replace hP : va_P D classes [(aI k (a 25) 4 (upd (nF bm) (Int32.toNatClampNeg (nI ru)) (nI (bm ru + 1)))), (aI k (a 26) 48 f_10), (aI k (a 27) 48 f_17), ((a 0), .inr (8, (fX8 a (nI tx) fp__11 (nI t0__11) wd__11 (nI we__11) nu__5 na__5 (nI rd) ts (nI ru) (nI rw) (nI ca) df db sd))), (aI k (a 5) 240 ftext)] H := hP
          replace hD : va_D A [(aI k (a 25) 4 (upd (nF bm) (Int32.toNatClampNeg (nI ru)) (nI (bm ru + 1)))), (aI k (a 26) 48 f_10), (aI k (a 27) 48 f_17), ((a 0), .inr (8, (fX8 a (nI tx) fp__11 (nI t0__11) wd__11 (nI we__11) nu__5 na__5 (nI rd) ts (nI ru) (nI rw) (nI ca) df db sd))), (aI k (a 5) 240 ftext)] := hD
          rw [nI_clamp (n := ru) (by omega)] at hP hD
          rw [show upd (nF bm) ru (nI (bm ru + 1)) = nF (fun j => if j = ru then bm ru + 1 else bm j) from nF_upd _ _ _] at hP hD
          obtain ⟨d_19, hd_19⟩ : ∃ z : Nat → Nat, z = (fun j => if j = ru then bm ru + 1 else bm j) := ⟨_, rfl⟩
          rw [← hd_19] at hP hD
          have hbb_19 : ∀ j, d_19 j ≤ 12 := by rw [hd_19]; exact up_le hbm (by omega)
          have hbu_19 : d_19 ru = bm ru + 1 := by rw [hd_19]; exact if_pos rfl
          refine lv_iload_n hx hb dX8_takeSeen_147 rfl (lv_at hl 0 rfl) ?_
          have hP9 := hP.sub (ws' := [((a 0), .inr (8, (fX8 a (nI tx) fp__11 (nI t0__11) wd__11 (nI we__11) nu__5 na__5 (nI rd) ts (nI ru) (nI rw) (nI ca) df db sd))), (aI k (a 5) 240 ftext), (aI k (a 25) 4 (nF d_19)), (aI k (a 26) 48 f_10), (aI k (a 27) 48 f_17)]) [3, 4, 0, 1, 2] rfl
          have hD9 := hD.sub (ws' := [((a 0), .inr (8, (fX8 a (nI tx) fp__11 (nI t0__11) wd__11 (nI we__11) nu__5 na__5 (nI rd) ts (nI ru) (nI rw) (nI ca) df db sd))), (aI k (a 5) 240 ftext), (aI k (a 25) 4 (nF d_19)), (aI k (a 26) 48 f_10), (aI k (a 27) 48 f_17)]) [3, 4, 0, 1, 2] (by decide) rfl
          exact W.iret (v := (nI er_11)) hx hb hr (fun t ht hW => ⟨⟨(nI er_11), (t0__11, wd__11, we__11, fp__11, nu__5, na__5, d_19, f_10, f_17, er_11), rfl, ⟨rfl, by omega, by omega, by omega, hbb_19, by omega⟩, by rw [ht]; exact hP9, hD9⟩, hS.F ht⟩) hS.2.2 dX8_takeSeen_148
      · refine lv_aload_n hx hb dX8_takeSeen_74 rfl (lv_at hl 2 rfl) ?_
        refine lv_iconst (v := 3) hx hb dX8_takeSeen_75 (by decide) ?_
        refine lv_aload_n hx hb dX8_takeSeen_76 rfl (lv_at hl 2 rfl) ?_
        refine va_get (D := D) (ci := 8) (v := .int na__5) (C := RX8) (T := TX8) (N := 44) hx hb hts inX8 hown hK hP 3 rfl rfl 11 (by decide) (hts _ tw_984) (fun _ h9 => h9) rfl dX8_takeSeen_77 ?_
        refine rw_i (D := D) (wr := [(aI k (a 25) 4 (nF bm)), (aI k (a 26) 48 fbarSeen), (aI k (a 27) 48 fbarFrom), (aI k (a 5) 240 ftext)]) (va_runV (As := [.int 3, .int na__5]) (rest := []) ⟨hx, hb, hml, hown, hts⟩ ((m_fails l D k st lo a tx t0__5 we__3 rd ru rw ca fp__5 wd__3 nu__5 na__5 ts df db sd 3 na__5) H.size) (cwV 2 hts (gV tw_1151 tw_1153 tw_31 tw_87 tw_1154) rfl rfl rfl (by decide +kernel) ⟨Nat.le_of_ble_eq_true rfl, Nat.le_of_ble_eq_true rfl⟩) (pV hS hAlo hlo hP hK (va_Dlo hD hAlo) hZ [3] (by decide) rfl (ci := 8) (q := (RX8, TX8, 44)) (q0 := 0) rfl rfl) rfl rfl hl.1 rfl (lv_room (Nat.le_of_ble_eq_true rfl)) dX8_takeSeen_80 ⟨Nat.le_of_ble_eq_true rfl, Nat.le_of_ble_eq_true rfl⟩) hS hA hP hD [3] [0, 1, 2, 4] rfl rfl (by decide) (by decide) (fun r_20 u H locs hw_20 hP hD hS => ?_)
        obtain ⟨fp__20, rfl⟩ : ∃ z, z = u := ⟨_, rfl⟩
        replace hP : va_P D classes [(aI k (a 25) 4 (nF bm)), (aI k (a 26) 48 fbarSeen), (aI k (a 27) 48 fbarFrom), (aI k (a 5) 240 ftext), ((a 0), .inr (8, (fX8 a (nI tx) fp__20 (nI t0__5) wd__3 (nI we__3) nu__5 na__5 (nI rd) ts (nI ru) (nI rw) (nI ca) df db sd)))] H := hP
        replace hD : va_D A [(aI k (a 25) 4 (nF bm)), (aI k (a 26) 48 fbarSeen), (aI k (a 27) 48 fbarFrom), (aI k (a 5) 240 ftext), ((a 0), .inr (8, (fX8 a (nI tx) fp__20 (nI t0__5) wd__3 (nI we__3) nu__5 na__5 (nI rd) ts (nI ru) (nI rw) (nI ca) df db sd)))] := hD
        try dsimp only at hw_20
        subst hw_20
        refine lv_istore_n (lv' := [(3, .int 3), (4, .int (nI (12 * ru + bm ru))), (0, .ref (a 0)), (1, .long q0)]) hx hb dX8_takeSeen_83 rfl hl (by decide) rfl (fun ls hl => ?_)
        refine lv_iload_n hx hb dX8_takeSeen_84 rfl (lv_at hl 0 rfl) ?_
        refine lv_if_le (tgt := 90) hx hb dX8_takeSeen_85 (by decide) (fun h => absurd h (by decide)) (fun _ => ?_)
        refine lv_iload_n hx hb dX8_takeSeen_88 rfl (lv_at hl 0 rfl) ?_
        have hP9 := hP.sub (ws' := [((a 0), .inr (8, (fX8 a (nI tx) fp__20 (nI t0__5) wd__3 (nI we__3) nu__5 na__5 (nI rd) ts (nI ru) (nI rw) (nI ca) df db sd))), (aI k (a 5) 240 ftext), (aI k (a 25) 4 (nF bm)), (aI k (a 26) 48 fbarSeen), (aI k (a 27) 48 fbarFrom)]) [4, 3, 0, 1, 2] rfl
        have hD9 := hD.sub (ws' := [((a 0), .inr (8, (fX8 a (nI tx) fp__20 (nI t0__5) wd__3 (nI we__3) nu__5 na__5 (nI rd) ts (nI ru) (nI rw) (nI ca) df db sd))), (aI k (a 5) 240 ftext), (aI k (a 25) 4 (nF bm)), (aI k (a 26) 48 fbarSeen), (aI k (a 27) 48 fbarFrom)]) [4, 3, 0, 1, 2] (by decide) rfl
        exact W.iret (v := 3) hx hb hr (fun t ht hW => ⟨⟨3, (t0__5, wd__3, we__3, fp__20, nu__5, na__5, bm, fbarSeen, fbarFrom, 3), rfl, ⟨rfl, by omega, by omega, by omega, hbm, by omega⟩, by rw [ht]; exact hP9, hD9⟩, hS.F ht⟩) hS.2.2 dX8_takeSeen_89
  · have c_4 : ¬ (er_3 ≤ 0) := fun h => c_4 ((nI_leI (a := er_3) (b := 0) (by omega) (by omega)).mpr h)
    refine lv_iload_n hx hb dX8_takeSeen_23 rfl (lv_at hl 0 rfl) ?_
    refine lv_goto (tgt := 34) hx hb dX8_takeSeen_24 (by decide) ?_
    refine lv_istore_n (lv' := [(3, .int (nI er_3)), (0, .ref (a 0)), (1, .long q0)]) hx hb dX8_takeSeen_34 rfl hl (by decide) rfl (fun ls hl => ?_)
    refine lv_bipush (v := 12) hx hb dX8_takeSeen_35 (by decide) ?_
    refine lv_aload_n hx hb dX8_takeSeen_37 rfl (lv_at hl 1 rfl) ?_
    refine va_get (D := D) (ci := 8) (v := .int (nI ru)) (C := RX8) (T := TX8) (N := 44) hx hb hts inX8 hown hK hP 3 rfl rfl 23 (by decide) (hts _ tw_996) (fun _ h9 => h9) rfl dX8_takeSeen_38 ?_
    refine lv_imul hx hb dX8_takeSeen_41 ?_
    refine lv_ti (y := (nI (12 * ru))) (pk_mul 12 ru) ?_
    refine lv_aload_n hx hb dX8_takeSeen_42 rfl (lv_at hl 1 rfl) ?_
    refine va_get (D := D) (ci := 8) (v := .ref (a 25)) (C := RX8) (T := TX8) (N := 44) hx hb hts inX8 hown hK hP 3 rfl rfl 24 (by decide) (hts _ tw_997) (fun _ h9 => h9) rfl dX8_takeSeen_43 ?_
    refine lv_aload_n hx hb dX8_takeSeen_46 rfl (lv_at hl 1 rfl) ?_
    refine va_get (D := D) (ci := 8) (v := .int (nI ru)) (C := RX8) (T := TX8) (N := 44) hx hb hts inX8 hown hK hP 3 rfl rfl 23 (by decide) (hts _ tw_996) (fun _ h9 => h9) rfl dX8_takeSeen_47 ?_
    refine va_iald hx hb hK hP 0 1 rfl rfl (vp_in_nI (by omega) (by decide)) dX8_takeSeen_50 ?_
    refine lv_ti (y := (nI (bm ru))) (by rw [nI_clamp (by omega)]; rfl) ?_
    refine lv_iadd hx hb dX8_takeSeen_51 ?_
    refine lv_ti (y := (nI (12 * ru + bm ru))) (nI_add (12 * ru) (bm ru)) ?_
    refine lv_istore (lv' := [(4, .int (nI (12 * ru + bm ru))), (3, .int (nI er_3)), (0, .ref (a 0)), (1, .long q0)]) hx hb dX8_takeSeen_52 hl (by decide) rfl (fun ls hl => ?_)
    refine lv_iload_n hx hb dX8_takeSeen_54 rfl (lv_at hl 1 rfl) ?_
    refine lv_if_ne (tgt := 84) hx hb dX8_takeSeen_55 (by decide) (fun _ => ?_) (fun h => absurd ((nI_eq (a := er_3) (b := 0) (by omega) (by omega)).mp h) (by omega))
    refine lv_iload_n hx hb dX8_takeSeen_84 rfl (lv_at hl 1 rfl) ?_
    refine lv_if_le (tgt := 90) hx hb dX8_takeSeen_85 (by decide) (fun h => absurd ((nI_leI (a := er_3) (b := 0) (by omega) (by omega)).mp h) (by omega)) (fun _ => ?_)
    refine lv_iload_n hx hb dX8_takeSeen_88 rfl (lv_at hl 1 rfl) ?_
    have hP9 := hP.sub (ws' := [((a 0), .inr (8, (fX8 a (nI tx) fp__3 (nI t0__3) wd__3 (nI we__3) nu na (nI rd) ts (nI ru) (nI rw) (nI ca) df db sd))), (aI k (a 5) 240 ftext), (aI k (a 25) 4 (nF bm)), (aI k (a 26) 48 fbarSeen), (aI k (a 27) 48 fbarFrom)]) [3, 4, 0, 1, 2] rfl
    have hD9 := hD.sub (ws' := [((a 0), .inr (8, (fX8 a (nI tx) fp__3 (nI t0__3) wd__3 (nI we__3) nu na (nI rd) ts (nI ru) (nI rw) (nI ca) df db sd))), (aI k (a 5) 240 ftext), (aI k (a 25) 4 (nF bm)), (aI k (a 26) 48 fbarSeen), (aI k (a 27) 48 fbarFrom)]) [3, 4, 0, 1, 2] (by decide) rfl
    exact W.iret (v := (nI er_3)) hx hb hr (fun t ht hW => ⟨⟨(nI er_3), (t0__3, wd__3, we__3, fp__3, nu, na, bm, fbarSeen, fbarFrom, er_3), rfl, ⟨rfl, by omega, by omega, by omega, hbm, by omega⟩, by rw [ht]; exact hP9, hD9⟩, hS.F ht⟩) hS.2.2 dX8_takeSeen_89


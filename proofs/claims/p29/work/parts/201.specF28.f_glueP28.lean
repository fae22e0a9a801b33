theorem f_glueP28 : True := trivial
/-! evenings: what is drawn -/
def drN (v : Nat) : Nat := (v * 1103515245 + 12345) % 2147483648
theorem drN_lt {v : Nat} : drN v < 2147483648 := Nat.mod_lt _ (by decide)
theorem i64_ofN {x : Int64} {a : Nat} (h : a < 2 ^ 63) (e : x.toInt = (a : Int)) : x = Int64.ofNat a := Int64.toInt_inj.mp (by rw [e, Int64.toInt_ofNat_of_lt h])
theorem dr_t {v : Nat} (hv : v < 2147483648) : ((nI v).toInt64 * 1103515245 + 12345).toInt = ((v * 1103515245 + 12345 : Nat) : Int) := by
  have e1 : (nI v).toInt = (v : Int) := nI_toInt (by omega)
  have e2 : (1103515245 : Int64).toInt = 1103515245 := by decide
  have e3 : (12345 : Int64).toInt = 12345 := by decide
  have hb : ∀ z : Int, 0 ≤ z → z ≤ 4000000000000000000 → z.bmod (2 ^ 64) = z := fun z h2 h3 => Int.bmod_eq_of_le (by omega) (by omega)
  rw [Int64.toInt_add, Int64.toInt_mul, Int32.toInt_toInt64, e1, e2, e3, hb ((v : Int) * 1103515245) (by omega) (by omega), hb _ (by omega) (by omega)]
  omega
theorem i64_and {a b : Nat} : Int64.ofNat a &&& Int64.ofNat b = Int64.ofNat (a &&& b) := by
  apply Int64.toBitVec_inj.mp
  rw [Int64.toBitVec_and]
  show BitVec.ofNat 64 a &&& BitVec.ofNat 64 b = BitVec.ofNat 64 (a &&& b)
  exact (BitVec.ofNat_and).symm
theorem and31 (a : Nat) : a &&& 2147483647 = a % 2147483648 := Nat.and_two_pow_sub_one_eq_mod a 31
theorem dr_x {v : Nat} (hv : v < 2147483648) : (((nI v).toInt64 * 1103515245 + 12345) &&& 2147483647).toInt32 = nI (drN v) := by
  rw [i64_ofN (by omega) (dr_t hv), show (2147483647 : Int64) = Int64.ofNat 2147483647 from rfl, i64_and, and31, Int64.toInt32_ofNat']
  rfl
theorem rem31 {t : Int64} {T : Nat} (hT : T ≤ 4000000000000000000) (e : t.toInt = (T : Int)) : t - t / 2147483648 * 2147483648 = Int64.ofNat (T % 2147483648) := by
  have eb : (2147483648 : Int64).toInt = ((2147483648 : Nat) : Int) := by decide
  have hb : ∀ z : Int, 0 ≤ z → z ≤ 4000000000000000000 → z.bmod (2 ^ 64) = z := fun z h2 h3 => Int.bmod_eq_of_le (by omega) (by omega)
  have ed : (t / 2147483648).toInt = ((T / 2147483648 : Nat) : Int) := by
    rw [Int64.toInt_div_of_ne_right _ _ (by decide), e, eb]
    rfl
  have em : (t / 2147483648 * 2147483648).toInt = ((T / 2147483648 * 2147483648 : Nat) : Int) := by
    rw [Int64.toInt_mul, ed, eb, ← Int.natCast_mul]
    exact hb _ (by omega) (by omega)
  refine i64_ofN (by omega) ?_
  rw [Int64.toInt_sub, e, em, hb _ (by omega) (by omega)]
  omega
theorem dr_m {v : Nat} (hv : v < 2147483648) : (((nI v).toInt64 * 1103515245 + 12345) - ((nI v).toInt64 * 1103515245 + 12345) / 2147483648 * 2147483648).toInt32 = nI (drN v) := by
  rw [rem31 (by omega) (dr_t hv), Int64.toInt32_ofNat']
  rfl
/-! one evening -/
def evG (d : SDt) (u : RUt) (L : Nat) : Nat → Nat → Nat → Nat → Int32 → Int32 → Nat → Int32 × Nat
  | 0, _, _, _, _, co, v => (co, v)
  | k + 1, r, i, pa, ah, co, v => if i < d.1 then (if nI (drN v / 65536 % 100) < pChance d i ah then (if pBar u pa ≤ nI i then (co + pTake d r i, drN v) else evG d u L k r (i + 1) (pa + 1) 1 (co + pPass d) (drN v)) else evG d u L k r (i + 1) pa 0 (co + pPass d) (drN v)) else (if r < L then evG d u L k (r + 1) 0 0 0 (co + pRnd d) v else (co + pGar d r, v))
theorem evG_s {d : SDt} {u : RUt} {L k r i pa : Nat} {ah co : Int32} {v : Nat} : evG d u L (k + 1) r i pa ah co v = if i < d.1 then (if nI (drN v / 65536 % 100) < pChance d i ah then (if pBar u pa ≤ nI i then (co + pTake d r i, drN v) else evG d u L k r (i + 1) (pa + 1) 1 (co + pPass d) (drN v)) else evG d u L k r (i + 1) pa 0 (co + pPass d) (drN v)) else (if r < L then evG d u L k (r + 1) 0 0 0 (co + pRnd d) v else (co + pGar d r, v)) := rfl
def evK (d : SDt) (L r i : Nat) : Nat := (L - r) * (d.1 + 1) + (d.1 - i)
def evS (d : SDt) (u : RUt) (L r i pa : Nat) (ah co : Int32) (v : Nat) : Int32 × Nat := evG d u L (evK d L r i + 1) r i pa ah co v
def evF (d : SDt) (u : RUt) (L v : Nat) : Int32 × Nat := evS d u L 0 0 0 0 0 v
theorem evK_i {d : SDt} {L r i : Nat} (h : i < d.1) : evK d L r i = evK d L r (i + 1) + 1 := by
  unfold evK
  omega
theorem evK_r {d : SDt} {L r i : Nat} (h : ¬ i < d.1) (hr : r < L) : evK d L r i = evK d L (r + 1) 0 + 1 := by
  unfold evK
  rw [show L - r = (L - (r + 1)) + 1 by omega, Nat.add_mul, Nat.one_mul]
  omega
section EV
variable {d : SDt} {u : RUt} {L r i pa v w : Nat} {ah co c2 : Int32} {X : Int32 × Nat}
theorem evx_r (h : evS d u L r i pa ah co v = X) (hi : ¬ i < d.1) (hr : r < L) (hc : c2 = co + pRnd d) : evS d u L (r + 1) 0 0 0 c2 v = X := by
  unfold evS at h ⊢
  rw [evG_s, if_neg hi, if_pos hr, evK_r hi hr] at h
  rw [hc]
  exact h
theorem evx_e (h : evS d u L r i pa ah co v = X) (hi : ¬ i < d.1) (hr : ¬ r < L) (hc : c2 = co + pGar d r) : (c2, v) = X := by
  unfold evS at h
  rw [evG_s, if_neg hi, if_neg hr] at h
  rw [hc]
  exact h
theorem evx_t (h : evS d u L r i pa ah co v = X) (hi : i < d.1) (hc : nI (drN v / 65536 % 100) < pChance d i ah) (hb : pBar u pa ≤ nI i) (he : c2 = co + pTake d r i) (hv : w = drN v) : (c2, w) = X := by
  unfold evS at h
  rw [evG_s, if_pos hi, if_pos hc, if_pos hb] at h
  rw [he, hv]
  exact h
theorem evx_p (h : evS d u L r i pa ah co v = X) (hi : i < d.1) (hc : nI (drN v / 65536 % 100) < pChance d i ah) (hb : ¬ pBar u pa ≤ nI i) (he : c2 = co + pPass d) (hv : w = drN v) : evS d u L r (i + 1) (pa + 1) 1 c2 w = X := by
  unfold evS at h ⊢
  rw [evG_s, if_pos hi, if_pos hc, if_neg hb, evK_i hi] at h
  rw [he, hv]
  exact h
theorem evx_n (h : evS d u L r i pa ah co v = X) (hi : i < d.1) (hc : ¬ nI (drN v / 65536 % 100) < pChance d i ah) (he : c2 = co + pPass d) (hv : w = drN v) : evS d u L r (i + 1) pa 0 c2 w = X := by
  unfold evS at h ⊢
  rw [evG_s, if_pos hi, if_neg hc, evK_i hi] at h
  rw [he, hv]
  exact h
end EV
theorem chz_0 {d : SDt} {a b : Int32} : pChance d 0 a = pChance d 0 b := by
  unfold pChance
  rw [if_pos rfl, if_pos rfl]
theorem evx_0 {d : SDt} {u : RUt} {L r pa v : Nat} {ah a2 co : Int32} {X : Int32 × Nat} (h : evS d u L r 0 pa ah co v = X) : evS d u L r 0 pa a2 co v = X := by
  unfold evS at h ⊢
  rw [evG_s] at h ⊢
  rw [chz_0 (a := a2) (b := ah)]
  exact h
theorem evG_lt {d : SDt} {u : RUt} {L : Nat} : ∀ k r i pa ah co v, v < 2147483648 → (evG d u L k r i pa ah co v).2 < 2147483648 := by
  intro k
  induction k with
  | zero => intro r i pa ah co v h; exact h
  | succ k ih =>
    intro r i pa ah co v h
    rw [evG_s]
    by_cases a : i < d.1
    · rw [if_pos a]
      by_cases b : nI (drN v / 65536 % 100) < pChance d i ah
      · rw [if_pos b]
        by_cases c : pBar u pa ≤ nI i
        · rw [if_pos c]
          exact drN_lt
        · rw [if_neg c]
          exact ih _ _ _ _ _ _ drN_lt
      · rw [if_neg b]
        exact ih _ _ _ _ _ _ drN_lt
    · rw [if_neg a]
      by_cases b : r < L
      · rw [if_pos b]
        exact ih _ _ _ _ _ _ h
      · rw [if_neg b]
        exact h
/-! some evenings -/
def evN (d : SDt) (u : RUt) (L v : Nat) : Nat → Int64 × Nat
  | 0 => (0, v)
  | k + 1 => ((evN d u L v k).1 + (evF d u L (evN d u L v k).2).1.toInt64, (evF d u L (evN d u L v k).2).2)
theorem evN_s {d : SDt} {u : RUt} {L v k w : Nat} {a b : Int64} {x : Int32} (h1 : a = (evN d u L v k).1) {z : Nat} (h2 : z = (evN d u L v k).2) (h : (x, w) = evF d u L z) (hb : b = a + x.toInt64) : b = (evN d u L v (k + 1)).1 ∧ w = (evN d u L v (k + 1)).2 := by
  show b = (evN d u L v k).1 + (evF d u L (evN d u L v k).2).1.toInt64 ∧ w = (evF d u L (evN d u L v k).2).2
  rw [← h2, ← h, hb, h1]
  exact ⟨rfl, rfl⟩
theorem evN_lt {d : SDt} {u : RUt} {L v : Nat} (h : v < 2147483648) : ∀ k, (evN d u L v k).2 < 2147483648 := by
  intro k
  induction k with
  | zero => exact h
  | succ k ih => exact evG_lt _ _ _ _ _ _ _ ih
def evA (p2 s0 : Int32) (d : SDt) (u : RUt) (r s1 : Int32) : Prop := (¬ inB p2 1 50 → r = -1002 ∧ s1 = s0) ∧ ∀ n v : Nat, n ≤ 50 → p2 = nI n → inB p2 1 50 → v < 2147483648 → s0 = nI v → r = ((evN d u (muD d u) v n).1 / 1000).toInt32 ∧ s1 = nI (evN d u (muD d u) v n).2
theorem evA_fun {p2 s0 : Int32} {d : SDt} {u : RUt} {x y a b : Int32} (hs : ¬ s0 < 0) (h : evA p2 s0 d u x a) (k : evA p2 s0 d u y b) : x = y ∧ a = b := by
  obtain ⟨v, hv, ev⟩ := nI_of hs
  rcases Classical.em (inB p2 1 50) with c | c
  · obtain ⟨n, -, h2, e⟩ := inB_ofc (a := 1) (b := 50) (by omega) (by omega) c
    have h1 := h.2 n v h2 e c (by omega) ev
    have k1 := k.2 n v h2 e c (by omega) ev
    exact ⟨h1.1.trans k1.1.symm, h1.2.trans k1.2.symm⟩
  · exact ⟨(h.1 c).1.trans (k.1 c).1.symm, (h.1 c).2.trans (k.1 c).2.symm⟩
theorem evA_nn {p2 s0 : Int32} {d : SDt} {u : RUt} {x a : Int32} (hs : ¬ s0 < 0) (h : evA p2 s0 d u x a) : ¬ a < 0 := by
  obtain ⟨v, hv, ev⟩ := nI_of hs
  rcases Classical.em (inB p2 1 50) with c | c
  · obtain ⟨n, -, h2, e⟩ := inB_ofc (a := 1) (b := 50) (by omega) (by omega) c
    rw [(h.2 n v h2 e c (by omega) ev).2]
    exact Int32.not_lt.mpr (nI_ge0 (evN_lt (by omega) n))
  · rw [(h.1 c).2]
    exact hs
theorem ev_o {p2 s0 : Int32} {d : SDt} {u : RUt} (h : ¬ inB p2 1 50) : evA p2 s0 d u (-1002) s0 := ⟨fun _ => ⟨rfl, rfl⟩, fun _ _ _ _ c => absurd c h⟩
theorem ev_i {n v w : Nat} {d : SDt} {u : RUt} {r : Int32} {a : Int64} (hn : n ≤ 50) (hi : inB (nI n) 1 50) (hv : v < 2147483648) (ha : a = (evN d u (muD d u) v n).1) (hw : w = (evN d u (muD d u) v n).2) (hr : r = (a / 1000).toInt32) : evA (nI n) (nI v) d u r (nI w) := by
  refine ⟨fun c => absurd hi c, fun m z hm e _ hz ez => ?_⟩
  have e1 := nI_inj (by omega) (by omega) e
  have e2 := nI_inj (by omega) (by omega) ez
  subst e1 e2
  rw [hr, ha, hw]
  exact ⟨rfl, rfl⟩
def evP (sd : Nat → SDt) (k : Nat) (ru : Nat → RUt) (p0 p1 p2 s0 r s1 : Int32) : Prop := ((∀ s t, s < 3 → t < k → p0 = nI s → p1 = nI t → ¬ 0 < (sd s).1) → r = -1001 ∧ s1 = s0) ∧ ∀ s t, s < 3 → t < k → p0 = nI s → p1 = nI t → 0 < (sd s).1 → evA p2 s0 (sd s) (ru t) r s1
theorem evP_fun {sd se : Nat → SDt} {k : Nat} {ru rv : Nat → RUt} {p0 p1 p2 s0 r q a b : Int32} (hs : ¬ s0 < 0) (h : evP sd k ru p0 p1 p2 s0 r a) (g : evP se k rv p0 p1 p2 s0 q b) (e : ∀ i, i < 3 → sd i = se i) (e2 : ∀ i, i < k → ru i = rv i) : r = q ∧ a = b := by
  rcases Classical.em (∃ s t, s < 3 ∧ t < k ∧ p0 = nI s ∧ p1 = nI t ∧ 0 < (sd s).1) with ⟨s, t, h1, h2, h3, h4, h5⟩ | hn
  · have x := h.2 s t h1 h2 h3 h4 h5
    have y := g.2 s t h1 h2 h3 h4 (by rw [← e s h1]; exact h5)
    rw [← e s h1, ← e2 t h2] at y
    exact evA_fun hs x y
  · have x := h.1 (fun s t h1 h2 h3 h4 h5 => hn ⟨s, t, h1, h2, h3, h4, h5⟩)
    have y := g.1 (fun s t h1 h2 h3 h4 h5 => hn ⟨s, t, h1, h2, h3, h4, by rw [e s h1]; exact h5⟩)
    exact ⟨x.1.trans y.1.symm, x.2.trans y.2.symm⟩
theorem evP_nn {sd : Nat → SDt} {k : Nat} {ru : Nat → RUt} {p0 p1 p2 s0 r a : Int32} (hs : ¬ s0 < 0) (h : evP sd k ru p0 p1 p2 s0 r a) : ¬ a < 0 := by
  rcases Classical.em (∃ s t, s < 3 ∧ t < k ∧ p0 = nI s ∧ p1 = nI t ∧ 0 < (sd s).1) with ⟨s, t, h1, h2, h3, h4, h5⟩ | hn
  · exact evA_nn hs (h.2 s t h1 h2 h3 h4 h5)
  · rw [(h.1 (fun s t h1 h2 h3 h4 h5 => hn ⟨s, t, h1, h2, h3, h4, h5⟩)).2]
    exact hs
theorem ev_no0 {sd : Nat → SDt} {k : Nat} {ru : Nat → RUt} {p0 p1 p2 s0 : Int32} (h : ∀ s, s < 3 → p0 = nI s → ¬ 0 < (sd s).1) : evP sd k ru p0 p1 p2 s0 (-1001) s0 := ⟨fun _ => ⟨rfl, rfl⟩, fun s t h1 _ h3 _ h5 => absurd h5 (h s h1 h3)⟩
theorem ev_no1 {sd : Nat → SDt} {k : Nat} {ru : Nat → RUt} {p0 p1 p2 s0 : Int32} (h : ∀ t, t < k → ¬ p1 = nI t) : evP sd k ru p0 p1 p2 s0 (-1001) s0 := ⟨fun _ => ⟨rfl, rfl⟩, fun s t _ h2 _ h4 _ => absurd h4 (h t h2)⟩
theorem ev_at {sd : Nat → SDt} {k s t : Nat} {ru : Nat → RUt} {p2 s0 r s1 : Int32} (hk : k ≤ 4) (hs : s < 3) (ht : t < k) (hp : 0 < (sd s).1) (h : evA p2 s0 (sd s) (ru t) r s1) : evP sd k ru (nI s) (nI t) p2 s0 r s1 := by
  refine ⟨fun q => absurd hp (q s t hs ht rfl rfl), fun s2 t2 k1 k2 k3 k4 _ => ?_⟩
  have e1 := nI_inj (by omega) (by omega) k3
  have e2 := nI_inj (by omega) (by omega) k4
  subst e1 e2
  exact h


set_option maxHeartbeats 4000000 in
set_option maxRecDepth 100000 in
theorem y_draw (l : Launch) (D : va_G) (k : Nat → ClassId) (st : Nat → Nat) (lo : Nat) (c0 : Nat) (c1 : Nat) (c2 : Nat) (cc : Nat) (rz : Nat) (ro : Int32) (sd : Nat) (hsd : sd < 2147483648) : CWi l D k st lo yX4_draw cX4_draw 1 (some .int) ({ frames := 0, cells := 0, slots := 0, locals := 0 }) 0 0 [.ref c0] [(c0, .inr (4, (fX4 c1 c2 (nI cc) (nI rz) ro (nI sd))))] (fun (r : Int32) (sd_ : Nat) => r = nI (drN sd / 65536 % 100) ∧ sd_ = drN sd) (fun (sd_ : Nat) => [(c0, .inr (4, (fX4 c1 c2 (nI cc) (nI rz) ro (nI sd_))))]) := by
  intro sz
  refine Met.ofW (cc := cX4_draw) (maxL := 1) (ret := (some .int)) (by decide) rfl ?_
  intro p e s m args below meth c s₁ B hml hv
  obtain ⟨rfl, hsz, hlo, hP, hK, hDL, hZ⟩ := hv
  have hx := B.exec
  have hb := B.bytes
  have hr := B.returns
  have hts := WS_ts B.pre
  have hown : s.vm.findClass RX4 = some m.cls := findClass_of_methodNamed B.named
  have hlocks := B.notSynchronized
  subst hsz
  have hD := hDL.self (sz := s.heap.size)
  have hAlo := A_lo hDL hlo
  generalize hAe : va_A [(c0, .inr (4, (fX4 c1 c2 (nI cc) (nI rz) ro (nI sd))))] s.heap.size = A at hD hAlo ⊢
  have hA : ∀ q : Nat, s.heap.size ≤ q → A q := fun q h => by rw [← hAe]; exact Or.inr h
  have hS : va_S A s.heap s.heap [] := va_S.rf
  have hl := lv_entry ([.ref c0]) (n := 1) (Nat.le_of_ble_eq_true rfl)
  rw [lg_entry_eq]
  generalize (lg_sl ([.ref c0]) ++ List.replicate (1 - (lg_sl ([.ref c0])).length) Slot.unset).toArray = ls at hl ⊢
  have hl : lv_has ls 1 [(0, .ref c0)] := hl
  refine lv_aload_n hx hb dX4_draw_0 rfl (lv_at hl 0 rfl) ?_
  refine lv_aload_n hx hb dX4_draw_1 rfl (lv_at hl 0 rfl) ?_
  refine va_get (D := D) (ci := 4) (v := .int (nI sd)) (C := RX4) (T := TX4) (N := 6) hx hb hts inX4 hown hK hP 0 rfl rfl 5 (by decide) (hts _ tw_188) (fun _ h9 => h9) rfl dX4_draw_2 ?_
  refine lv_i2l (v := (nI sd).toInt64) hx hb dX4_draw_5 rfl ?_
  refine lv_ldc2 hx hb hown (hts _ tw_936) dX4_draw_6 ?_
  refine lv_lmul hx hb dX4_draw_9 ?_
  refine lv_topl (fun x_1 ex_1 => ?_)
  refine lv_ldc2 hx hb hown (hts _ tw_937) dX4_draw_10 ?_
  refine lv_ladd hx hb dX4_draw_13 ?_
  refine lv_topl (fun x_2 ex_2 => ?_)
  refine lv_ldc2 hx hb hown (hts _ tw_938) dX4_draw_14 ?_
  refine lv_land hx hb dX4_draw_17 ?_
  refine lv_topl (fun x_3 ex_3 => ?_)
  refine lv_l2i hx hb dX4_draw_18 rfl ?_
  refine lv_topi (fun x_4 ex_4 => ?_)
  have hx_9 : x_4 = nI (drN sd) := by rw [ex_4, ex_3, ex_2, ex_1]; exact dr_x hsd
  have hdl_9 := drN_lt (v := sd)
  subst hx_9
  refine va_put (D := D) (ci := 4) (v := .int (nI (drN sd))) (ty := .int) (C := RX4) (T := TX4) (N := 6) hx hb hts inX4 tyX4 tyX4_ok nmX4 hown hK hP hD hS 0 rfl rfl 5 (by decide) (hts _ tw_188) (fun _ h9 => h9) rfl (by decide +kernel) rfl rfl (Nat.le_of_ble_eq_true rfl) dX4_draw_19 (fun H locs hP hD hS => ?_)
  replace hP : va_P D classes [(c0, .inr (4, (fX4 c1 c2 (nI cc) (nI rz) ro (nI (drN sd)))))] H := hP
  replace hD : va_D A [(c0, .inr (4, (fX4 c1 c2 (nI cc) (nI rz) ro (nI (drN sd)))))] := hD
  refine lv_aload_n hx hb dX4_draw_22 rfl (lv_at hl 0 rfl) ?_
  refine va_get (D := D) (ci := 4) (v := .int (nI (drN sd))) (C := RX4) (T := TX4) (N := 6) hx hb hts inX4 hown hK hP 0 rfl rfl 5 (by decide) (hts _ tw_188) (fun _ h9 => h9) rfl dX4_draw_23 ?_
  refine lv_ldc hx hb hown (hts _ tw_939) dX4_draw_26 ?_
  refine lv_idiv hx hb dX4_draw_28 (by decide) ?_
  refine lv_ti (y := (nI ((drN sd) / 65536))) (pk_div (by omega) (by decide) (by decide)) ?_
  refine lv_bipush (v := 100) hx hb dX4_draw_29 (by decide) ?_
  refine lv_irem hx hb dX4_draw_31 (by decide) ?_
  refine lv_ti (y := (nI (((drN sd) / 65536) % 100))) (pk_rem (by omega) (by decide) (by decide)) ?_
  have hP9 := hP.sub (ws' := [(c0, .inr (4, (fX4 c1 c2 (nI cc) (nI rz) ro (nI (drN sd)))))]) [0] rfl
  have hD9 := hD.sub (ws' := [(c0, .inr (4, (fX4 c1 c2 (nI cc) (nI rz) ro (nI (drN sd)))))]) [0] (by decide) rfl
  exact W.iret (v := (nI (((drN sd) / 65536) % 100))) hx hb hr (fun t ht hW => ⟨⟨(nI (((drN sd) / 65536) % 100)), (drN sd), rfl, ⟨rfl, rfl⟩, by rw [ht]; exact hP9, hD9⟩, hS.F ht⟩) hS.2.2 dX4_draw_32


set_option maxHeartbeats 4000000 in
set_option maxRecDepth 100000 in
theorem n_draw (l : Launch) (D : va_G) (k : Nat → ClassId) (st : Nat → Nat) (lo : Nat) (a : Nat → Nat) (tx : Nat) (t0 : Nat) (we : Nat) (rd : Nat) (ru : Nat) (rw : Nat) (ca : Nat) (fp : Int32) (wd : Int64) (nu : Int32) (na : Int32) (ts : Int32) (df : Int32) (db : Int32) (sd : Nat)  (hsd : sd < 2147483648) : CWi l D k st lo yX8_draw cX8_draw 1 (some .int) ({ frames := 0, cells := 0, slots := 0, locals := 0 }) 0 0 [.ref (a 0)] [((a 0), .inr (8, (fX8 a (nI tx) fp (nI t0) wd (nI we) nu na (nI rd) ts (nI ru) (nI rw) (nI ca) df db (nI sd))))] (fun (r : Int32) (sd_ : Nat) => r = nI (drN sd / 65536 % 100) ∧ sd_ = drN sd) (fun (sd_ : Nat) => [((a 0), .inr (8, (fX8 a (nI tx) fp (nI t0) wd (nI we) nu na (nI rd) ts (nI ru) (nI rw) (nI ca) df db (nI sd_))))]) := by
  intro sz
  refine Met.ofW (cc := cX8_draw) (maxL := 1) (ret := (some .int)) (by decide) rfl ?_
  intro p e s m args below meth c s₁ B hml hv
  obtain ⟨rfl, hsz, hlo, hP, hK, hDL, hZ⟩ := hv
  have hx := B.exec
  have hb := B.bytes
  have hr := B.returns
  have hts := WS_ts B.pre
  have hown : s.vm.findClass RX8 = some m.cls := findClass_of_methodNamed B.named
  have hlocks := B.notSynchronized
  subst hsz
  have hD := hDL.self (sz := s.heap.size)
  have hAlo := A_lo hDL hlo
  generalize hAe : va_A [((a 0), .inr (8, (fX8 a (nI tx) fp (nI t0) wd (nI we) nu na (nI rd) ts (nI ru) (nI rw) (nI ca) df db (nI sd))))] s.heap.size = A at hD hAlo ⊢
  have hA : ∀ q : Nat, s.heap.size ≤ q → A q := fun q h => by rw [← hAe]; exact Or.inr h
  have hS : va_S A s.heap s.heap [] := va_S.rf
  have hl := lv_entry ([.ref (a 0)]) (n := 1) (Nat.le_of_ble_eq_true rfl)
  rw [lg_entry_eq]
  generalize (lg_sl ([.ref (a 0)]) ++ List.replicate (1 - (lg_sl ([.ref (a 0)])).length) Slot.unset).toArray = ls at hl ⊢
  have hl : lv_has ls 1 [(0, .ref (a 0))] := hl
  refine lv_aload_n hx hb dX8_draw_0 rfl (lv_at hl 0 rfl) ?_
  refine lv_aload_n hx hb dX8_draw_1 rfl (lv_at hl 0 rfl) ?_
  refine va_get (D := D) (ci := 8) (v := .int (nI sd)) (C := RX8) (T := TX8) (N := 44) hx hb hts inX8 hown hK hP 0 rfl rfl 41 (by decide) (hts _ tw_1014) (fun _ h9 => h9) rfl dX8_draw_2 ?_
  refine lv_i2l (v := (nI sd).toInt64) hx hb dX8_draw_5 rfl ?_
  refine lv_ldc2 hx hb hown (hts _ tw_1484) dX8_draw_6 ?_
  refine lv_lmul hx hb dX8_draw_9 ?_
  refine lv_topl (fun x_1 ex_1 => ?_)
  refine lv_ldc2 hx hb hown (hts _ tw_1485) dX8_draw_10 ?_
  refine lv_ladd hx hb dX8_draw_13 ?_
  refine lv_topl (fun x_2 ex_2 => ?_)
  refine lv_ldc2 hx hb hown (hts _ tw_1486) dX8_draw_14 ?_
  refine lv_lrem hx hb dX8_draw_17 (by decide) ?_
  refine lv_topl (fun x_3 ex_3 => ?_)
  refine lv_l2i hx hb dX8_draw_18 rfl ?_
  refine lv_topi (fun x_4 ex_4 => ?_)
  have hx_9 : x_4 = nI (drN sd) := by rw [ex_4, ex_3, ex_2, ex_1]; exact dr_m hsd
  have hdl_9 := drN_lt (v := sd)
  subst hx_9
  refine va_put (D := D) (ci := 8) (v := .int (nI (drN sd))) (ty := .int) (C := RX8) (T := TX8) (N := 44) hx hb hts inX8 tyX8 tyX8_ok nmX8 hown hK hP hD hS 0 rfl rfl 41 (by decide) (hts _ tw_1014) (fun _ h9 => h9) rfl (by decide +kernel) rfl rfl (Nat.le_of_ble_eq_true rfl) dX8_draw_19 (fun H locs hP hD hS => ?_)
  replace hP : va_P D classes [((a 0), .inr (8, (fX8 a (nI tx) fp (nI t0) wd (nI we) nu na (nI rd) ts (nI ru) (nI rw) (nI ca) df db (nI (drN sd)))))] H := hP
  replace hD : va_D A [((a 0), .inr (8, (fX8 a (nI tx) fp (nI t0) wd (nI we) nu na (nI rd) ts (nI ru) (nI rw) (nI ca) df db (nI (drN sd)))))] := hD
  refine lv_aload_n hx hb dX8_draw_22 rfl (lv_at hl 0 rfl) ?_
  refine va_get (D := D) (ci := 8) (v := .int (nI (drN sd))) (C := RX8) (T := TX8) (N := 44) hx hb hts inX8 hown hK hP 0 rfl rfl 41 (by decide) (hts _ tw_1014) (fun _ h9 => h9) rfl dX8_draw_23 ?_
  refine lv_ldcw hx hb hown (hts _ tw_1487) dX8_draw_26 ?_
  refine lv_idiv hx hb dX8_draw_29 (by decide) ?_
  refine lv_ti (y := (nI ((drN sd) / 65536))) (pk_div (by omega) (by decide) (by decide)) ?_
  refine lv_bipush (v := 100) hx hb dX8_draw_30 (by decide) ?_
  refine lv_irem hx hb dX8_draw_32 (by decide) ?_
  refine lv_ti (y := (nI (((drN sd) / 65536) % 100))) (pk_rem (by omega) (by decide) (by decide)) ?_
  have hP9 := hP.sub (ws' := [((a 0), .inr (8, (fX8 a (nI tx) fp (nI t0) wd (nI we) nu na (nI rd) ts (nI ru) (nI rw) (nI ca) df db (nI (drN sd)))))]) [0] rfl
  have hD9 := hD.sub (ws' := [((a 0), .inr (8, (fX8 a (nI tx) fp (nI t0) wd (nI we) nu na (nI rd) ts (nI ru) (nI rw) (nI ca) df db (nI (drN sd)))))]) [0] (by decide) rfl
  exact W.iret (v := (nI (((drN sd) / 65536) % 100))) hx hb hr (fun t ht hW => ⟨⟨(nI (((drN sd) / 65536) % 100)), (drN sd), rfl, ⟨rfl, rfl⟩, by rw [ht]; exact hP9, hD9⟩, hS.F ht⟩) hS.2.2 dX8_draw_33


set_option maxHeartbeats 4000000 in
set_option maxRecDepth 100000 in
theorem y_eveningOf (l : Launch) (D : va_G) (k : Nat → ClassId) (st : Nat → Nat) (lo : Nat) (y0 : Nat) (y1 : Nat) (y2 : Nat) (y3 : Nat) (wt : Int32) (wc : Int32) (h0 : Nat) (h1 : Nat) (h2 : Nat) (h3 : Nat) (h4 : Nat) (n : Nat) (see : Nat) (tm : Nat) (g : Nat → Int32) (ff : Nat → Int32) (fp : Nat → Int32) (fl : Nat → Int32) (u0 : Nat) (u1 : Nat) (u2 : Nat) (rf : Int32) (rc : Nat) (rr : Nat) (rs : Nat → Int32) (rb : Nat → Int32) (c0 : Nat) (c1 : Nat) (c2 : Nat) (cc : Nat) (rz : Nat) (ro : Int32) (sd : Nat) (hn : n ≤ 24) (hrc : rc ≤ 24) (hrr : rr ≤ 3) (htm9 : tm ≤ 3) (hl9 : ∀ r, r < 4 → fl r = pLate (sdX n see tm g ff fp) r) (hok9 : okD (sdX n see tm g ff fp)) (hsd : sd < 2147483648) : CWi l D k st lo yX2_eveningOf cX2_eveningOf 11 (some .int) ({ frames := 2, cells := 0, slots := 0, locals := 83 }) 0 0 [.ref y0, .ref h0, .ref u0, .ref c0] [(y0, .inr (2, (fX2 y1 y2 y3 wt wc))), (h0, .inr (5, (fX5 h1 h2 h3 h4))), (aI k h1 10 (vv n see tm g)), (aI k h2 24 ff), (aI k h3 24 fp), (aI k h4 4 fl), (u0, .inr (3, (fX3 u1 u2 rf (nI rc) (nI rr)))), (aI k u1 24 rs), (aI k u2 24 rb), (c0, .inr (4, (fX4 c1 c2 (nI cc) (nI rz) ro (nI sd))))] (fun (r : Int32) (sd_ : Nat) => (r, sd_) = evF (sdX n see tm g ff fp) (ruX rf rc rr rs rb) (min rr tm) sd ∧ sd_ < 2147483648) (fun (sd_ : Nat) => [(y0, .inr (2, (fX2 y1 y2 y3 wt wc))), (h0, .inr (5, (fX5 h1 h2 h3 h4))), (aI k h1 10 (vv n see tm g)), (aI k h2 24 ff), (aI k h3 24 fp), (aI k h4 4 fl), (u0, .inr (3, (fX3 u1 u2 rf (nI rc) (nI rr)))), (aI k u1 24 rs), (aI k u2 24 rb), (c0, .inr (4, (fX4 c1 c2 (nI cc) (nI rz) ro (nI sd_))))]) := by
  intro sz
  refine Met.ofW (cc := cX2_eveningOf) (maxL := 11) (ret := (some .int)) (by decide) rfl ?_
  intro p e s m args below meth c s₁ B hml hv
  obtain ⟨rfl, hsz, hlo, hP, hK, hDL, hZ⟩ := hv
  have hx := B.exec
  have hb := B.bytes
  have hr := B.returns
  have hts := WS_ts B.pre
  have hown : s.vm.findClass RX2 = some m.cls := findClass_of_methodNamed B.named
  have hlocks := B.notSynchronized
  subst hsz
  have hD := hDL.self (sz := s.heap.size)
  have hAlo := A_lo hDL hlo
  generalize hAe : va_A [(y0, .inr (2, (fX2 y1 y2 y3 wt wc))), (h0, .inr (5, (fX5 h1 h2 h3 h4))), (aI k h1 10 (vv n see tm g)), (aI k h2 24 ff), (aI k h3 24 fp), (aI k h4 4 fl), (u0, .inr (3, (fX3 u1 u2 rf (nI rc) (nI rr)))), (aI k u1 24 rs), (aI k u2 24 rb), (c0, .inr (4, (fX4 c1 c2 (nI cc) (nI rz) ro (nI sd))))] s.heap.size = A at hD hAlo ⊢
  have hA : ∀ q : Nat, s.heap.size ≤ q → A q := fun q h => by rw [← hAe]; exact Or.inr h
  have hS : va_S A s.heap s.heap [] := va_S.rf
  have hl := lv_entry ([.ref y0, .ref h0, .ref u0, .ref c0]) (n := 11) (Nat.le_of_ble_eq_true rfl)
  rw [lg_entry_eq]
  generalize (lg_sl ([.ref y0, .ref h0, .ref u0, .ref c0]) ++ List.replicate (11 - (lg_sl ([.ref y0, .ref h0, .ref u0, .ref c0])).length) Slot.unset).toArray = ls at hl ⊢
  have hl : lv_has ls 11 [(0, .ref y0), (1, .ref h0), (2, .ref u0), (3, .ref c0)] := hl
  refine lv_aload_n hx hb dX2_eveningOf_0 rfl (lv_at hl 2 rfl) ?_
  refine lv_aload_n hx hb dX2_eveningOf_1 rfl (lv_at hl 1 rfl) ?_
  refine ro_i (D := D) (va_runV (As := [.ref h0]) (rest := []) ⟨hx, hb, hml, hown, hts⟩ ((x_roundsIn l D k st lo u0 u1 u2 rf rc rr h0 h1 h2 h3 h4 n see tm g (by first | assumption | omega) (by first | assumption | omega)) s.heap.size) (cwV 1 hts (gV tw_705 tw_706 tw_707 tw_86 tw_708) rfl rfl rfl (by decide +kernel) ⟨Nat.le_of_ble_eq_true rfl, Nat.le_of_ble_eq_true rfl⟩) (pV hS hAlo hlo hP hK (va_Dlo hD hAlo) hZ [6, 1, 2] (by decide) rfl (ci := 3) (q := (RX3, TX3, 5)) (q0 := 0) rfl rfl) rfl rfl hl.1 rfl (lv_room (Nat.le_of_ble_eq_true rfl)) dX2_eveningOf_2 ⟨Nat.le_of_ble_eq_true rfl, Nat.le_of_ble_eq_true rfl⟩) hS hA hP (fun r_1 H locs hw_1 hP hS => ?_)
  try dsimp only at hw_1
  subst hw_1
  refine lv_istore (lv' := [(4, .int (nI (min rr tm))), (0, .ref y0), (1, .ref h0), (2, .ref u0), (3, .ref c0)]) hx hb dX2_eveningOf_5 hl (by decide) rfl (fun ls hl => ?_)
  refine lv_iconst (v := 0) hx hb dX2_eveningOf_7 (by decide) ?_
  refine lv_istore (lv' := [(5, .int 0), (4, .int (nI (min rr tm))), (0, .ref y0), (1, .ref h0), (2, .ref u0), (3, .ref c0)]) hx hb dX2_eveningOf_8 hl (by decide) rfl (fun ls hl => ?_)
  refine lv_iconst (v := 0) hx hb dX2_eveningOf_10 (by decide) ?_
  refine lv_istore (lv' := [(6, .int 0), (5, .int 0), (4, .int (nI (min rr tm))), (0, .ref y0), (1, .ref h0), (2, .ref u0), (3, .ref c0)]) hx hb dX2_eveningOf_11 hl (by decide) rfl (fun ls hl => ?_)
  refine W_loop (σ := Nat × Int32 × Nat) (fun (n_ : Nat) (x_ : Nat × Int32 × Nat) (H : Heap) (locs : List Loc) (ls : Array Slot) => match x_ with | (rn2_2, co_2, sd2_2) => n_ = (min rr tm) + 1 - rn2_2 ∧ (rn2_2 ≤ (min rr tm) + 1 ∧ sd2_2 < 2147483648 ∧ (rn2_2 ≤ (min rr tm) → evS (sdX n see tm g ff fp) (ruX rf rc rr rs rb) (min rr tm) rn2_2 0 0 0 co_2 sd2_2 = evF (sdX n see tm g ff fp) (ruX rf rc rr rs rb) (min rr tm) sd) ∧ (rn2_2 = (min rr tm) + 1 → (co_2 + pGar (sdX n see tm g ff fp) (min rr tm), sd2_2) = evF (sdX n see tm g ff fp) (ruX rf rc rr rs rb) (min rr tm) sd)) ∧ va_P D classes [(y0, .inr (2, (fX2 y1 y2 y3 wt wc))), (h0, .inr (5, (fX5 h1 h2 h3 h4))), (aI k h1 10 (vv n see tm g)), (aI k h2 24 ff), (aI k h3 24 fp), (aI k h4 4 fl), (u0, .inr (3, (fX3 u1 u2 rf (nI rc) (nI rr)))), (aI k u1 24 rs), (aI k u2 24 rb), (c0, .inr (4, (fX4 c1 c2 (nI cc) (nI rz) ro (nI sd2_2))))] H ∧ va_D A [(y0, .inr (2, (fX2 y1 y2 y3 wt wc))), (h0, .inr (5, (fX5 h1 h2 h3 h4))), (aI k h1 10 (vv n see tm g)), (aI k h2 24 ff), (aI k h3 24 fp), (aI k h4 4 fl), (u0, .inr (3, (fX3 u1 u2 rf (nI rc) (nI rr)))), (aI k u1 24 rs), (aI k u2 24 rb), (c0, .inr (4, (fX4 c1 c2 (nI cc) (nI rz) ro (nI sd2_2))))] ∧ va_S A s.heap H locs ∧ lv_has ls 11 [(6, .int (nI rn2_2)), (5, .int co_2), (4, .int (nI (min rr tm))), (0, .ref y0), (1, .ref h0), (2, .ref u0), (3, .ref c0)]) (fun n_2 x_2 H locs ls hI ih_2 => ?_) _ (0, 0, sd) ⟨rfl, ⟨by omega, hsd, fun _ => rfl, fun h => absurd h (by omega)⟩, hP, hD, hS, (lv_sub hl [0, 1, 2, 3, 4, 5, 6] rfl)⟩
  obtain ⟨rn2_2, co_2, sd2_2⟩ := x_2
  obtain ⟨hm_2, hv_2, hP, hD, hS, hl⟩ := hI
  subst hm_2
  refine lv_iload hx hb dX2_eveningOf_13 (lv_at hl 0 rfl) ?_
  refine lv_iload hx hb dX2_eveningOf_15 (lv_at hl 2 rfl) ?_
  refine lv_icmp_gt (tgt := 144) hx hb dX2_eveningOf_17 (by decide) (fun c_3 => ?_) (fun c_3 => ?_)
  · have c_3 := (nI_ltI (a := (min rr tm)) (b := rn2_2) (by omega) (by omega)).mp c_3
    refine lv_iload hx hb dX2_eveningOf_144 (lv_at hl 1 rfl) ?_
    refine lv_aload_n hx hb dX2_eveningOf_146 rfl (lv_at hl 4 rfl) ?_
    refine lv_iload hx hb dX2_eveningOf_147 (lv_at hl 2 rfl) ?_
    refine ro_i (D := D) (va_runV (As := [.int (nI (min rr tm))]) (rest := [.int co_2]) ⟨hx, hb, hml, hown, hts⟩ ((y_garageOf l D k st lo h0 h1 h2 h3 h4 n see tm g fl (min rr tm) (by first | assumption | omega)) H.size) (cwV 1 hts (gV tw_713 tw_521 tw_522 tw_81 tw_523) rfl rfl rfl (by decide +kernel) ⟨Nat.le_of_ble_eq_true rfl, Nat.le_of_ble_eq_true rfl⟩) (pV hS hAlo hlo hP hK (va_Dlo hD hAlo) hZ [1, 2, 5] (by decide) rfl (ci := 5) (q := (RX5, TX5, 4)) (q0 := 0) rfl rfl) rfl rfl hl.1 rfl (lv_room (Nat.le_of_ble_eq_true rfl)) dX2_eveningOf_149 ⟨Nat.le_of_ble_eq_true rfl, Nat.le_of_ble_eq_true rfl⟩) hS hA hP (fun r_4 H locs hw_4 hP hS => ?_)
    try dsimp only at hw_4
    refine lv_iadd hx hb dX2_eveningOf_152 ?_
    refine lv_topi (fun x_5 ex_5 => ?_)
    have hP9 := hP.sub (ws' := [(y0, .inr (2, (fX2 y1 y2 y3 wt wc))), (h0, .inr (5, (fX5 h1 h2 h3 h4))), (aI k h1 10 (vv n see tm g)), (aI k h2 24 ff), (aI k h3 24 fp), (aI k h4 4 fl), (u0, .inr (3, (fX3 u1 u2 rf (nI rc) (nI rr)))), (aI k u1 24 rs), (aI k u2 24 rb), (c0, .inr (4, (fX4 c1 c2 (nI cc) (nI rz) ro (nI sd2_2))))]) [0, 1, 2, 3, 4, 5, 6, 7, 8, 9] rfl
    have hD9 := hD.sub (ws' := [(y0, .inr (2, (fX2 y1 y2 y3 wt wc))), (h0, .inr (5, (fX5 h1 h2 h3 h4))), (aI k h1 10 (vv n see tm g)), (aI k h2 24 ff), (aI k h3 24 fp), (aI k h4 4 fl), (u0, .inr (3, (fX3 u1 u2 rf (nI rc) (nI rr)))), (aI k u1 24 rs), (aI k u2 24 rb), (c0, .inr (4, (fX4 c1 c2 (nI cc) (nI rz) ro (nI sd2_2))))]) [0, 1, 2, 3, 4, 5, 6, 7, 8, 9] (by decide +kernel) rfl
    exact W.iret (v := x_5) hx hb hr (fun t ht hW => ⟨⟨x_5, sd2_2, rfl, ⟨(by rw [ex_5, hw_4, xGar (see := see) (tm := tm) (ff := ff) (fp := fp) (hl9 (min rr tm) (by omega))]; exact hv_2.2.2.2 (by omega)), hv_2.2.1⟩, by rw [ht]; exact hP9, hD9⟩, hS.F ht⟩) hS.2.2 dX2_eveningOf_153
  · have c_3 : ¬ ((min rr tm) < rn2_2) := fun h => c_3 ((nI_ltI (a := (min rr tm)) (b := rn2_2) (by omega) (by omega)).mpr h)
    refine lv_iconst (v := 0) hx hb dX2_eveningOf_20 (by decide) ?_
    refine lv_istore (lv' := [(7, .int 0), (6, .int (nI rn2_2)), (5, .int co_2), (4, .int (nI (min rr tm))), (0, .ref y0), (1, .ref h0), (2, .ref u0), (3, .ref c0)]) hx hb dX2_eveningOf_21 hl (by decide) rfl (fun ls hl => ?_)
    refine lv_iconst (v := 0) hx hb dX2_eveningOf_23 (by decide) ?_
    refine lv_istore (lv' := [(8, .int 0), (7, .int 0), (6, .int (nI rn2_2)), (5, .int co_2), (4, .int (nI (min rr tm))), (0, .ref y0), (1, .ref h0), (2, .ref u0), (3, .ref c0)]) hx hb dX2_eveningOf_24 hl (by decide) rfl (fun ls hl => ?_)
    refine lv_iconst (v := 0) hx hb dX2_eveningOf_26 (by decide) ?_
    refine lv_istore (lv' := [(9, .int 0), (8, .int 0), (7, .int 0), (6, .int (nI rn2_2)), (5, .int co_2), (4, .int (nI (min rr tm))), (0, .ref y0), (1, .ref h0), (2, .ref u0), (3, .ref c0)]) hx hb dX2_eveningOf_27 hl (by decide) rfl (fun ls hl => ?_)
    refine W_loop (σ := Nat × Int32 × Nat × Int32 × Nat) (fun (n_ : Nat) (x_ : Nat × Int32 × Nat × Int32 × Nat) (H : Heap) (locs : List Loc) (ls : Array Slot) => match x_ with | (ii_6, co2_6, pa_6, ah_6, sd3_6) => n_ = n - ii_6 ∧ (ii_6 ≤ n ∧ pa_6 ≤ ii_6 ∧ sd3_6 < 2147483648 ∧ evS (sdX n see tm g ff fp) (ruX rf rc rr rs rb) (min rr tm) rn2_2 ii_6 pa_6 ah_6 co2_6 sd3_6 = evF (sdX n see tm g ff fp) (ruX rf rc rr rs rb) (min rr tm) sd) ∧ va_P D classes [(y0, .inr (2, (fX2 y1 y2 y3 wt wc))), (h0, .inr (5, (fX5 h1 h2 h3 h4))), (aI k h1 10 (vv n see tm g)), (aI k h2 24 ff), (aI k h3 24 fp), (aI k h4 4 fl), (u0, .inr (3, (fX3 u1 u2 rf (nI rc) (nI rr)))), (aI k u1 24 rs), (aI k u2 24 rb), (c0, .inr (4, (fX4 c1 c2 (nI cc) (nI rz) ro (nI sd3_6))))] H ∧ va_D A [(y0, .inr (2, (fX2 y1 y2 y3 wt wc))), (h0, .inr (5, (fX5 h1 h2 h3 h4))), (aI k h1 10 (vv n see tm g)), (aI k h2 24 ff), (aI k h3 24 fp), (aI k h4 4 fl), (u0, .inr (3, (fX3 u1 u2 rf (nI rc) (nI rr)))), (aI k u1 24 rs), (aI k u2 24 rb), (c0, .inr (4, (fX4 c1 c2 (nI cc) (nI rz) ro (nI sd3_6))))] ∧ va_S A s.heap H locs ∧ lv_has ls 11 [(9, .int (nI ii_6)), (8, .int ah_6), (7, .int (nI pa_6)), (6, .int (nI rn2_2)), (5, .int co2_6), (4, .int (nI (min rr tm))), (0, .ref y0), (1, .ref h0), (2, .ref u0), (3, .ref c0)]) (fun n_6 x_6 H locs ls hI ih_6 => ?_) _ (0, co_2, 0, 0, sd2_2) ⟨rfl, ⟨by omega, by omega, hv_2.2.1, hv_2.2.2.1 (by omega)⟩, hP, hD, hS, (lv_sub hl [0, 1, 2, 3, 4, 5, 6, 7, 8, 9] rfl)⟩
    obtain ⟨ii_6, co2_6, pa_6, ah_6, sd3_6⟩ := x_6
    obtain ⟨hm_6, hv_6, hP, hD, hS, hl⟩ := hI
    subst hm_6
    refine lv_iload hx hb dX2_eveningOf_29 (lv_at hl 0 rfl) ?_
    refine lv_aload_n hx hb dX2_eveningOf_31 rfl (lv_at hl 7 rfl) ?_
    refine ro_i (D := D) (va_runV (As := []) (rest := [.int (nI ii_6)]) ⟨hx, hb, hml, hown, hts⟩ ((x_doors l D k st lo h0 h1 h2 h3 h4 n see tm g) H.size) (cwV 0 hts (gV tw_723 tw_478 tw_479 tw_81 tw_480) rfl rfl rfl (by decide +kernel) ⟨Nat.le_of_ble_eq_true rfl, Nat.le_of_ble_eq_true rfl⟩) (pV hS hAlo hlo hP hK (va_Dlo hD hAlo) hZ [1, 2] (by decide) rfl (ci := 5) (q := (RX5, TX5, 4)) (q0 := 0) rfl rfl) rfl rfl hl.1 rfl (lv_room (Nat.le_of_ble_eq_true rfl)) dX2_eveningOf_32 ⟨Nat.le_of_ble_eq_true rfl, Nat.le_of_ble_eq_true rfl⟩) hS hA hP (fun r_7 H locs hw_7 hP hS => ?_)
    try dsimp only at hw_7
    subst hw_7
    refine lv_icmp_ge (tgt := 122) hx hb dX2_eveningOf_35 (by decide) (fun c_8 => ?_) (fun c_8 => ?_)
    · have c_8 := (nI_leI (a := n) (b := ii_6) (by omega) (by omega)).mp c_8
      refine lv_iload hx hb dX2_eveningOf_122 (lv_at hl 3 rfl) ?_
      refine lv_iload hx hb dX2_eveningOf_124 (lv_at hl 5 rfl) ?_
      refine lv_icmp_ge (tgt := 138) hx hb dX2_eveningOf_126 (by decide) (fun c_9 => ?_) (fun c_9 => ?_)
      · have c_9 := (nI_leI (a := (min rr tm)) (b := rn2_2) (by omega) (by omega)).mp c_9
        refine lv_iinc (v := (nI (rn2_2 + 1))) (lv' := [(6, .int (nI (rn2_2 + 1))), (9, .int (nI ii_6)), (8, .int ah_6), (7, .int (nI pa_6)), (5, .int co2_6), (4, .int (nI (min rr tm))), (0, .ref y0), (1, .ref h0), (2, .ref u0), (3, .ref c0)]) hx hb dX2_eveningOf_138 hl (k := 3) rfl (nI_add rn2_2 1) (by decide) rfl (fun ls hl => ?_)
        refine lv_goto (tgt := 13) hx hb dX2_eveningOf_141 (by decide) ?_
        exact ih_2 _ (rn2_2 + 1, co2_6, sd3_6) _ _ _ (by omega) ⟨rfl, ⟨by omega, hv_6.2.2.1, fun h => absurd h (by omega), fun _ => evx_e hv_6.2.2.2 (show ¬ ii_6 < n by omega) (show ¬ rn2_2 < (min rr tm) by omega) (by rw [show rn2_2 = (min rr tm) by omega])⟩, hP, hD, hS, (lv_sub hl [0, 4, 5, 6, 7, 8, 9] rfl)⟩
      · have c_9 : ¬ ((min rr tm) ≤ rn2_2) := fun h => c_9 ((nI_leI (a := (min rr tm)) (b := rn2_2) (by omega) (by omega)).mpr h)
        refine lv_iload hx hb dX2_eveningOf_129 (lv_at hl 4 rfl) ?_
        refine lv_aload_n hx hb dX2_eveningOf_131 rfl (lv_at hl 7 rfl) ?_
        refine ro_i (D := D) (va_runV (As := []) (rest := [.int co2_6]) ⟨hx, hb, hml, hown, hts⟩ ((y_roundDrive l D k st lo h0 h1 h2 h3 h4 n see tm g) H.size) (cwV 0 hts (gV tw_735 tw_525 tw_526 tw_81 tw_527) rfl rfl rfl (by decide +kernel) ⟨Nat.le_of_ble_eq_true rfl, Nat.le_of_ble_eq_true rfl⟩) (pV hS hAlo hlo hP hK (va_Dlo hD hAlo) hZ [1, 2] (by decide) rfl (ci := 5) (q := (RX5, TX5, 4)) (q0 := 0) rfl rfl) rfl rfl hl.1 rfl (lv_room (Nat.le_of_ble_eq_true rfl)) dX2_eveningOf_132 ⟨Nat.le_of_ble_eq_true rfl, Nat.le_of_ble_eq_true rfl⟩) hS hA hP (fun r_10 H locs hw_10 hP hS => ?_)
        try dsimp only at hw_10
        refine lv_iadd hx hb dX2_eveningOf_135 ?_
        refine lv_topi (fun x_11 ex_11 => ?_)
        refine lv_istore (lv' := [(5, .int x_11), (9, .int (nI ii_6)), (8, .int ah_6), (7, .int (nI pa_6)), (6, .int (nI rn2_2)), (4, .int (nI (min rr tm))), (0, .ref y0), (1, .ref h0), (2, .ref u0), (3, .ref c0)]) hx hb dX2_eveningOf_136 hl (by decide) rfl (fun ls hl => ?_)
        refine lv_iinc (v := (nI (rn2_2 + 1))) (lv' := [(6, .int (nI (rn2_2 + 1))), (5, .int x_11), (9, .int (nI ii_6)), (8, .int ah_6), (7, .int (nI pa_6)), (4, .int (nI (min rr tm))), (0, .ref y0), (1, .ref h0), (2, .ref u0), (3, .ref c0)]) hx hb dX2_eveningOf_138 hl (k := 4) rfl (nI_add rn2_2 1) (by decide) rfl (fun ls hl => ?_)
        refine lv_goto (tgt := 13) hx hb dX2_eveningOf_141 (by decide) ?_
        exact ih_2 _ (rn2_2 + 1, x_11, sd3_6) _ _ _ (by omega) ⟨rfl, ⟨by omega, hv_6.2.2.1, fun _ => evx_r hv_6.2.2.2 (show ¬ ii_6 < n by omega) (show rn2_2 < (min rr tm) by omega) (by rw [ex_11, hw_10]; exact congrArg (fun z => co2_6 + z) xRnd), fun h => absurd h (by omega)⟩, hP, hD, hS, (lv_sub hl [0, 1, 5, 6, 7, 8, 9] rfl)⟩
    · have c_8 : ¬ (n ≤ ii_6) := fun h => c_8 ((nI_leI (a := n) (b := ii_6) (by omega) (by omega)).mpr h)
      refine lv_aload_n hx hb dX2_eveningOf_38 rfl (lv_at hl 9 rfl) ?_
      refine rw_i (D := D) (wr := [(y0, .inr (2, (fX2 y1 y2 y3 wt wc))), (h0, .inr (5, (fX5 h1 h2 h3 h4))), (aI k h1 10 (vv n see tm g)), (aI k h2 24 ff), (aI k h3 24 fp), (aI k h4 4 fl), (u0, .inr (3, (fX3 u1 u2 rf (nI rc) (nI rr)))), (aI k u1 24 rs), (aI k u2 24 rb)]) (va_runV (As := []) (rest := []) ⟨hx, hb, hml, hown, hts⟩ ((y_draw l D k st lo c0 c1 c2 cc rz ro sd3_6 (by first | assumption | omega)) H.size) (cwV 0 hts (gV tw_932 tw_933 tw_934 tw_82 tw_935) rfl rfl rfl (by decide +kernel) ⟨Nat.le_of_ble_eq_true rfl, Nat.le_of_ble_eq_true rfl⟩) (pV hS hAlo hlo hP hK (va_Dlo hD hAlo) hZ [9] (by decide) rfl (ci := 4) (q := (RX4, TX4, 6)) (q0 := 0) rfl rfl) rfl rfl hl.1 rfl (lv_room (Nat.le_of_ble_eq_true rfl)) dX2_eveningOf_39 ⟨Nat.le_of_ble_eq_true rfl, Nat.le_of_ble_eq_true rfl⟩) hS hA hP hD [9] [0, 1, 2, 3, 4, 5, 6, 7, 8] rfl rfl (by decide +kernel) (by decide +kernel) (fun r_12 u H locs hw_12 hP hD hS => ?_)
      obtain ⟨sd__12, rfl⟩ : ∃ z, z = u := ⟨_, rfl⟩
      replace hP : va_P D classes [(y0, .inr (2, (fX2 y1 y2 y3 wt wc))), (h0, .inr (5, (fX5 h1 h2 h3 h4))), (aI k h1 10 (vv n see tm g)), (aI k h2 24 ff), (aI k h3 24 fp), (aI k h4 4 fl), (u0, .inr (3, (fX3 u1 u2 rf (nI rc) (nI rr)))), (aI k u1 24 rs), (aI k u2 24 rb), (c0, .inr (4, (fX4 c1 c2 (nI cc) (nI rz) ro (nI sd__12))))] H := hP
      replace hD : va_D A [(y0, .inr (2, (fX2 y1 y2 y3 wt wc))), (h0, .inr (5, (fX5 h1 h2 h3 h4))), (aI k h1 10 (vv n see tm g)), (aI k h2 24 ff), (aI k h3 24 fp), (aI k h4 4 fl), (u0, .inr (3, (fX3 u1 u2 rf (nI rc) (nI rr)))), (aI k u1 24 rs), (aI k u2 24 rb), (c0, .inr (4, (fX4 c1 c2 (nI cc) (nI rz) ro (nI sd__12))))] := hD
      try dsimp only at hw_12
      obtain ⟨hrv_13, hsv_13⟩ := hw_12
      have hsl_13 : sd__12 < 2147483648 := by rw [hsv_13]; exact drN_lt
      refine lv_aload_n hx hb dX2_eveningOf_42 rfl (lv_at hl 7 rfl) ?_
      refine lv_iload hx hb dX2_eveningOf_43 (lv_at hl 0 rfl) ?_
      refine lv_iload hx hb dX2_eveningOf_45 (lv_at hl 1 rfl) ?_
      refine ro_i (D := D) (va_runV (As := [.int (nI ii_6), .int ah_6]) (rest := [.int r_12]) ⟨hx, hb, hml, hown, hts⟩ ((y_chanceOf l D k st lo h0 h1 h2 h3 h4 n see tm g ff ii_6 ah_6 (by first | assumption | omega)) H.size) (cwV 2 hts (gV tw_733 tw_565 tw_566 tw_81 tw_567) rfl rfl rfl (by decide +kernel) ⟨Nat.le_of_ble_eq_true rfl, Nat.le_of_ble_eq_true rfl⟩) (pV hS hAlo hlo hP hK (va_Dlo hD hAlo) hZ [1, 2, 3] (by decide) rfl (ci := 5) (q := (RX5, TX5, 4)) (q0 := 0) rfl rfl) rfl rfl hl.1 rfl (lv_room (Nat.le_of_ble_eq_true rfl)) dX2_eveningOf_47 ⟨Nat.le_of_ble_eq_true rfl, Nat.le_of_ble_eq_true rfl⟩) hS hA hP (fun r_14 H locs hw_14 hP hS => ?_)
      try dsimp only at hw_14
      refine lv_icmp_ge (tgt := 57) hx hb dX2_eveningOf_50 (by decide) (fun c_15 => ?_) (fun c_15 => ?_)
      · have hdc_16 : ¬ nI (drN sd3_6 / 65536 % 100) < pChance (sdX n see tm g ff fp) ii_6 ah_6 := by rw [← hrv_13, ← xChance (see := see) (tm := tm) (fp := fp) (show ii_6 < n by omega) (okX hok9 (show ii_6 < n by omega)), ← hw_14]; exact Int32.not_lt.mpr c_15
        refine lv_iconst (v := 0) hx hb dX2_eveningOf_57 (by decide) ?_
        refine lv_istore (lv' := [(10, .int 0), (9, .int (nI ii_6)), (8, .int ah_6), (7, .int (nI pa_6)), (6, .int (nI rn2_2)), (5, .int co2_6), (4, .int (nI (min rr tm))), (0, .ref y0), (1, .ref h0), (2, .ref u0), (3, .ref c0)]) hx hb dX2_eveningOf_58 hl (by decide) rfl (fun ls hl => ?_)
        refine lv_iload hx hb dX2_eveningOf_60 (lv_at hl 0 rfl) ?_
        refine lv_if_eq (tgt := 88) hx hb dX2_eveningOf_62 (by decide) (fun _ => ?_) (fun h => absurd (by decide) h)
        refine lv_iload hx hb dX2_eveningOf_88 (lv_at hl 5 rfl) ?_
        refine lv_aload_n hx hb dX2_eveningOf_90 rfl (lv_at hl 8 rfl) ?_
        refine ro_i (D := D) (va_runV (As := []) (rest := [.int co2_6]) ⟨hx, hb, hml, hown, hts⟩ ((y_passing l D k st lo h0 h1 h2 h3 h4 n see tm g) H.size) (cwV 0 hts (gV tw_724 tw_573 tw_574 tw_81 tw_575) rfl rfl rfl (by decide +kernel) ⟨Nat.le_of_ble_eq_true rfl, Nat.le_of_ble_eq_true rfl⟩) (pV hS hAlo hlo hP hK (va_Dlo hD hAlo) hZ [1, 2] (by decide) rfl (ci := 5) (q := (RX5, TX5, 4)) (q0 := 0) rfl rfl) rfl rfl hl.1 rfl (lv_room (Nat.le_of_ble_eq_true rfl)) dX2_eveningOf_91 ⟨Nat.le_of_ble_eq_true rfl, Nat.le_of_ble_eq_true rfl⟩) hS hA hP (fun r_17 H locs hw_17 hP hS => ?_)
        try dsimp only at hw_17
        refine lv_iadd hx hb dX2_eveningOf_94 ?_
        refine lv_topi (fun x_18 ex_18 => ?_)
        refine lv_istore (lv' := [(5, .int x_18), (10, .int 0), (9, .int (nI ii_6)), (8, .int ah_6), (7, .int (nI pa_6)), (6, .int (nI rn2_2)), (4, .int (nI (min rr tm))), (0, .ref y0), (1, .ref h0), (2, .ref u0), (3, .ref c0)]) hx hb dX2_eveningOf_95 hl (by decide) rfl (fun ls hl => ?_)
        have hev_19 := evx_n hv_6.2.2.2 (show ii_6 < n by omega) hdc_16 (c2 := x_18) (by rw [ex_18, hw_17]; exact congrArg (fun z => co2_6 + z) xPass) hsv_13
        refine lv_iload hx hb dX2_eveningOf_97 (lv_at hl 4 rfl) ?_
        refine lv_iload hx hb dX2_eveningOf_99 (lv_at hl 1 rfl) ?_
        refine lv_if_eq (tgt := 108) hx hb dX2_eveningOf_101 (by decide) (fun _ => ?_) (fun h => absurd (by decide) h)
        refine lv_iconst (v := 0) hx hb dX2_eveningOf_108 (by decide) ?_
        refine lv_iadd hx hb dX2_eveningOf_109 ?_
        refine lv_ti (y := (nI (pa_6 + 0))) (nI_add pa_6 0) ?_
        refine lv_istore (lv' := [(7, .int (nI (pa_6 + 0))), (5, .int x_18), (10, .int 0), (9, .int (nI ii_6)), (8, .int ah_6), (6, .int (nI rn2_2)), (4, .int (nI (min rr tm))), (0, .ref y0), (1, .ref h0), (2, .ref u0), (3, .ref c0)]) hx hb dX2_eveningOf_110 hl (by decide) rfl (fun ls hl => ?_)
        refine lv_iload hx hb dX2_eveningOf_112 (lv_at hl 2 rfl) ?_
        refine lv_istore (lv' := [(8, .int 0), (7, .int (nI (pa_6 + 0))), (5, .int x_18), (10, .int 0), (9, .int (nI ii_6)), (6, .int (nI rn2_2)), (4, .int (nI (min rr tm))), (0, .ref y0), (1, .ref h0), (2, .ref u0), (3, .ref c0)]) hx hb dX2_eveningOf_114 hl (by decide) rfl (fun ls hl => ?_)
        refine lv_iinc (v := (nI (ii_6 + 1))) (lv' := [(9, .int (nI (ii_6 + 1))), (8, .int 0), (7, .int (nI (pa_6 + 0))), (5, .int x_18), (10, .int 0), (6, .int (nI rn2_2)), (4, .int (nI (min rr tm))), (0, .ref y0), (1, .ref h0), (2, .ref u0), (3, .ref c0)]) hx hb dX2_eveningOf_116 hl (k := 4) rfl (nI_add ii_6 1) (by decide) rfl (fun ls hl => ?_)
        refine lv_goto (tgt := 29) hx hb dX2_eveningOf_119 (by decide) ?_
        exact ih_6 _ (ii_6 + 1, x_18, pa_6 + 0, 0, sd__12) _ _ _ (by omega) ⟨rfl, ⟨by omega, by omega, hsl_13, hev_19⟩, hP, hD, hS, (lv_sub hl [0, 1, 2, 5, 3, 6, 7, 8, 9, 10] rfl)⟩
      · have hdc_20 : nI (drN sd3_6 / 65536 % 100) < pChance (sdX n see tm g ff fp) ii_6 ah_6 := by rw [← hrv_13, ← xChance (see := see) (tm := tm) (fp := fp) (show ii_6 < n by omega) (okX hok9 (show ii_6 < n by omega)), ← hw_14]; exact Int32.not_le.mp c_15
        refine lv_iconst (v := 1) hx hb dX2_eveningOf_53 (by decide) ?_
        refine lv_goto (tgt := 58) hx hb dX2_eveningOf_54 (by decide) ?_
        refine lv_istore (lv' := [(10, .int 1), (9, .int (nI ii_6)), (8, .int ah_6), (7, .int (nI pa_6)), (6, .int (nI rn2_2)), (5, .int co2_6), (4, .int (nI (min rr tm))), (0, .ref y0), (1, .ref h0), (2, .ref u0), (3, .ref c0)]) hx hb dX2_eveningOf_58 hl (by decide) rfl (fun ls hl => ?_)
        refine lv_iload hx hb dX2_eveningOf_60 (lv_at hl 0 rfl) ?_
        refine lv_if_eq (tgt := 88) hx hb dX2_eveningOf_62 (by decide) (fun h => absurd h (by decide)) (fun _ => ?_)
        refine lv_iload hx hb dX2_eveningOf_65 (lv_at hl 1 rfl) ?_
        refine lv_aload_n hx hb dX2_eveningOf_67 rfl (lv_at hl 9 rfl) ?_
        refine lv_iload hx hb dX2_eveningOf_68 (lv_at hl 3 rfl) ?_
        refine ro_i (D := D) (va_runV (As := [.int (nI pa_6)]) (rest := [.int (nI ii_6)]) ⟨hx, hb, hml, hown, hts⟩ ((y_barAfter l D k st lo u0 u1 u2 rf rc rr rs rb pa_6 (by first | assumption | omega)) H.size) (cwV 1 hts (gV tw_729 tw_730 tw_731 tw_86 tw_732) rfl rfl rfl (by decide +kernel) ⟨Nat.le_of_ble_eq_true rfl, Nat.le_of_ble_eq_true rfl⟩) (pV hS hAlo hlo hP hK (va_Dlo hD hAlo) hZ [6, 7, 8] (by decide) rfl (ci := 3) (q := (RX3, TX3, 5)) (q0 := 0) rfl rfl) rfl rfl hl.1 rfl (lv_room (Nat.le_of_ble_eq_true rfl)) dX2_eveningOf_70 ⟨Nat.le_of_ble_eq_true rfl, Nat.le_of_ble_eq_true rfl⟩) hS hA hP (fun r_21 H locs hw_21 hP hS => ?_)
        try dsimp only at hw_21
        refine lv_icmp_lt (tgt := 88) hx hb dX2_eveningOf_73 (by decide) (fun c_22 => ?_) (fun c_22 => ?_)
        · refine lv_iload hx hb dX2_eveningOf_88 (lv_at hl 5 rfl) ?_
          refine lv_aload_n hx hb dX2_eveningOf_90 rfl (lv_at hl 8 rfl) ?_
          refine ro_i (D := D) (va_runV (As := []) (rest := [.int co2_6]) ⟨hx, hb, hml, hown, hts⟩ ((y_passing l D k st lo h0 h1 h2 h3 h4 n see tm g) H.size) (cwV 0 hts (gV tw_724 tw_573 tw_574 tw_81 tw_575) rfl rfl rfl (by decide +kernel) ⟨Nat.le_of_ble_eq_true rfl, Nat.le_of_ble_eq_true rfl⟩) (pV hS hAlo hlo hP hK (va_Dlo hD hAlo) hZ [1, 2] (by decide) rfl (ci := 5) (q := (RX5, TX5, 4)) (q0 := 0) rfl rfl) rfl rfl hl.1 rfl (lv_room (Nat.le_of_ble_eq_true rfl)) dX2_eveningOf_91 ⟨Nat.le_of_ble_eq_true rfl, Nat.le_of_ble_eq_true rfl⟩) hS hA hP (fun r_23 H locs hw_23 hP hS => ?_)
          try dsimp only at hw_23
          refine lv_iadd hx hb dX2_eveningOf_94 ?_
          refine lv_topi (fun x_24 ex_24 => ?_)
          refine lv_istore (lv' := [(5, .int x_24), (10, .int 1), (9, .int (nI ii_6)), (8, .int ah_6), (7, .int (nI pa_6)), (6, .int (nI rn2_2)), (4, .int (nI (min rr tm))), (0, .ref y0), (1, .ref h0), (2, .ref u0), (3, .ref c0)]) hx hb dX2_eveningOf_95 hl (by decide) rfl (fun ls hl => ?_)
          have hev_25 := evx_p hv_6.2.2.2 (show ii_6 < n by omega) hdc_20 (show ¬ pBar (ruX rf rc rr rs rb) pa_6 ≤ nI ii_6 by rw [← hw_21]; exact Int32.not_le.mpr c_22) (c2 := x_24) (by rw [ex_24, hw_23]; exact congrArg (fun z => co2_6 + z) xPass) hsv_13
          refine lv_iload hx hb dX2_eveningOf_97 (lv_at hl 4 rfl) ?_
          refine lv_iload hx hb dX2_eveningOf_99 (lv_at hl 1 rfl) ?_
          refine lv_if_eq (tgt := 108) hx hb dX2_eveningOf_101 (by decide) (fun h => absurd h (by decide)) (fun _ => ?_)
          refine lv_iconst (v := 1) hx hb dX2_eveningOf_104 (by decide) ?_
          refine lv_goto (tgt := 109) hx hb dX2_eveningOf_105 (by decide) ?_
          refine lv_iadd hx hb dX2_eveningOf_109 ?_
          refine lv_ti (y := (nI (pa_6 + 1))) (nI_add pa_6 1) ?_
          refine lv_istore (lv' := [(7, .int (nI (pa_6 + 1))), (5, .int x_24), (10, .int 1), (9, .int (nI ii_6)), (8, .int ah_6), (6, .int (nI rn2_2)), (4, .int (nI (min rr tm))), (0, .ref y0), (1, .ref h0), (2, .ref u0), (3, .ref c0)]) hx hb dX2_eveningOf_110 hl (by decide) rfl (fun ls hl => ?_)
          refine lv_iload hx hb dX2_eveningOf_112 (lv_at hl 2 rfl) ?_
          refine lv_istore (lv' := [(8, .int 1), (7, .int (nI (pa_6 + 1))), (5, .int x_24), (10, .int 1), (9, .int (nI ii_6)), (6, .int (nI rn2_2)), (4, .int (nI (min rr tm))), (0, .ref y0), (1, .ref h0), (2, .ref u0), (3, .ref c0)]) hx hb dX2_eveningOf_114 hl (by decide) rfl (fun ls hl => ?_)
          refine lv_iinc (v := (nI (ii_6 + 1))) (lv' := [(9, .int (nI (ii_6 + 1))), (8, .int 1), (7, .int (nI (pa_6 + 1))), (5, .int x_24), (10, .int 1), (6, .int (nI rn2_2)), (4, .int (nI (min rr tm))), (0, .ref y0), (1, .ref h0), (2, .ref u0), (3, .ref c0)]) hx hb dX2_eveningOf_116 hl (k := 4) rfl (nI_add ii_6 1) (by decide) rfl (fun ls hl => ?_)
          refine lv_goto (tgt := 29) hx hb dX2_eveningOf_119 (by decide) ?_
          exact ih_6 _ (ii_6 + 1, x_24, pa_6 + 1, 1, sd__12) _ _ _ (by omega) ⟨rfl, ⟨by omega, by omega, hsl_13, hev_25⟩, hP, hD, hS, (lv_sub hl [0, 1, 2, 5, 3, 6, 7, 8, 9, 10] rfl)⟩
        · refine lv_iload hx hb dX2_eveningOf_76 (lv_at hl 5 rfl) ?_
          refine lv_aload_n hx hb dX2_eveningOf_78 rfl (lv_at hl 8 rfl) ?_
          refine lv_iload hx hb dX2_eveningOf_79 (lv_at hl 4 rfl) ?_
          refine lv_iload hx hb dX2_eveningOf_81 (lv_at hl 1 rfl) ?_
          refine ro_i (D := D) (va_runV (As := [.int (nI rn2_2), .int (nI ii_6)]) (rest := [.int co2_6]) ⟨hx, hb, hml, hown, hts⟩ ((y_takingOf l D k st lo h0 h1 h2 h3 h4 n see tm g fp fl rn2_2 ii_6 (by first | assumption | omega) (by first | assumption | omega)) H.size) (cwV 2 hts (gV tw_728 tw_557 tw_558 tw_81 tw_559) rfl rfl rfl (by decide +kernel) ⟨Nat.le_of_ble_eq_true rfl, Nat.le_of_ble_eq_true rfl⟩) (pV hS hAlo hlo hP hK (va_Dlo hD hAlo) hZ [1, 2, 4, 5] (by decide) rfl (ci := 5) (q := (RX5, TX5, 4)) (q0 := 0) rfl rfl) rfl rfl hl.1 rfl (lv_room (Nat.le_of_ble_eq_true rfl)) dX2_eveningOf_83 ⟨Nat.le_of_ble_eq_true rfl, Nat.le_of_ble_eq_true rfl⟩) hS hA hP (fun r_26 H locs hw_26 hP hS => ?_)
          try dsimp only at hw_26
          refine lv_iadd hx hb dX2_eveningOf_86 ?_
          refine lv_topi (fun x_27 ex_27 => ?_)
          have hP9 := hP.sub (ws' := [(y0, .inr (2, (fX2 y1 y2 y3 wt wc))), (h0, .inr (5, (fX5 h1 h2 h3 h4))), (aI k h1 10 (vv n see tm g)), (aI k h2 24 ff), (aI k h3 24 fp), (aI k h4 4 fl), (u0, .inr (3, (fX3 u1 u2 rf (nI rc) (nI rr)))), (aI k u1 24 rs), (aI k u2 24 rb), (c0, .inr (4, (fX4 c1 c2 (nI cc) (nI rz) ro (nI sd__12))))]) [0, 1, 2, 3, 4, 5, 6, 7, 8, 9] rfl
          have hD9 := hD.sub (ws' := [(y0, .inr (2, (fX2 y1 y2 y3 wt wc))), (h0, .inr (5, (fX5 h1 h2 h3 h4))), (aI k h1 10 (vv n see tm g)), (aI k h2 24 ff), (aI k h3 24 fp), (aI k h4 4 fl), (u0, .inr (3, (fX3 u1 u2 rf (nI rc) (nI rr)))), (aI k u1 24 rs), (aI k u2 24 rb), (c0, .inr (4, (fX4 c1 c2 (nI cc) (nI rz) ro (nI sd__12))))]) [0, 1, 2, 3, 4, 5, 6, 7, 8, 9] (by decide +kernel) rfl
          exact W.iret (v := x_27) hx hb hr (fun t ht hW => ⟨⟨x_27, sd__12, rfl, ⟨evx_t hv_6.2.2.2 (show ii_6 < n by omega) hdc_20 (show pBar (ruX rf rc rr rs rb) pa_6 ≤ nI ii_6 by rw [← hw_21]; exact Int32.not_lt.mp c_22) (by rw [ex_27, hw_26]; exact congrArg (fun z => co2_6 + z) (xTake (show ii_6 < n by omega) (hl9 rn2_2 (by omega)))) hsv_13, hsl_13⟩, by rw [ht]; exact hP9, hD9⟩, hS.F ht⟩) hS.2.2 dX2_eveningOf_87


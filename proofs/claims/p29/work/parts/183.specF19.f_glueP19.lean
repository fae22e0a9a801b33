theorem f_glueP19 : True := trivial
/-! whether the way is a bar -/
def isBa (n : Nat) (S : Nat → Nat) (T : Nat → Nat → Prop) (b : Nat) : Prop := ∀ i, i < n → ∀ g, g < S i → g % 2 = 1 → (T i g ↔ b ≤ i)
def baP (n : Nat) (S : Nat → Nat) (T : Nat → Nat → Prop) (x : Int32) : Prop := (∀ b, b ≤ n → isBa n S T b → x = nI b) ∧ ((∀ b, b ≤ n → ¬ isBa n S T b) → x = -1)
theorem baP_fun {n : Nat} {S : Nat → Nat} {T : Nat → Nat → Prop} {x y : Int32} (h : baP n S T x) (k : baP n S T y) : x = y := by
  rcases Classical.em (∃ b, b ≤ n ∧ isBa n S T b) with ⟨b, h1, h2⟩ | c
  · exact (h.1 b h1 h2).trans (k.1 b h1 h2).symm
  · exact (h.2 (fun b h1 h2 => c ⟨b, h1, h2⟩)).trans (k.2 (fun b h1 h2 => c ⟨b, h1, h2⟩)).symm
theorem isBa_u {n a b : Nat} {S : Nat → Nat} {T : Nat → Nat → Prop} (hS : ∀ i, i < n → 2 ≤ S i) (ha : a ≤ n) (hb : b ≤ n) (h : isBa n S T a) (k : isBa n S T b) : a = b := by
  rcases Nat.lt_trichotomy a b with c | c | c
  · have h1 := h a (by omega) 1 (by have := hS a (by omega); omega) rfl
    have k1 := k a (by omega) 1 (by have := hS a (by omega); omega) rfl
    exact absurd (k1.mp (h1.mpr (Nat.le_refl a))) (by omega)
  · exact c
  · have h1 := h b (by omega) 1 (by have := hS b (by omega); omega) rfl
    have k1 := k b (by omega) 1 (by have := hS b (by omega); omega) rfl
    exact absurd (h1.mp (k1.mpr (Nat.le_refl b))) (by omega)
theorem ba_yes {n b : Nat} {S : Nat → Nat} {T : Nat → Nat → Prop} (hS : ∀ i, i < n → 2 ≤ S i) (hb : b ≤ n) (h : isBa n S T b) : baP n S T (nI b) := ⟨fun a ha k => by rw [isBa_u hS ha hb k h], fun q => absurd h (q b hb)⟩
theorem ba_no {n : Nat} {S : Nat → Nat} {T : Nat → Nat → Prop} (h : ∀ b, b ≤ n → ¬ isBa n S T b) : baP n S T (-1) := ⟨fun b hb k => absurd k (h b hb), fun _ => rfl⟩
theorem bx_yes {n b : Nat} {S : Nat → Nat} {T : Nat → Nat → Prop} (h1 : ∀ i, b ≤ i → i < n → ∀ g, g < S i → g % 2 = 1 → T i g) (h2 : ∀ i, i < b → ∀ g, g < S i → g % 2 = 1 → ¬ T i g) : isBa n S T b := by
  intro i hi g hg ho
  rcases Nat.lt_or_ge i b with c | c
  · exact ⟨fun t => absurd t (h2 i c g hg ho), fun t => absurd t (by omega)⟩
  · exact ⟨fun _ => c, fun _ => h1 i c hi g hg ho⟩
theorem bx_no {n b i : Nat} {S : Nat → Nat} {T : Nat → Nat → Prop} (hb : b ≤ n) (hnb : b = 0 ∨ ∃ g, g < S (b - 1) ∧ g % 2 = 1 ∧ ¬ T (b - 1) g) (hi : i < b) (ha : ∃ g, g < S i ∧ g % 2 = 1 ∧ T i g) : ∀ a, a ≤ n → ¬ isBa n S T a := by
  intro a _ k
  rcases hnb with h | ⟨g, h1, h2, h3⟩
  · omega
  · obtain ⟨q, k1, k2, k3⟩ := ha
    have c1 := (k i (by omega) q k1 k2).mp k3
    have c2 : ¬ a ≤ b - 1 := fun z => h3 ((k (b - 1) (by omega) g h1 h2).mpr z)
    omega
theorem baP_congr {n : Nat} {S : Nat → Nat} {T T2 : Nat → Nat → Prop} {x : Int32} (h : ∀ i, i < n → ∀ g, g < S i → (T i g ↔ T2 i g)) (k : baP n S T x) : baP n S T2 x := by
  have e : ∀ b, isBa n S T2 b → isBa n S T b := fun b q i hi g hg ho => (h i hi g hg).trans (q i hi g hg ho)
  have e2 : ∀ b, isBa n S T b → isBa n S T2 b := fun b q i hi g hg ho => (h i hi g hg).symm.trans (q i hi g hg ho)
  exact ⟨fun b hb q => k.1 b hb (e b q), fun q => k.2 (fun b hb z => q b hb (e2 b z))⟩
theorem sq2 {see n i : Nat} (h : i < n) : 2 ≤ 2 ^ sqN see n i := by
  have h1 : 1 ≤ sqN see n i := by
    unfold sqN
    omega
  exact Nat.pow_le_pow_right (n := 2) (by omega) h1
def baA (p1 : Int32) (d : SDt) (r : Int32) : Prop := (¬ inB p1 0 (d.2.1 8) → r = -1002) ∧ ∀ k : Nat, k < 2 ^ 31 → p1 = nI k → inB p1 0 (d.2.1 8) → baP d.1 (fun i => 2 ^ sqN (seD d) d.1 i) (fun i g => pTake d k i ≤ wayO d k i g) r
theorem baA_fun {p1 : Int32} (d : SDt) (x y : Int32) (h : baA p1 d x) (g : baA p1 d y) : x = y := by
  rcases Classical.em (inB p1 0 (d.2.1 8)) with c | c
  · obtain ⟨k, h2, e⟩ := nI_of (Int32.not_lt.mpr c.1)
    exact baP_fun (h.2 k h2 e c) (g.2 k h2 e c)
  · exact (h.1 c).trans (g.1 c).symm
theorem bq_o {p1 : Int32} {d : SDt} (h : ¬ inB p1 0 (d.2.1 8)) : baA p1 d (-1002) := ⟨fun _ => rfl, fun _ _ _ c => absurd c h⟩
theorem bq_i {k : Nat} {d : SDt} {r : Int32} (hk : k ≤ 3) (hi : inB (nI k) 0 (d.2.1 8)) (h : baP d.1 (fun i => 2 ^ sqN (seD d) d.1 i) (fun i g => pTake d k i ≤ wayO d k i g) r) : baA (nI k) d r := by
  refine ⟨fun c => absurd hi c, fun q hq e _ => ?_⟩
  have := nI_inj (by omega) hq e
  subst this
  exact h


set_option maxHeartbeats 4000000 in
set_option maxRecDepth 100000 in
theorem y_isTakenByAll (l : Launch) (D : va_G) (k : Nat → ClassId) (st : Nat → Nat) (lo : Nat) (h0 : Nat) (h1 : Nat) (h2 : Nat) (h3 : Nat) (h4 : Nat) (n : Nat) (see : Nat) (tm : Nat) (g : Nat → Int32) (ff : Nat → Int32) (fp : Nat → Int32) (fl : Nat → Int32) (w0 : Nat) (w1 : Nat) (w2 : Nat) (w3 : Nat) (w4 : Nat) (on : Nat → Int32) (rn : Nat) (i : Nat) (hn : n ≤ 24) (hsee : see ≤ 2) (hrn : rn ≤ 3) (hi : i < n) : CRi l D k st lo yX0_isTakenByAll cX0_isTakenByAll 4 (some .boolean) ({ frames := 3, cells := 0, slots := 0, locals := 81 }) [.ref w0, .int (nI rn), .int (nI i)] [(h0, .inr (5, (fX5 h1 h2 h3 h4))), (aI k h1 10 (vv n see tm g)), (aI k h2 24 ff), (aI k h3 24 fp), (aI k h4 4 fl), (w0, .inr (0, (fX0 h0 w1 w2 w3 w4))), (aI k w1 768 on)] (fun r => (r = 1 ∧ ∀ gg, gg < 2 ^ sqN see n i → gg % 2 = 1 → fX_taking n g fp fl rn i ≤ on (slN rn i gg)) ∨ (r = 0 ∧ ∃ gg, gg < 2 ^ sqN see n i ∧ gg % 2 = 1 ∧ ¬ (fX_taking n g fp fl rn i ≤ on (slN rn i gg)))) := by
  intro sz
  refine Met.ofW (cc := cX0_isTakenByAll) (maxL := 4) (ret := (some .boolean)) (by decide) rfl ?_
  intro p e s m args below meth c s₁ B hml hv
  obtain ⟨rfl, hsz, hlo, hP, hK, hDL, hZ⟩ := hv
  have hx := B.exec
  have hb := B.bytes
  have hr := B.returns
  have hts := WS_ts B.pre
  have hown : s.vm.findClass RX0 = some m.cls := findClass_of_methodNamed B.named
  have hlocks := B.notSynchronized
  subst hsz
  have hA : ∀ q : Nat, s.heap.size ≤ q → (fun q : Nat => s.heap.size ≤ q) q := fun _ h => h
  have hAlo : ∀ q : Nat, (fun q : Nat => s.heap.size ≤ q) q → lo ≤ q := fun q h => Nat.le_trans hlo h
  have hS : va_S (fun q : Nat => s.heap.size ≤ q) s.heap s.heap [] := va_S.rf
  have hl := lv_entry ([.ref w0, .int (nI rn), .int (nI i)]) (n := 4) (Nat.le_of_ble_eq_true rfl)
  rw [lg_entry_eq]
  generalize (lg_sl ([.ref w0, .int (nI rn), .int (nI i)]) ++ List.replicate (4 - (lg_sl ([.ref w0, .int (nI rn), .int (nI i)])).length) Slot.unset).toArray = ls at hl ⊢
  have hl : lv_has ls 4 [(0, .ref w0), (1, .int (nI rn)), (2, .int (nI i))] := hl
  refine lv_iconst (v := 1) hx hb dX0_isTakenByAll_0 (by decide) ?_
  refine lv_istore_n (lv' := [(3, .int 1), (0, .ref w0), (1, .int (nI rn)), (2, .int (nI i))]) hx hb dX0_isTakenByAll_1 rfl hl (by decide) rfl (fun ls hl => ?_)
  refine W_loop (σ := Nat) (fun (n_ : Nat) (g2_1 : Nat) (H : Heap) (locs : List Loc) (ls : Array Slot) => n_ = 10 - g2_1 ∧ (g2_1 ≤ 9 ∧ g2_1 % 2 = 1 ∧ ∀ q, q < g2_1 → q % 2 = 1 → (fX_taking n g fp fl rn i ≤ on (slN rn i q))) ∧ va_P D classes [(h0, .inr (5, (fX5 h1 h2 h3 h4))), (aI k h1 10 (vv n see tm g)), (aI k h2 24 ff), (aI k h3 24 fp), (aI k h4 4 fl), (w0, .inr (0, (fX0 h0 w1 w2 w3 w4))), (aI k w1 768 on)] H ∧ va_S (fun q : Nat => s.heap.size ≤ q) s.heap H locs ∧ lv_has ls 4 [(3, .int (nI g2_1)), (0, .ref w0), (1, .int (nI rn)), (2, .int (nI i))]) (fun n_1 x_1 H locs ls hI ih_1 => ?_) _ 1 ⟨rfl, ⟨by omega, by omega, fun q hq ho => absurd hq (by omega)⟩, hP, hS, (lv_sub hl [0, 1, 2, 3] rfl)⟩
  obtain ⟨g2_1, rfl⟩ : ∃ z, z = x_1 := ⟨_, rfl⟩
  obtain ⟨hm_1, hv_1, hP, hS, hl⟩ := hI
  subst hm_1
  refine lv_iload_n hx hb dX0_isTakenByAll_2 rfl (lv_at hl 0 rfl) ?_
  refine lv_aload_n hx hb dX0_isTakenByAll_3 rfl (lv_at hl 1 rfl) ?_
  refine va_get (D := D) (ci := 0) (v := .ref h0) (C := RX0) (T := TX0) (N := 5) hx hb hts inX0 hown hK hP 5 rfl rfl 0 (by decide) (hts _ tw_266) (fun _ h9 => h9) rfl dX0_isTakenByAll_4 ?_
  refine lv_iload_n hx hb dX0_isTakenByAll_7 rfl (lv_at hl 3 rfl) ?_
  refine ro_i (D := D) (va_runV (As := [.int (nI i)]) (rest := [.int (nI g2_1)]) ⟨hx, hb, hml, hown, hts⟩ ((y_sightsAt l D k st lo h0 h1 h2 h3 h4 n see tm g i (by first | assumption | omega) (by first | assumption | omega) (by first | assumption | omega)) H.size) (cwV 1 hts (gV tw_536 tw_537 tw_538 tw_81 tw_539) rfl rfl rfl (by decide +kernel) ⟨Nat.le_of_ble_eq_true rfl, Nat.le_of_ble_eq_true rfl⟩) (pV hS hAlo hlo hP hK hDL hZ [0, 1] (by decide) rfl (ci := 5) (q := (RX5, TX5, 4)) (q0 := 0) rfl rfl) rfl rfl hl.1 rfl (lv_room (Nat.le_of_ble_eq_true rfl)) dX0_isTakenByAll_8 ⟨Nat.le_of_ble_eq_true rfl, Nat.le_of_ble_eq_true rfl⟩) hS hA hP (fun r_2 H locs hw_2 hP hS => ?_)
  try dsimp only at hw_2
  obtain ⟨zs_3, ezs_3⟩ : ∃ z : Nat, z = 2 ^ sqN see n i := ⟨_, rfl⟩
  rw [← ezs_3] at hw_2
  subst hw_2
  have hzs_3 : 1 ≤ zs_3 ∧ zs_3 ≤ 8 := by rw [ezs_3]; exact p8 (sq_le (by omega))
  refine lv_icmp_ge (tgt := 32) hx hb dX0_isTakenByAll_11 (by decide) (fun c_4 => ?_) (fun c_4 => ?_)
  · have c_4 := (nI_leI (a := zs_3) (b := g2_1) (by omega) (by omega)).mp c_4
    refine lv_iconst (v := 1) hx hb dX0_isTakenByAll_32 (by decide) ?_
    exact W.zret (v := 1) (ty := .boolean) hx hb hr rfl (fun t ht hW => ⟨⟨1, (), rfl, .inl ⟨rfl, fun gg h1 h2 => hv_1.2.2 gg (by rw [← ezs_3] at h1; omega) h2⟩, trivial⟩, hS.F ht⟩) hS.2.2 dX0_isTakenByAll_33
  · have c_4 : ¬ (zs_3 ≤ g2_1) := fun h => c_4 ((nI_leI (a := zs_3) (b := g2_1) (by omega) (by omega)).mpr h)
    refine lv_aload_n hx hb dX0_isTakenByAll_14 rfl (lv_at hl 1 rfl) ?_
    refine lv_iload_n hx hb dX0_isTakenByAll_15 rfl (lv_at hl 2 rfl) ?_
    refine lv_iload_n hx hb dX0_isTakenByAll_16 rfl (lv_at hl 3 rfl) ?_
    refine lv_iload_n hx hb dX0_isTakenByAll_17 rfl (lv_at hl 0 rfl) ?_
    refine ro_i (D := D) (va_runV (As := [.int (nI rn), .int (nI i), .int (nI g2_1)]) (rest := []) ⟨hx, hb, hml, hown, hts⟩ ((y_isTaken l D k st lo h0 h1 h2 h3 h4 n see tm g ff fp fl w0 w1 w2 w3 w4 on rn i g2_1 (by first | assumption | omega) (by first | assumption | omega) (by first | assumption | omega) (by first | assumption | omega)) H.size) (cwV 3 hts (gV tw_662 tw_638 tw_639 tw_85 tw_640) rfl rfl rfl (by decide +kernel) ⟨Nat.le_of_ble_eq_true rfl, Nat.le_of_ble_eq_true rfl⟩) (pV hS hAlo hlo hP hK hDL hZ [0, 1, 2, 3, 4, 5, 6] (by decide) rfl (ci := 0) (q := (RX0, TX0, 5)) (q0 := 5) rfl rfl) rfl rfl hl.1 rfl (lv_room (Nat.le_of_ble_eq_true rfl)) dX0_isTakenByAll_18 ⟨Nat.le_of_ble_eq_true rfl, Nat.le_of_ble_eq_true rfl⟩) hS hA hP (fun r_5 H locs hw_5 hP hS => ?_)
    try dsimp only at hw_5
    rcases hw_5 with ⟨rfl, hw_5⟩ | ⟨rfl, hw_5⟩
    · refine lv_if_ne (tgt := 26) hx hb dX0_isTakenByAll_21 (by decide) (fun _ => ?_) (fun h => absurd h (by decide))
      refine lv_iinc (v := (nI (g2_1 + 2))) (lv' := [(3, .int (nI (g2_1 + 2))), (0, .ref w0), (1, .int (nI rn)), (2, .int (nI i))]) hx hb dX0_isTakenByAll_26 hl (k := 0) rfl (nI_add g2_1 2) (by decide) rfl (fun ls hl => ?_)
      refine lv_goto (tgt := 2) hx hb dX0_isTakenByAll_29 (by decide) ?_
      exact ih_1 _ (g2_1 + 2) _ _ _ (by omega) ⟨rfl, ⟨by omega, by omega, fun q hq ho => by rcases Nat.lt_or_ge q g2_1 with h | h; exact hv_1.2.2 q h ho; rw [show q = g2_1 by omega]; exact hw_5.2⟩, hP, hS, (lv_sub hl [0, 1, 2, 3] rfl)⟩
    · refine lv_if_ne (tgt := 26) hx hb dX0_isTakenByAll_21 (by decide) (fun h => absurd (by decide) h) (fun _ => ?_)
      refine lv_iconst (v := 0) hx hb dX0_isTakenByAll_24 (by decide) ?_
      exact W.zret (v := 0) (ty := .boolean) hx hb hr rfl (fun t ht hW => ⟨⟨0, (), rfl, .inr ⟨rfl, g2_1, by rw [← ezs_3]; omega, hv_1.2.1, fun z => hw_5 ⟨hv_1.2.1, z⟩⟩, trivial⟩, hS.F ht⟩) hS.2.2 dX0_isTakenByAll_25


set_option maxHeartbeats 4000000 in
set_option maxRecDepth 100000 in
theorem y_isTakenByAny (l : Launch) (D : va_G) (k : Nat → ClassId) (st : Nat → Nat) (lo : Nat) (h0 : Nat) (h1 : Nat) (h2 : Nat) (h3 : Nat) (h4 : Nat) (n : Nat) (see : Nat) (tm : Nat) (g : Nat → Int32) (ff : Nat → Int32) (fp : Nat → Int32) (fl : Nat → Int32) (w0 : Nat) (w1 : Nat) (w2 : Nat) (w3 : Nat) (w4 : Nat) (on : Nat → Int32) (rn : Nat) (i : Nat) (hn : n ≤ 24) (hsee : see ≤ 2) (hrn : rn ≤ 3) (hi : i < n) : CRi l D k st lo yX0_isTakenByAny cX0_isTakenByAny 4 (some .boolean) ({ frames := 3, cells := 0, slots := 0, locals := 81 }) [.ref w0, .int (nI rn), .int (nI i)] [(h0, .inr (5, (fX5 h1 h2 h3 h4))), (aI k h1 10 (vv n see tm g)), (aI k h2 24 ff), (aI k h3 24 fp), (aI k h4 4 fl), (w0, .inr (0, (fX0 h0 w1 w2 w3 w4))), (aI k w1 768 on)] (fun r => (r = 1 ∧ ∃ gg, gg < 2 ^ sqN see n i ∧ gg % 2 = 1 ∧ fX_taking n g fp fl rn i ≤ on (slN rn i gg)) ∨ (r = 0 ∧ ∀ gg, gg < 2 ^ sqN see n i → gg % 2 = 1 → ¬ (fX_taking n g fp fl rn i ≤ on (slN rn i gg)))) := by
  intro sz
  refine Met.ofW (cc := cX0_isTakenByAny) (maxL := 4) (ret := (some .boolean)) (by decide) rfl ?_
  intro p e s m args below meth c s₁ B hml hv
  obtain ⟨rfl, hsz, hlo, hP, hK, hDL, hZ⟩ := hv
  have hx := B.exec
  have hb := B.bytes
  have hr := B.returns
  have hts := WS_ts B.pre
  have hown : s.vm.findClass RX0 = some m.cls := findClass_of_methodNamed B.named
  have hlocks := B.notSynchronized
  subst hsz
  have hA : ∀ q : Nat, s.heap.size ≤ q → (fun q : Nat => s.heap.size ≤ q) q := fun _ h => h
  have hAlo : ∀ q : Nat, (fun q : Nat => s.heap.size ≤ q) q → lo ≤ q := fun q h => Nat.le_trans hlo h
  have hS : va_S (fun q : Nat => s.heap.size ≤ q) s.heap s.heap [] := va_S.rf
  have hl := lv_entry ([.ref w0, .int (nI rn), .int (nI i)]) (n := 4) (Nat.le_of_ble_eq_true rfl)
  rw [lg_entry_eq]
  generalize (lg_sl ([.ref w0, .int (nI rn), .int (nI i)]) ++ List.replicate (4 - (lg_sl ([.ref w0, .int (nI rn), .int (nI i)])).length) Slot.unset).toArray = ls at hl ⊢
  have hl : lv_has ls 4 [(0, .ref w0), (1, .int (nI rn)), (2, .int (nI i))] := hl
  refine lv_iconst (v := 1) hx hb dX0_isTakenByAny_0 (by decide) ?_
  refine lv_istore_n (lv' := [(3, .int 1), (0, .ref w0), (1, .int (nI rn)), (2, .int (nI i))]) hx hb dX0_isTakenByAny_1 rfl hl (by decide) rfl (fun ls hl => ?_)
  refine W_loop (σ := Nat) (fun (n_ : Nat) (g2_1 : Nat) (H : Heap) (locs : List Loc) (ls : Array Slot) => n_ = 10 - g2_1 ∧ (g2_1 ≤ 9 ∧ g2_1 % 2 = 1 ∧ ∀ q, q < g2_1 → q % 2 = 1 → ¬ (fX_taking n g fp fl rn i ≤ on (slN rn i q))) ∧ va_P D classes [(h0, .inr (5, (fX5 h1 h2 h3 h4))), (aI k h1 10 (vv n see tm g)), (aI k h2 24 ff), (aI k h3 24 fp), (aI k h4 4 fl), (w0, .inr (0, (fX0 h0 w1 w2 w3 w4))), (aI k w1 768 on)] H ∧ va_S (fun q : Nat => s.heap.size ≤ q) s.heap H locs ∧ lv_has ls 4 [(3, .int (nI g2_1)), (0, .ref w0), (1, .int (nI rn)), (2, .int (nI i))]) (fun n_1 x_1 H locs ls hI ih_1 => ?_) _ 1 ⟨rfl, ⟨by omega, by omega, fun q hq ho => absurd hq (by omega)⟩, hP, hS, (lv_sub hl [0, 1, 2, 3] rfl)⟩
  obtain ⟨g2_1, rfl⟩ : ∃ z, z = x_1 := ⟨_, rfl⟩
  obtain ⟨hm_1, hv_1, hP, hS, hl⟩ := hI
  subst hm_1
  refine lv_iload_n hx hb dX0_isTakenByAny_2 rfl (lv_at hl 0 rfl) ?_
  refine lv_aload_n hx hb dX0_isTakenByAny_3 rfl (lv_at hl 1 rfl) ?_
  refine va_get (D := D) (ci := 0) (v := .ref h0) (C := RX0) (T := TX0) (N := 5) hx hb hts inX0 hown hK hP 5 rfl rfl 0 (by decide) (hts _ tw_266) (fun _ h9 => h9) rfl dX0_isTakenByAny_4 ?_
  refine lv_iload_n hx hb dX0_isTakenByAny_7 rfl (lv_at hl 3 rfl) ?_
  refine ro_i (D := D) (va_runV (As := [.int (nI i)]) (rest := [.int (nI g2_1)]) ⟨hx, hb, hml, hown, hts⟩ ((y_sightsAt l D k st lo h0 h1 h2 h3 h4 n see tm g i (by first | assumption | omega) (by first | assumption | omega) (by first | assumption | omega)) H.size) (cwV 1 hts (gV tw_536 tw_537 tw_538 tw_81 tw_539) rfl rfl rfl (by decide +kernel) ⟨Nat.le_of_ble_eq_true rfl, Nat.le_of_ble_eq_true rfl⟩) (pV hS hAlo hlo hP hK hDL hZ [0, 1] (by decide) rfl (ci := 5) (q := (RX5, TX5, 4)) (q0 := 0) rfl rfl) rfl rfl hl.1 rfl (lv_room (Nat.le_of_ble_eq_true rfl)) dX0_isTakenByAny_8 ⟨Nat.le_of_ble_eq_true rfl, Nat.le_of_ble_eq_true rfl⟩) hS hA hP (fun r_2 H locs hw_2 hP hS => ?_)
  try dsimp only at hw_2
  obtain ⟨zs_3, ezs_3⟩ : ∃ z : Nat, z = 2 ^ sqN see n i := ⟨_, rfl⟩
  rw [← ezs_3] at hw_2
  subst hw_2
  have hzs_3 : 1 ≤ zs_3 ∧ zs_3 ≤ 8 := by rw [ezs_3]; exact p8 (sq_le (by omega))
  refine lv_icmp_ge (tgt := 32) hx hb dX0_isTakenByAny_11 (by decide) (fun c_4 => ?_) (fun c_4 => ?_)
  · have c_4 := (nI_leI (a := zs_3) (b := g2_1) (by omega) (by omega)).mp c_4
    refine lv_iconst (v := 0) hx hb dX0_isTakenByAny_32 (by decide) ?_
    exact W.zret (v := 0) (ty := .boolean) hx hb hr rfl (fun t ht hW => ⟨⟨0, (), rfl, .inr ⟨rfl, fun gg h1 h2 => hv_1.2.2 gg (by rw [← ezs_3] at h1; omega) h2⟩, trivial⟩, hS.F ht⟩) hS.2.2 dX0_isTakenByAny_33
  · have c_4 : ¬ (zs_3 ≤ g2_1) := fun h => c_4 ((nI_leI (a := zs_3) (b := g2_1) (by omega) (by omega)).mpr h)
    refine lv_aload_n hx hb dX0_isTakenByAny_14 rfl (lv_at hl 1 rfl) ?_
    refine lv_iload_n hx hb dX0_isTakenByAny_15 rfl (lv_at hl 2 rfl) ?_
    refine lv_iload_n hx hb dX0_isTakenByAny_16 rfl (lv_at hl 3 rfl) ?_
    refine lv_iload_n hx hb dX0_isTakenByAny_17 rfl (lv_at hl 0 rfl) ?_
    refine ro_i (D := D) (va_runV (As := [.int (nI rn), .int (nI i), .int (nI g2_1)]) (rest := []) ⟨hx, hb, hml, hown, hts⟩ ((y_isTaken l D k st lo h0 h1 h2 h3 h4 n see tm g ff fp fl w0 w1 w2 w3 w4 on rn i g2_1 (by first | assumption | omega) (by first | assumption | omega) (by first | assumption | omega) (by first | assumption | omega)) H.size) (cwV 3 hts (gV tw_662 tw_638 tw_639 tw_85 tw_640) rfl rfl rfl (by decide +kernel) ⟨Nat.le_of_ble_eq_true rfl, Nat.le_of_ble_eq_true rfl⟩) (pV hS hAlo hlo hP hK hDL hZ [0, 1, 2, 3, 4, 5, 6] (by decide) rfl (ci := 0) (q := (RX0, TX0, 5)) (q0 := 5) rfl rfl) rfl rfl hl.1 rfl (lv_room (Nat.le_of_ble_eq_true rfl)) dX0_isTakenByAny_18 ⟨Nat.le_of_ble_eq_true rfl, Nat.le_of_ble_eq_true rfl⟩) hS hA hP (fun r_5 H locs hw_5 hP hS => ?_)
    try dsimp only at hw_5
    rcases hw_5 with ⟨rfl, hw_5⟩ | ⟨rfl, hw_5⟩
    · refine lv_if_eq (tgt := 26) hx hb dX0_isTakenByAny_21 (by decide) (fun h => absurd h (by decide)) (fun _ => ?_)
      refine lv_iconst (v := 1) hx hb dX0_isTakenByAny_24 (by decide) ?_
      exact W.zret (v := 1) (ty := .boolean) hx hb hr rfl (fun t ht hW => ⟨⟨1, (), rfl, .inl ⟨rfl, g2_1, by rw [← ezs_3]; omega, hv_1.2.1, hw_5.2⟩, trivial⟩, hS.F ht⟩) hS.2.2 dX0_isTakenByAny_25
    · refine lv_if_eq (tgt := 26) hx hb dX0_isTakenByAny_21 (by decide) (fun _ => ?_) (fun h => absurd (by decide) h)
      refine lv_iinc (v := (nI (g2_1 + 2))) (lv' := [(3, .int (nI (g2_1 + 2))), (0, .ref w0), (1, .int (nI rn)), (2, .int (nI i))]) hx hb dX0_isTakenByAny_26 hl (k := 0) rfl (nI_add g2_1 2) (by decide) rfl (fun ls hl => ?_)
      refine lv_goto (tgt := 2) hx hb dX0_isTakenByAny_29 (by decide) ?_
      exact ih_1 _ (g2_1 + 2) _ _ _ (by omega) ⟨rfl, ⟨by omega, by omega, fun q hq ho => by rcases Nat.lt_or_ge q g2_1 with h | h; exact hv_1.2.2 q h ho; rw [show q = g2_1 by omega]; exact fun z => hw_5 ⟨hv_1.2.1, z⟩⟩, hP, hS, (lv_sub hl [0, 1, 2, 3] rfl)⟩


set_option maxHeartbeats 4000000 in
set_option maxRecDepth 100000 in
theorem y_barOf (l : Launch) (D : va_G) (k : Nat → ClassId) (st : Nat → Nat) (lo : Nat) (h0 : Nat) (h1 : Nat) (h2 : Nat) (h3 : Nat) (h4 : Nat) (n : Nat) (see : Nat) (tm : Nat) (g : Nat → Int32) (ff : Nat → Int32) (fp : Nat → Int32) (fl : Nat → Int32) (w0 : Nat) (w1 : Nat) (w2 : Nat) (w3 : Nat) (w4 : Nat) (on : Nat → Int32) (rn : Nat) (hn : n ≤ 24) (hsee : see ≤ 2) (hrn : rn ≤ 3) : CRi l D k st lo yX0_barOf cX0_barOf 4 (some .int) ({ frames := 4, cells := 0, slots := 0, locals := 104 }) [.ref w0, .int (nI rn)] [(h0, .inr (5, (fX5 h1 h2 h3 h4))), (aI k h1 10 (vv n see tm g)), (aI k h2 24 ff), (aI k h3 24 fp), (aI k h4 4 fl), (w0, .inr (0, (fX0 h0 w1 w2 w3 w4))), (aI k w1 768 on)] (fun r => baP n (fun i => 2 ^ sqN see n i) (fun i gg => fX_taking n g fp fl rn i ≤ on (slN rn i gg)) r) := by
  intro sz
  refine Met.ofW (cc := cX0_barOf) (maxL := 4) (ret := (some .int)) (by decide) rfl ?_
  intro p e s m args below meth c s₁ B hml hv
  obtain ⟨rfl, hsz, hlo, hP, hK, hDL, hZ⟩ := hv
  have hx := B.exec
  have hb := B.bytes
  have hr := B.returns
  have hts := WS_ts B.pre
  have hown : s.vm.findClass RX0 = some m.cls := findClass_of_methodNamed B.named
  have hlocks := B.notSynchronized
  subst hsz
  have hA : ∀ q : Nat, s.heap.size ≤ q → (fun q : Nat => s.heap.size ≤ q) q := fun _ h => h
  have hAlo : ∀ q : Nat, (fun q : Nat => s.heap.size ≤ q) q → lo ≤ q := fun q h => Nat.le_trans hlo h
  have hS : va_S (fun q : Nat => s.heap.size ≤ q) s.heap s.heap [] := va_S.rf
  have hl := lv_entry ([.ref w0, .int (nI rn)]) (n := 4) (Nat.le_of_ble_eq_true rfl)
  rw [lg_entry_eq]
  generalize (lg_sl ([.ref w0, .int (nI rn)]) ++ List.replicate (4 - (lg_sl ([.ref w0, .int (nI rn)])).length) Slot.unset).toArray = ls at hl ⊢
  have hl : lv_has ls 4 [(0, .ref w0), (1, .int (nI rn))] := hl
  refine lv_aload_n hx hb dX0_barOf_0 rfl (lv_at hl 0 rfl) ?_
  refine va_get (D := D) (ci := 0) (v := .ref h0) (C := RX0) (T := TX0) (N := 5) hx hb hts inX0 hown hK hP 5 rfl rfl 0 (by decide) (hts _ tw_266) (fun _ h9 => h9) rfl dX0_barOf_1 ?_
  refine ro_i (D := D) (va_runV (As := []) (rest := []) ⟨hx, hb, hml, hown, hts⟩ ((x_doors l D k st lo h0 h1 h2 h3 h4 n see tm g) s.heap.size) (cwV 0 hts (gV tw_531 tw_478 tw_479 tw_81 tw_480) rfl rfl rfl (by decide +kernel) ⟨Nat.le_of_ble_eq_true rfl, Nat.le_of_ble_eq_true rfl⟩) (pV hS hAlo hlo hP hK hDL hZ [0, 1] (by decide) rfl (ci := 5) (q := (RX5, TX5, 4)) (q0 := 0) rfl rfl) rfl rfl hl.1 rfl (lv_room (Nat.le_of_ble_eq_true rfl)) dX0_barOf_4 ⟨Nat.le_of_ble_eq_true rfl, Nat.le_of_ble_eq_true rfl⟩) hS hA hP (fun r_1 H locs hw_1 hP hS => ?_)
  try dsimp only at hw_1
  subst hw_1
  refine lv_istore_n (lv' := [(2, .int (nI n)), (0, .ref w0), (1, .int (nI rn))]) hx hb dX0_barOf_7 rfl hl (by decide) rfl (fun ls hl => ?_)
  refine W_loop (σ := Nat) (fun (n_ : Nat) (bb_2 : Nat) (H : Heap) (locs : List Loc) (ls : Array Slot) => n_ = 2 * bb_2 ∧ (bb_2 ≤ n ∧ ∀ i, bb_2 ≤ i → i < n → ∀ gg, gg < 2 ^ sqN see n i → gg % 2 = 1 → fX_taking n g fp fl rn i ≤ on (slN rn i gg)) ∧ va_P D classes [(h0, .inr (5, (fX5 h1 h2 h3 h4))), (aI k h1 10 (vv n see tm g)), (aI k h2 24 ff), (aI k h3 24 fp), (aI k h4 4 fl), (w0, .inr (0, (fX0 h0 w1 w2 w3 w4))), (aI k w1 768 on)] H ∧ va_S (fun q : Nat => s.heap.size ≤ q) s.heap H locs ∧ lv_has ls 4 [(2, .int (nI bb_2)), (0, .ref w0), (1, .int (nI rn))]) (fun n_2 x_2 H locs ls hI ih_2 => ?_) _ n ⟨rfl, ⟨by omega, fun i h1 h2 => absurd h2 (by omega)⟩, hP, hS, (lv_sub hl [0, 1, 2] rfl)⟩
  obtain ⟨bb_2, rfl⟩ : ∃ z, z = x_2 := ⟨_, rfl⟩
  obtain ⟨hm_2, hv_2, hP, hS, hl⟩ := hI
  subst hm_2
  refine lv_iload_n hx hb dX0_barOf_8 rfl (lv_at hl 0 rfl) ?_
  refine lv_if_le (tgt := 29) hx hb dX0_barOf_9 (by decide) (fun c_3 => ?_) (fun c_3 => ?_)
  · have c_3 := (nI_leI (a := bb_2) (b := 0) (by omega) (by omega)).mp c_3
    refine lv_iconst (v := 0) hx hb dX0_barOf_29 (by decide) ?_
    refine lv_istore_n (lv' := [(3, .int 0), (2, .int (nI bb_2)), (0, .ref w0), (1, .int (nI rn))]) hx hb dX0_barOf_30 rfl hl (by decide) rfl (fun ls hl => ?_)
    refine W_loop (σ := Nat) (fun (n_ : Nat) (ii_4 : Nat) (H : Heap) (locs : List Loc) (ls : Array Slot) => n_ = 25 - ii_4 ∧ (ii_4 ≤ bb_2 ∧ ∀ i, i < ii_4 → ∀ gg, gg < 2 ^ sqN see n i → gg % 2 = 1 → ¬ (fX_taking n g fp fl rn i ≤ on (slN rn i gg))) ∧ va_P D classes [(h0, .inr (5, (fX5 h1 h2 h3 h4))), (aI k h1 10 (vv n see tm g)), (aI k h2 24 ff), (aI k h3 24 fp), (aI k h4 4 fl), (w0, .inr (0, (fX0 h0 w1 w2 w3 w4))), (aI k w1 768 on)] H ∧ va_S (fun q : Nat => s.heap.size ≤ q) s.heap H locs ∧ lv_has ls 4 [(3, .int (nI ii_4)), (2, .int (nI bb_2)), (0, .ref w0), (1, .int (nI rn))]) (fun n_4 x_4 H locs ls hI ih_4 => ?_) _ 0 ⟨rfl, ⟨by omega, fun i h => absurd h (Nat.not_lt_zero i)⟩, hP, hS, (lv_sub hl [0, 1, 2, 3] rfl)⟩
    obtain ⟨ii_4, rfl⟩ : ∃ z, z = x_4 := ⟨_, rfl⟩
    obtain ⟨hm_4, hv_4, hP, hS, hl⟩ := hI
    subst hm_4
    refine lv_iload_n hx hb dX0_barOf_31 rfl (lv_at hl 0 rfl) ?_
    refine lv_iload_n hx hb dX0_barOf_32 rfl (lv_at hl 1 rfl) ?_
    refine lv_icmp_ge (tgt := 53) hx hb dX0_barOf_33 (by decide) (fun c_5 => ?_) (fun c_5 => ?_)
    · have c_5 := (nI_leI (a := bb_2) (b := ii_4) (by omega) (by omega)).mp c_5
      refine lv_iload_n hx hb dX0_barOf_53 rfl (lv_at hl 1 rfl) ?_
      exact W.iret (v := (nI bb_2)) hx hb hr (fun t ht hW => ⟨⟨(nI bb_2), (), rfl, ba_yes (S := (fun i => 2 ^ sqN see n i)) (T := (fun i gg => fX_taking n g fp fl rn i ≤ on (slN rn i gg))) (fun i hi => sq2 hi) (by omega) (bx_yes (S := (fun i => 2 ^ sqN see n i)) (T := (fun i gg => fX_taking n g fp fl rn i ≤ on (slN rn i gg))) hv_2.2 (fun i hi => hv_4.2 i (by omega))), trivial⟩, hS.F ht⟩) hS.2.2 dX0_barOf_54
    · have c_5 : ¬ (bb_2 ≤ ii_4) := fun h => c_5 ((nI_leI (a := bb_2) (b := ii_4) (by omega) (by omega)).mpr h)
      refine lv_aload_n hx hb dX0_barOf_36 rfl (lv_at hl 2 rfl) ?_
      refine lv_iload_n hx hb dX0_barOf_37 rfl (lv_at hl 3 rfl) ?_
      refine lv_iload_n hx hb dX0_barOf_38 rfl (lv_at hl 0 rfl) ?_
      refine ro_i (D := D) (va_runV (As := [.int (nI rn), .int (nI ii_4)]) (rest := []) ⟨hx, hb, hml, hown, hts⟩ ((y_isTakenByAny l D k st lo h0 h1 h2 h3 h4 n see tm g ff fp fl w0 w1 w2 w3 w4 on rn ii_4 (by first | assumption | omega) (by first | assumption | omega) (by first | assumption | omega) (by first | assumption | omega)) H.size) (cwV 2 hts (gV tw_663 tw_665 tw_13 tw_85 tw_666) rfl rfl rfl (by decide +kernel) ⟨Nat.le_of_ble_eq_true rfl, Nat.le_of_ble_eq_true rfl⟩) (pV hS hAlo hlo hP hK hDL hZ [0, 1, 2, 3, 4, 5, 6] (by decide) rfl (ci := 0) (q := (RX0, TX0, 5)) (q0 := 5) rfl rfl) rfl rfl hl.1 rfl (lv_room (Nat.le_of_ble_eq_true rfl)) dX0_barOf_39 ⟨Nat.le_of_ble_eq_true rfl, Nat.le_of_ble_eq_true rfl⟩) hS hA hP (fun r_6 H locs hw_6 hP hS => ?_)
      try dsimp only at hw_6
      rcases hw_6 with ⟨rfl, hw_6⟩ | ⟨rfl, hw_6⟩
      · refine lv_if_eq (tgt := 47) hx hb dX0_barOf_42 (by decide) (fun h => absurd h (by decide)) (fun _ => ?_)
        refine lv_iconst (v := (-1)) hx hb dX0_barOf_45 (by decide) ?_
        exact W.iret (v := (-1)) hx hb hr (fun t ht hW => ⟨⟨(-1), (), rfl, ba_no (bx_no (S := (fun i => 2 ^ sqN see n i)) (T := (fun i gg => fX_taking n g fp fl rn i ≤ on (slN rn i gg))) (b := bb_2) (by omega) (.inl (by omega)) (i := ii_4) (by omega) hw_6), trivial⟩, hS.F ht⟩) hS.2.2 dX0_barOf_46
      · refine lv_if_eq (tgt := 47) hx hb dX0_barOf_42 (by decide) (fun _ => ?_) (fun h => absurd (by decide) h)
        refine lv_iinc (v := (nI (ii_4 + 1))) (lv' := [(3, .int (nI (ii_4 + 1))), (2, .int (nI bb_2)), (0, .ref w0), (1, .int (nI rn))]) hx hb dX0_barOf_47 hl (k := 0) rfl (nI_add ii_4 1) (by decide) rfl (fun ls hl => ?_)
        refine lv_goto (tgt := 31) hx hb dX0_barOf_50 (by decide) ?_
        exact ih_4 _ (ii_4 + 1) _ _ _ (by omega) ⟨rfl, ⟨by omega, fun i h gg h3 h4 => by rcases (show i = ii_4 ∨ i < ii_4 by omega) with e | h9; subst e; exact hw_6 gg h3 h4; exact hv_4.2 i h9 gg h3 h4⟩, hP, hS, (lv_sub hl [0, 1, 2, 3] rfl)⟩
  · have c_3 : ¬ (bb_2 ≤ 0) := fun h => c_3 ((nI_leI (a := bb_2) (b := 0) (by omega) (by omega)).mpr h)
    refine lv_aload_n hx hb dX0_barOf_12 rfl (lv_at hl 1 rfl) ?_
    refine lv_iload_n hx hb dX0_barOf_13 rfl (lv_at hl 2 rfl) ?_
    refine lv_iload_n hx hb dX0_barOf_14 rfl (lv_at hl 0 rfl) ?_
    refine lv_iconst (v := 1) hx hb dX0_barOf_15 (by decide) ?_
    refine lv_isub hx hb dX0_barOf_16 ?_
    refine lv_ti (y := (nI (bb_2 - 1))) (pk_sub (a := bb_2) (b := 1) (by omega)) ?_
    refine ro_i (D := D) (va_runV (As := [.int (nI rn), .int (nI (bb_2 - 1))]) (rest := []) ⟨hx, hb, hml, hown, hts⟩ ((y_isTakenByAll l D k st lo h0 h1 h2 h3 h4 n see tm g ff fp fl w0 w1 w2 w3 w4 on rn (bb_2 - 1) (by first | assumption | omega) (by first | assumption | omega) (by first | assumption | omega) (by first | assumption | omega)) H.size) (cwV 2 hts (gV tw_658 tw_660 tw_12 tw_85 tw_661) rfl rfl rfl (by decide +kernel) ⟨Nat.le_of_ble_eq_true rfl, Nat.le_of_ble_eq_true rfl⟩) (pV hS hAlo hlo hP hK hDL hZ [0, 1, 2, 3, 4, 5, 6] (by decide) rfl (ci := 0) (q := (RX0, TX0, 5)) (q0 := 5) rfl rfl) rfl rfl hl.1 rfl (lv_room (Nat.le_of_ble_eq_true rfl)) dX0_barOf_17 ⟨Nat.le_of_ble_eq_true rfl, Nat.le_of_ble_eq_true rfl⟩) hS hA hP (fun r_7 H locs hw_7 hP hS => ?_)
    try dsimp only at hw_7
    rcases hw_7 with ⟨rfl, hw_7⟩ | ⟨rfl, hw_7⟩
    · refine lv_if_eq (tgt := 29) hx hb dX0_barOf_20 (by decide) (fun h => absurd h (by decide)) (fun _ => ?_)
      refine lv_iinc (v := (nI (bb_2 - 1))) (lv' := [(2, .int (nI (bb_2 - 1))), (0, .ref w0), (1, .int (nI rn))]) hx hb dX0_barOf_23 hl (k := 0) rfl (by rw [dn1]; exact pk_sub (a := bb_2) (b := 1) (by omega)) (by decide) rfl (fun ls hl => ?_)
      refine lv_goto (tgt := 8) hx hb dX0_barOf_26 (by decide) ?_
      exact ih_2 _ (bb_2 - 1) _ _ _ (by omega) ⟨rfl, ⟨by omega, fun i h1 h2 gg h3 h4 => by rcases (show i = bb_2 - 1 ∨ bb_2 ≤ i by omega) with e | h; subst e; exact hw_7 gg h3 h4; exact hv_2.2 i h h2 gg h3 h4⟩, hP, hS, (lv_sub hl [0, 1, 2] rfl)⟩
    · refine lv_if_eq (tgt := 29) hx hb dX0_barOf_20 (by decide) (fun _ => ?_) (fun h => absurd (by decide) h)
      refine lv_iconst (v := 0) hx hb dX0_barOf_29 (by decide) ?_
      refine lv_istore_n (lv' := [(3, .int 0), (2, .int (nI bb_2)), (0, .ref w0), (1, .int (nI rn))]) hx hb dX0_barOf_30 rfl hl (by decide) rfl (fun ls hl => ?_)
      refine W_loop (σ := Nat) (fun (n_ : Nat) (ii_8 : Nat) (H : Heap) (locs : List Loc) (ls : Array Slot) => n_ = 25 - ii_8 ∧ (ii_8 ≤ bb_2 ∧ ∀ i, i < ii_8 → ∀ gg, gg < 2 ^ sqN see n i → gg % 2 = 1 → ¬ (fX_taking n g fp fl rn i ≤ on (slN rn i gg))) ∧ va_P D classes [(h0, .inr (5, (fX5 h1 h2 h3 h4))), (aI k h1 10 (vv n see tm g)), (aI k h2 24 ff), (aI k h3 24 fp), (aI k h4 4 fl), (w0, .inr (0, (fX0 h0 w1 w2 w3 w4))), (aI k w1 768 on)] H ∧ va_S (fun q : Nat => s.heap.size ≤ q) s.heap H locs ∧ lv_has ls 4 [(3, .int (nI ii_8)), (2, .int (nI bb_2)), (0, .ref w0), (1, .int (nI rn))]) (fun n_8 x_8 H locs ls hI ih_8 => ?_) _ 0 ⟨rfl, ⟨by omega, fun i h => absurd h (Nat.not_lt_zero i)⟩, hP, hS, (lv_sub hl [0, 1, 2, 3] rfl)⟩
      obtain ⟨ii_8, rfl⟩ : ∃ z, z = x_8 := ⟨_, rfl⟩
      obtain ⟨hm_8, hv_8, hP, hS, hl⟩ := hI
      subst hm_8
      refine lv_iload_n hx hb dX0_barOf_31 rfl (lv_at hl 0 rfl) ?_
      refine lv_iload_n hx hb dX0_barOf_32 rfl (lv_at hl 1 rfl) ?_
      refine lv_icmp_ge (tgt := 53) hx hb dX0_barOf_33 (by decide) (fun c_9 => ?_) (fun c_9 => ?_)
      · have c_9 := (nI_leI (a := bb_2) (b := ii_8) (by omega) (by omega)).mp c_9
        refine lv_iload_n hx hb dX0_barOf_53 rfl (lv_at hl 1 rfl) ?_
        exact W.iret (v := (nI bb_2)) hx hb hr (fun t ht hW => ⟨⟨(nI bb_2), (), rfl, ba_yes (S := (fun i => 2 ^ sqN see n i)) (T := (fun i gg => fX_taking n g fp fl rn i ≤ on (slN rn i gg))) (fun i hi => sq2 hi) (by omega) (bx_yes (S := (fun i => 2 ^ sqN see n i)) (T := (fun i gg => fX_taking n g fp fl rn i ≤ on (slN rn i gg))) hv_2.2 (fun i hi => hv_8.2 i (by omega))), trivial⟩, hS.F ht⟩) hS.2.2 dX0_barOf_54
      · have c_9 : ¬ (bb_2 ≤ ii_8) := fun h => c_9 ((nI_leI (a := bb_2) (b := ii_8) (by omega) (by omega)).mpr h)
        refine lv_aload_n hx hb dX0_barOf_36 rfl (lv_at hl 2 rfl) ?_
        refine lv_iload_n hx hb dX0_barOf_37 rfl (lv_at hl 3 rfl) ?_
        refine lv_iload_n hx hb dX0_barOf_38 rfl (lv_at hl 0 rfl) ?_
        refine ro_i (D := D) (va_runV (As := [.int (nI rn), .int (nI ii_8)]) (rest := []) ⟨hx, hb, hml, hown, hts⟩ ((y_isTakenByAny l D k st lo h0 h1 h2 h3 h4 n see tm g ff fp fl w0 w1 w2 w3 w4 on rn ii_8 (by first | assumption | omega) (by first | assumption | omega) (by first | assumption | omega) (by first | assumption | omega)) H.size) (cwV 2 hts (gV tw_663 tw_665 tw_13 tw_85 tw_666) rfl rfl rfl (by decide +kernel) ⟨Nat.le_of_ble_eq_true rfl, Nat.le_of_ble_eq_true rfl⟩) (pV hS hAlo hlo hP hK hDL hZ [0, 1, 2, 3, 4, 5, 6] (by decide) rfl (ci := 0) (q := (RX0, TX0, 5)) (q0 := 5) rfl rfl) rfl rfl hl.1 rfl (lv_room (Nat.le_of_ble_eq_true rfl)) dX0_barOf_39 ⟨Nat.le_of_ble_eq_true rfl, Nat.le_of_ble_eq_true rfl⟩) hS hA hP (fun r_10 H locs hw_10 hP hS => ?_)
        try dsimp only at hw_10
        rcases hw_10 with ⟨rfl, hw_10⟩ | ⟨rfl, hw_10⟩
        · refine lv_if_eq (tgt := 47) hx hb dX0_barOf_42 (by decide) (fun h => absurd h (by decide)) (fun _ => ?_)
          refine lv_iconst (v := (-1)) hx hb dX0_barOf_45 (by decide) ?_
          exact W.iret (v := (-1)) hx hb hr (fun t ht hW => ⟨⟨(-1), (), rfl, ba_no (bx_no (S := (fun i => 2 ^ sqN see n i)) (T := (fun i gg => fX_taking n g fp fl rn i ≤ on (slN rn i gg))) (b := bb_2) (by omega) (.inr hw_7) (i := ii_8) (by omega) hw_10), trivial⟩, hS.F ht⟩) hS.2.2 dX0_barOf_46
        · refine lv_if_eq (tgt := 47) hx hb dX0_barOf_42 (by decide) (fun _ => ?_) (fun h => absurd (by decide) h)
          refine lv_iinc (v := (nI (ii_8 + 1))) (lv' := [(3, .int (nI (ii_8 + 1))), (2, .int (nI bb_2)), (0, .ref w0), (1, .int (nI rn))]) hx hb dX0_barOf_47 hl (k := 0) rfl (nI_add ii_8 1) (by decide) rfl (fun ls hl => ?_)
          refine lv_goto (tgt := 31) hx hb dX0_barOf_50 (by decide) ?_
          exact ih_8 _ (ii_8 + 1) _ _ _ (by omega) ⟨rfl, ⟨by omega, fun i h gg h3 h4 => by rcases (show i = ii_8 ∨ i < ii_8 by omega) with e | h9; subst e; exact hw_10 gg h3 h4; exact hv_8.2 i h9 gg h3 h4⟩, hP, hS, (lv_sub hl [0, 1, 2, 3] rfl)⟩


set_option maxHeartbeats 4000000 in
set_option maxRecDepth 100000 in
theorem y_bar (l : Launch) (D : va_G) (k : Nat → ClassId) (st : Nat → Nat) (lo : Nat) (a : Nat → Nat) (rk : Nat) (lfa : Int32) (n0 : Nat) (see0 : Nat) (tm0 : Nat) (g0 : Nat → Int32) (ff0 : Nat → Int32) (fp0 : Nat → Int32) (fl0 : Nat → Int32) (n1 : Nat) (see1 : Nat) (tm1 : Nat) (g1 : Nat → Int32) (ff1 : Nat → Int32) (fp1 : Nat → Int32) (fl1 : Nat → Int32) (n2 : Nat) (see2 : Nat) (tm2 : Nat) (g2 : Nat → Int32) (ff2 : Nat → Int32) (fp2 : Nat → Int32) (fl2 : Nat → Int32) (on0 : Nat → Int32) (sr0 : Nat → Int32) (en0 : Nat → Int32) (on1 : Nat → Int32) (sr1 : Nat → Int32) (en1 : Nat → Int32) (on2 : Nat → Int32) (sr2 : Nat → Int32) (en2 : Nat → Int32) (p0 : Int32) (p1 : Int32) (hn0 : n0 ≤ 24) (hse0 : see0 ≤ 2) (htm0 : tm0 ≤ 3) (hn1 : n1 ≤ 24) (hse1 : see1 ≤ 2) (htm1 : tm1 ≤ 3) (hn2 : n2 ≤ 24) (hse2 : see2 ≤ 2) (htm2 : tm2 ≤ 3) (hlt : ltP (d3 fl0 fl1 fl2) (d3 (sdX n0 see0 tm0 g0 ff0 fp0) (sdX n1 see1 tm1 g1 ff1 fp1) (sdX n2 see2 tm2 g2 ff2 fp2))) (hwy : wy3 (d3 (sdX n0 see0 tm0 g0 ff0 fp0) (sdX n1 see1 tm1 g1 ff1 fp1) (sdX n2 see2 tm2 g2 ff2 fp2)) (d3 on0 on1 on2) (d3 sr0 sr1 sr2) (d3 en0 en1 en2)) : CRi l D k st lo yX7_bar cX7_bar 3 (some .int) ({ frames := 5, cells := 0, slots := 0, locals := 127 }) [.ref (a 0), .int p0, .int p1] [((a 0), .inr (7, (fX7 (a 1) (a 3) (a 19) (a 35) (a 40) (nI rk) lfa (a 53) (a 56) (a 63) (a 64) (a 68)))), ((a 3), .inl (k 3, 3, .inr (.inr (.inr (.inr (a3 (a 4) (a 9) (a 14))))))), ((a 19), .inl (k 4, 3, .inr (.inr (.inr (.inr (a3 (a 20) (a 25) (a 30))))))), ((a 4), .inr (5, (fX5 (a 5) (a 6) (a 7) (a 8)))), (aI k (a 5) 10 (vv n0 see0 tm0 g0)), (aI k (a 6) 24 ff0), (aI k (a 7) 24 fp0), (aI k (a 8) 4 fl0), ((a 9), .inr (5, (fX5 (a 10) (a 11) (a 12) (a 13)))), (aI k (a 10) 10 (vv n1 see1 tm1 g1)), (aI k (a 11) 24 ff1), (aI k (a 12) 24 fp1), (aI k (a 13) 4 fl1), ((a 14), .inr (5, (fX5 (a 15) (a 16) (a 17) (a 18)))), (aI k (a 15) 10 (vv n2 see2 tm2 g2)), (aI k (a 16) 24 ff2), (aI k (a 17) 24 fp2), (aI k (a 18) 4 fl2), ((a 20), .inr (0, (fX0 (a 4) (a 21) (a 22) (a 23) (a 24)))), (aI k (a 21) 768 on0), (aI k (a 22) 4 sr0), (aI k (a 23) 4 en0), ((a 25), .inr (0, (fX0 (a 9) (a 26) (a 27) (a 28) (a 29)))), (aI k (a 26) 768 on1), (aI k (a 27) 4 sr1), (aI k (a 28) 4 en1), ((a 30), .inr (0, (fX0 (a 14) (a 31) (a 32) (a 33) (a 34)))), (aI k (a 31) 768 on2), (aI k (a 32) 4 sr2), (aI k (a 33) 4 en2)] (fun r => tqP (d3 (sdX n0 see0 tm0 g0 ff0 fp0) (sdX n1 see1 tm1 g1 ff1 fp1) (sdX n2 see2 tm2 g2 ff2 fp2)) p0 (baA p1) r) := by
  intro sz
  refine Met.ofW (cc := cX7_bar) (maxL := 3) (ret := (some .int)) (by decide) rfl ?_
  intro p e s m args below meth c s₁ B hml hv
  obtain ⟨rfl, hsz, hlo, hP, hK, hDL, hZ⟩ := hv
  have hx := B.exec
  have hb := B.bytes
  have hr := B.returns
  have hts := WS_ts B.pre
  have hown : s.vm.findClass RX7 = some m.cls := findClass_of_methodNamed B.named
  have hlocks := B.notSynchronized
  subst hsz
  have hA : ∀ q : Nat, s.heap.size ≤ q → (fun q : Nat => s.heap.size ≤ q) q := fun _ h => h
  have hAlo : ∀ q : Nat, (fun q : Nat => s.heap.size ≤ q) q → lo ≤ q := fun q h => Nat.le_trans hlo h
  have hS : va_S (fun q : Nat => s.heap.size ≤ q) s.heap s.heap [] := va_S.rf
  have hl := lv_entry ([.ref (a 0), .int p0, .int p1]) (n := 3) (Nat.le_of_ble_eq_true rfl)
  rw [lg_entry_eq]
  generalize (lg_sl ([.ref (a 0), .int p0, .int p1]) ++ List.replicate (3 - (lg_sl ([.ref (a 0), .int p0, .int p1])).length) Slot.unset).toArray = ls at hl ⊢
  have hl : lv_has ls 3 [(0, .ref (a 0)), (1, .int p0), (2, .int p1)] := hl
  refine lv_aload_n hx hb dX7_bar_0 rfl (lv_at hl 0 rfl) ?_
  refine lv_iload_n hx hb dX7_bar_1 rfl (lv_at hl 1 rfl) ?_
  refine ro_i (D := D) (va_runV (As := [.int p0]) (rest := []) ⟨hx, hb, hml, hown, hts⟩ ((y_isStreet l D k st lo a rk lfa n0 see0 tm0 g0 n1 see1 tm1 g1 n2 see2 tm2 g2 p0 (by first | assumption | omega) (by first | assumption | omega) (by first | assumption | omega)) s.heap.size) (cwV 1 hts (gV tw_589 tw_591 tw_8 tw_79 tw_592) rfl rfl rfl (by decide +kernel) ⟨Nat.le_of_ble_eq_true rfl, Nat.le_of_ble_eq_true rfl⟩) (pV hS hAlo hlo hP hK hDL hZ [0, 1, 3, 4, 8, 9, 13, 14] (by decide) rfl (ci := 7) (q := (RX7, TX7, 12)) (q0 := 0) rfl rfl) rfl rfl hl.1 rfl (lv_room (Nat.le_of_ble_eq_true rfl)) dX7_bar_2 ⟨Nat.le_of_ble_eq_true rfl, Nat.le_of_ble_eq_true rfl⟩) hS hA hP (fun r_1 H locs hw_1 hP hS => ?_)
  try dsimp only at hw_1
  rcases hw_1 with ⟨rfl, ⟨rfl, hw_1⟩ | ⟨rfl, hw_1⟩ | ⟨rfl, hw_1⟩⟩ | ⟨rfl, hw_1⟩
  · refine lv_if_ne (tgt := 12) hx hb dX7_bar_5 (by decide) (fun _ => ?_) (fun h => absurd h (by decide))
    refine lv_aload_n hx hb dX7_bar_12 rfl (lv_at hl 0 rfl) ?_
    refine lv_iload_n hx hb dX7_bar_13 rfl (lv_at hl 1 rfl) ?_
    refine lv_iload_n hx hb dX7_bar_14 rfl (lv_at hl 2 rfl) ?_
    refine ro_i (D := D) (va_runV (As := [.int 0, .int p1]) (rest := []) ⟨hx, hb, hml, hown, hts⟩ ((y_isRound_0 l D k st lo a rk lfa n0 see0 tm0 g0 p1 (by first | assumption | omega)) H.size) (cwV 2 hts (gV tw_613 tw_615 tw_10 tw_79 tw_616) rfl rfl rfl (by decide +kernel) ⟨Nat.le_of_ble_eq_true rfl, Nat.le_of_ble_eq_true rfl⟩) (pV hS hAlo hlo hP hK hDL hZ [0, 1, 3, 4] (by decide) rfl (ci := 7) (q := (RX7, TX7, 12)) (q0 := 0) rfl rfl) rfl rfl hl.1 rfl (lv_room (Nat.le_of_ble_eq_true rfl)) dX7_bar_15 ⟨Nat.le_of_ble_eq_true rfl, Nat.le_of_ble_eq_true rfl⟩) hS hA hP (fun r_2 H locs hw_2 hP hS => ?_)
    try dsimp only at hw_2
    rcases hw_2 with ⟨rfl, ir_3, hir_3, rfl⟩ | ⟨rfl, hw_2⟩
    · refine lv_if_eq (tgt := 34) hx hb dX7_bar_18 (by decide) (fun h => absurd h (by decide)) (fun _ => ?_)
      refine lv_aload_n hx hb dX7_bar_21 rfl (lv_at hl 0 rfl) ?_
      refine va_get (D := D) (ci := 7) (v := .ref (a 19)) (C := RX7) (T := TX7) (N := 12) hx hb hts inX7 hown hK hP 0 rfl rfl 2 (by decide) (hts _ tw_307) (fun _ h9 => h9) rfl dX7_bar_22 ?_
      refine lv_iload_n hx hb dX7_bar_25 rfl (lv_at hl 1 rfl) ?_
      refine va_aldq hx hb hK hP 2 4 rfl rfl (by unfold vp_in; decide) dX7_bar_26 ?_
      refine lv_tr (y := .ref (a 20)) rfl ?_
      refine lv_iload_n hx hb dX7_bar_27 rfl (lv_at hl 2 rfl) ?_
      refine ro_i (D := D) (va_runV (As := [.int (nI ir_3)]) (rest := []) ⟨hx, hb, hml, hown, hts⟩ ((y_barOf l D k st lo (a 4) (a 5) (a 6) (a 7) (a 8) n0 see0 tm0 g0 ff0 fp0 fl0 (a 20) (a 21) (a 22) (a 23) (a 24) on0 ir_3 (by first | assumption | omega) (by first | assumption | omega) (by first | assumption | omega)) H.size) (cwV 1 hts (gV tw_654 tw_655 tw_656 tw_85 tw_657) rfl rfl rfl (by decide +kernel) ⟨Nat.le_of_ble_eq_true rfl, Nat.le_of_ble_eq_true rfl⟩) (pV hS hAlo hlo hP hK hDL hZ [3, 4, 5, 6, 7, 18, 19] (by decide) rfl (ci := 0) (q := (RX0, TX0, 5)) (q0 := 5) rfl rfl) rfl rfl hl.1 rfl (lv_room (Nat.le_of_ble_eq_true rfl)) dX7_bar_28 ⟨Nat.le_of_ble_eq_true rfl, Nat.le_of_ble_eq_true rfl⟩) hS hA hP (fun r_4 H locs hw_4 hP hS => ?_)
      try dsimp only at hw_4
      refine lv_goto (tgt := 37) hx hb dX7_bar_31 (by decide) ?_
      exact W.iret (v := r_4) hx hb hr (fun t ht hW => ⟨⟨r_4, (), rfl, tq_at (s := 0) (by omega) (show 0 < n0 by omega) (show baA (nI ir_3) (sdX n0 see0 tm0 g0 ff0 fp0) _ from bq_i (by omega) (by rw [rdX]; exact inr (by omega) (by omega)) (by rw [seX (by omega)]; exact baP_congr (fun i hi g hg => by rw [← xTake (show i < n0 from hi) (hlt 0 (by omega) ir_3 (by omega)), ← wo_of (d := (sdX n0 see0 tm0 g0 ff0 fp0)) (hwy 0 (by omega) (show 0 < n0 by omega)) (by rw [tmX (by omega)]; omega) (show i < n0 from hi) (by rw [seX (by omega)]; exact hg)]; exact Iff.rfl) hw_4)), trivial⟩, hS.F ht⟩) hS.2.2 dX7_bar_37
    · refine lv_if_eq (tgt := 34) hx hb dX7_bar_18 (by decide) (fun _ => ?_) (fun h => absurd (by decide) h)
      refine lv_sipush (v := (-1002)) hx hb dX7_bar_34 (by decide) ?_
      exact W.iret (v := (-1002)) hx hb hr (fun t ht hW => ⟨⟨(-1002), (), rfl, tq_at (s := 0) (by omega) (show 0 < n0 by omega) (show baA p1 (sdX n0 see0 tm0 g0 ff0 fp0) _ from bq_o (by rw [rdX]; exact hw_2)), trivial⟩, hS.F ht⟩) hS.2.2 dX7_bar_37
  · refine lv_if_ne (tgt := 12) hx hb dX7_bar_5 (by decide) (fun _ => ?_) (fun h => absurd h (by decide))
    refine lv_aload_n hx hb dX7_bar_12 rfl (lv_at hl 0 rfl) ?_
    refine lv_iload_n hx hb dX7_bar_13 rfl (lv_at hl 1 rfl) ?_
    refine lv_iload_n hx hb dX7_bar_14 rfl (lv_at hl 2 rfl) ?_
    refine ro_i (D := D) (va_runV (As := [.int 1, .int p1]) (rest := []) ⟨hx, hb, hml, hown, hts⟩ ((y_isRound_1 l D k st lo a rk lfa n1 see1 tm1 g1 p1 (by first | assumption | omega)) H.size) (cwV 2 hts (gV tw_613 tw_615 tw_10 tw_79 tw_616) rfl rfl rfl (by decide +kernel) ⟨Nat.le_of_ble_eq_true rfl, Nat.le_of_ble_eq_true rfl⟩) (pV hS hAlo hlo hP hK hDL hZ [0, 1, 8, 9] (by decide) rfl (ci := 7) (q := (RX7, TX7, 12)) (q0 := 0) rfl rfl) rfl rfl hl.1 rfl (lv_room (Nat.le_of_ble_eq_true rfl)) dX7_bar_15 ⟨Nat.le_of_ble_eq_true rfl, Nat.le_of_ble_eq_true rfl⟩) hS hA hP (fun r_5 H locs hw_5 hP hS => ?_)
    try dsimp only at hw_5
    rcases hw_5 with ⟨rfl, ir_6, hir_6, rfl⟩ | ⟨rfl, hw_5⟩
    · refine lv_if_eq (tgt := 34) hx hb dX7_bar_18 (by decide) (fun h => absurd h (by decide)) (fun _ => ?_)
      refine lv_aload_n hx hb dX7_bar_21 rfl (lv_at hl 0 rfl) ?_
      refine va_get (D := D) (ci := 7) (v := .ref (a 19)) (C := RX7) (T := TX7) (N := 12) hx hb hts inX7 hown hK hP 0 rfl rfl 2 (by decide) (hts _ tw_307) (fun _ h9 => h9) rfl dX7_bar_22 ?_
      refine lv_iload_n hx hb dX7_bar_25 rfl (lv_at hl 1 rfl) ?_
      refine va_aldq hx hb hK hP 2 4 rfl rfl (by unfold vp_in; decide) dX7_bar_26 ?_
      refine lv_tr (y := .ref (a 25)) rfl ?_
      refine lv_iload_n hx hb dX7_bar_27 rfl (lv_at hl 2 rfl) ?_
      refine ro_i (D := D) (va_runV (As := [.int (nI ir_6)]) (rest := []) ⟨hx, hb, hml, hown, hts⟩ ((y_barOf l D k st lo (a 9) (a 10) (a 11) (a 12) (a 13) n1 see1 tm1 g1 ff1 fp1 fl1 (a 25) (a 26) (a 27) (a 28) (a 29) on1 ir_6 (by first | assumption | omega) (by first | assumption | omega) (by first | assumption | omega)) H.size) (cwV 1 hts (gV tw_654 tw_655 tw_656 tw_85 tw_657) rfl rfl rfl (by decide +kernel) ⟨Nat.le_of_ble_eq_true rfl, Nat.le_of_ble_eq_true rfl⟩) (pV hS hAlo hlo hP hK hDL hZ [8, 9, 10, 11, 12, 22, 23] (by decide) rfl (ci := 0) (q := (RX0, TX0, 5)) (q0 := 5) rfl rfl) rfl rfl hl.1 rfl (lv_room (Nat.le_of_ble_eq_true rfl)) dX7_bar_28 ⟨Nat.le_of_ble_eq_true rfl, Nat.le_of_ble_eq_true rfl⟩) hS hA hP (fun r_7 H locs hw_7 hP hS => ?_)
      try dsimp only at hw_7
      refine lv_goto (tgt := 37) hx hb dX7_bar_31 (by decide) ?_
      exact W.iret (v := r_7) hx hb hr (fun t ht hW => ⟨⟨r_7, (), rfl, tq_at (s := 1) (by omega) (show 0 < n1 by omega) (show baA (nI ir_6) (sdX n1 see1 tm1 g1 ff1 fp1) _ from bq_i (by omega) (by rw [rdX]; exact inr (by omega) (by omega)) (by rw [seX (by omega)]; exact baP_congr (fun i hi g hg => by rw [← xTake (show i < n1 from hi) (hlt 1 (by omega) ir_6 (by omega)), ← wo_of (d := (sdX n1 see1 tm1 g1 ff1 fp1)) (hwy 1 (by omega) (show 0 < n1 by omega)) (by rw [tmX (by omega)]; omega) (show i < n1 from hi) (by rw [seX (by omega)]; exact hg)]; exact Iff.rfl) hw_7)), trivial⟩, hS.F ht⟩) hS.2.2 dX7_bar_37
    · refine lv_if_eq (tgt := 34) hx hb dX7_bar_18 (by decide) (fun _ => ?_) (fun h => absurd (by decide) h)
      refine lv_sipush (v := (-1002)) hx hb dX7_bar_34 (by decide) ?_
      exact W.iret (v := (-1002)) hx hb hr (fun t ht hW => ⟨⟨(-1002), (), rfl, tq_at (s := 1) (by omega) (show 0 < n1 by omega) (show baA p1 (sdX n1 see1 tm1 g1 ff1 fp1) _ from bq_o (by rw [rdX]; exact hw_5)), trivial⟩, hS.F ht⟩) hS.2.2 dX7_bar_37
  · refine lv_if_ne (tgt := 12) hx hb dX7_bar_5 (by decide) (fun _ => ?_) (fun h => absurd h (by decide))
    refine lv_aload_n hx hb dX7_bar_12 rfl (lv_at hl 0 rfl) ?_
    refine lv_iload_n hx hb dX7_bar_13 rfl (lv_at hl 1 rfl) ?_
    refine lv_iload_n hx hb dX7_bar_14 rfl (lv_at hl 2 rfl) ?_
    refine ro_i (D := D) (va_runV (As := [.int 2, .int p1]) (rest := []) ⟨hx, hb, hml, hown, hts⟩ ((y_isRound_2 l D k st lo a rk lfa n2 see2 tm2 g2 p1 (by first | assumption | omega)) H.size) (cwV 2 hts (gV tw_613 tw_615 tw_10 tw_79 tw_616) rfl rfl rfl (by decide +kernel) ⟨Nat.le_of_ble_eq_true rfl, Nat.le_of_ble_eq_true rfl⟩) (pV hS hAlo hlo hP hK hDL hZ [0, 1, 13, 14] (by decide) rfl (ci := 7) (q := (RX7, TX7, 12)) (q0 := 0) rfl rfl) rfl rfl hl.1 rfl (lv_room (Nat.le_of_ble_eq_true rfl)) dX7_bar_15 ⟨Nat.le_of_ble_eq_true rfl, Nat.le_of_ble_eq_true rfl⟩) hS hA hP (fun r_8 H locs hw_8 hP hS => ?_)
    try dsimp only at hw_8
    rcases hw_8 with ⟨rfl, ir_9, hir_9, rfl⟩ | ⟨rfl, hw_8⟩
    · refine lv_if_eq (tgt := 34) hx hb dX7_bar_18 (by decide) (fun h => absurd h (by decide)) (fun _ => ?_)
      refine lv_aload_n hx hb dX7_bar_21 rfl (lv_at hl 0 rfl) ?_
      refine va_get (D := D) (ci := 7) (v := .ref (a 19)) (C := RX7) (T := TX7) (N := 12) hx hb hts inX7 hown hK hP 0 rfl rfl 2 (by decide) (hts _ tw_307) (fun _ h9 => h9) rfl dX7_bar_22 ?_
      refine lv_iload_n hx hb dX7_bar_25 rfl (lv_at hl 1 rfl) ?_
      refine va_aldq hx hb hK hP 2 4 rfl rfl (by unfold vp_in; decide) dX7_bar_26 ?_
      refine lv_tr (y := .ref (a 30)) rfl ?_
      refine lv_iload_n hx hb dX7_bar_27 rfl (lv_at hl 2 rfl) ?_
      refine ro_i (D := D) (va_runV (As := [.int (nI ir_9)]) (rest := []) ⟨hx, hb, hml, hown, hts⟩ ((y_barOf l D k st lo (a 14) (a 15) (a 16) (a 17) (a 18) n2 see2 tm2 g2 ff2 fp2 fl2 (a 30) (a 31) (a 32) (a 33) (a 34) on2 ir_9 (by first | assumption | omega) (by first | assumption | omega) (by first | assumption | omega)) H.size) (cwV 1 hts (gV tw_654 tw_655 tw_656 tw_85 tw_657) rfl rfl rfl (by decide +kernel) ⟨Nat.le_of_ble_eq_true rfl, Nat.le_of_ble_eq_true rfl⟩) (pV hS hAlo hlo hP hK hDL hZ [13, 14, 15, 16, 17, 26, 27] (by decide) rfl (ci := 0) (q := (RX0, TX0, 5)) (q0 := 5) rfl rfl) rfl rfl hl.1 rfl (lv_room (Nat.le_of_ble_eq_true rfl)) dX7_bar_28 ⟨Nat.le_of_ble_eq_true rfl, Nat.le_of_ble_eq_true rfl⟩) hS hA hP (fun r_10 H locs hw_10 hP hS => ?_)
      try dsimp only at hw_10
      refine lv_goto (tgt := 37) hx hb dX7_bar_31 (by decide) ?_
      exact W.iret (v := r_10) hx hb hr (fun t ht hW => ⟨⟨r_10, (), rfl, tq_at (s := 2) (by omega) (show 0 < n2 by omega) (show baA (nI ir_9) (sdX n2 see2 tm2 g2 ff2 fp2) _ from bq_i (by omega) (by rw [rdX]; exact inr (by omega) (by omega)) (by rw [seX (by omega)]; exact baP_congr (fun i hi g hg => by rw [← xTake (show i < n2 from hi) (hlt 2 (by omega) ir_9 (by omega)), ← wo_of (d := (sdX n2 see2 tm2 g2 ff2 fp2)) (hwy 2 (by omega) (show 0 < n2 by omega)) (by rw [tmX (by omega)]; omega) (show i < n2 from hi) (by rw [seX (by omega)]; exact hg)]; exact Iff.rfl) hw_10)), trivial⟩, hS.F ht⟩) hS.2.2 dX7_bar_37
    · refine lv_if_eq (tgt := 34) hx hb dX7_bar_18 (by decide) (fun _ => ?_) (fun h => absurd (by decide) h)
      refine lv_sipush (v := (-1002)) hx hb dX7_bar_34 (by decide) ?_
      exact W.iret (v := (-1002)) hx hb hr (fun t ht hW => ⟨⟨(-1002), (), rfl, tq_at (s := 2) (by omega) (show 0 < n2 by omega) (show baA p1 (sdX n2 see2 tm2 g2 ff2 fp2) _ from bq_o (by rw [rdX]; exact hw_8)), trivial⟩, hS.F ht⟩) hS.2.2 dX7_bar_37
  · refine lv_if_ne (tgt := 12) hx hb dX7_bar_5 (by decide) (fun h => absurd (by decide) h) (fun _ => ?_)
    refine lv_sipush (v := (-1001)) hx hb dX7_bar_8 (by decide) ?_
    exact W.iret (v := (-1001)) hx hb hr (fun t ht hW => ⟨⟨(-1001), (), rfl, tq_no (fun s h1 h2 h3 => hw_1 s h1 h2 (by rw [d3_n] at h3; exact h3)), trivial⟩, hS.F ht⟩) hS.2.2 dX7_bar_11


set_option maxHeartbeats 4000000 in
set_option maxRecDepth 100000 in
theorem n_bar (l : Launch) (D : va_G) (k : Nat → ClassId) (st : Nat → Nat) (lo : Nat) (a : Nat → Nat) (tx : Nat) (t0 : Nat) (we : Nat) (rd : Nat) (ru : Nat) (rw : Nat) (ca : Nat) (fp : Int32) (wd : Int64) (nu : Int32) (na : Int32) (ts : Int32) (df : Int32) (db : Int32) (sd : Int32) (dn : Nat → Nat) (se : Nat → Nat) (tm : Nat → Nat) (gs : Nat → Int32) (ffrees : Nat → Int32) (fprices : Nat → Int32) (fons : Nat → Int32) (fworths : Nat → Int32) (fstarts : Nat → Int32) (fends : Nat → Int32) (fgoesRound : Nat → Int32) (fbegin : Nat → Int32) (p0 : Int32) (p1 : Int32) (hdn : ∀ j, dn j ≤ 24) (hse : ∀ j, se j ≤ 2) (htm : ∀ j, tm j ≤ 3) : CWi l D k st lo yX8_bar cX8_bar 8 (some .int) ({ frames := 6, cells := 0, slots := 0, locals := 144 }) 0 0 [.ref (a 0), .int p0, .int p1] [((a 0), .inr (8, (fX8 a (nI tx) fp (nI t0) wd (nI we) nu na (nI rd) ts (nI ru) (nI rw) (nI ca) df db sd))), (aI k (a 1) 3 (nF dn)), (aI k (a 4) 27 (sg se tm gs)), (aI k (a 2) 72 ffrees), (aI k (a 3) 72 fprices), (aI k (a 18) 768 fons), (aI k (a 19) 768 fworths), (aI k (a 20) 5 fstarts), (aI k (a 21) 4 fends), (aZ k (a 22) 4 fgoesRound), (aI k (a 23) 8 fbegin)] (fun (r : Int32) (u : (Nat → Int32) × (Nat → Int32) × (Nat → Int32) × (Nat → Int32) × (Nat → Int32) × (Nat → Int32)) => match u with | (fons_, fworths_, fstarts_, fends_, fgoesRound_, fbegin_) => tqP (sdM dn (sg se tm gs) ffrees fprices) p0 (baA p1) r) (fun (u : (Nat → Int32) × (Nat → Int32) × (Nat → Int32) × (Nat → Int32) × (Nat → Int32) × (Nat → Int32)) => match u with | (fons_, fworths_, fstarts_, fends_, fgoesRound_, fbegin_) => [((a 0), .inr (8, (fX8 a (nI tx) fp (nI t0) wd (nI we) nu na (nI rd) ts (nI ru) (nI rw) (nI ca) df db sd))), (aI k (a 1) 3 (nF dn)), (aI k (a 4) 27 (sg se tm gs)), (aI k (a 2) 72 ffrees), (aI k (a 3) 72 fprices), (aI k (a 18) 768 fons_), (aI k (a 19) 768 fworths_), (aI k (a 20) 5 fstarts_), (aI k (a 21) 4 fends_), (aZ k (a 22) 4 fgoesRound_), (aI k (a 23) 8 fbegin_)]) := by
  intro sz
  refine Met.ofW (cc := cX8_bar) (maxL := 8) (ret := (some .int)) (by decide) rfl ?_
  intro p e s m args below meth c s₁ B hml hv
  obtain ⟨rfl, hsz, hlo, hP, hK, hDL, hZ⟩ := hv
  have hx := B.exec
  have hb := B.bytes
  have hr := B.returns
  have hts := WS_ts B.pre
  have hown : s.vm.findClass RX8 = some m.cls := findClass_of_methodNamed B.named
  have hlocks := B.notSynchronized
  subst hsz
  have hD := hDL.self (sz := s.heap.size)
  have hAlo := A_lo hDL hlo
  generalize hAe : va_A [((a 0), .inr (8, (fX8 a (nI tx) fp (nI t0) wd (nI we) nu na (nI rd) ts (nI ru) (nI rw) (nI ca) df db sd))), (aI k (a 1) 3 (nF dn)), (aI k (a 4) 27 (sg se tm gs)), (aI k (a 2) 72 ffrees), (aI k (a 3) 72 fprices), (aI k (a 18) 768 fons), (aI k (a 19) 768 fworths), (aI k (a 20) 5 fstarts), (aI k (a 21) 4 fends), (aZ k (a 22) 4 fgoesRound), (aI k (a 23) 8 fbegin)] s.heap.size = A at hD hAlo ⊢
  have hA : ∀ q : Nat, s.heap.size ≤ q → A q := fun q h => by rw [← hAe]; exact Or.inr h
  have hS : va_S A s.heap s.heap [] := va_S.rf
  have hl := lv_entry ([.ref (a 0), .int p0, .int p1]) (n := 8) (Nat.le_of_ble_eq_true rfl)
  rw [lg_entry_eq]
  generalize (lg_sl ([.ref (a 0), .int p0, .int p1]) ++ List.replicate (8 - (lg_sl ([.ref (a 0), .int p0, .int p1])).length) Slot.unset).toArray = ls at hl ⊢
  have hl : lv_has ls 8 [(0, .ref (a 0)), (1, .int p0), (2, .int p1)] := hl
  refine lv_aload_n hx hb dX8_bar_0 rfl (lv_at hl 0 rfl) ?_
  refine lv_iload_n hx hb dX8_bar_1 rfl (lv_at hl 1 rfl) ?_
  refine ro_i (D := D) (va_runV (As := [.int p0]) (rest := []) ⟨hx, hb, hml, hown, hts⟩ ((n_isStreet l D k st lo a tx t0 we rd ru rw ca fp wd nu na ts df db sd dn p0 hdn) s.heap.size) (cwV 1 hts (gV tw_1189 tw_1191 tw_38 tw_87 tw_1192) rfl rfl rfl (by decide +kernel) ⟨Nat.le_of_ble_eq_true rfl, Nat.le_of_ble_eq_true rfl⟩) (pV hS hAlo hlo hP hK (va_Dlo hD hAlo) hZ [0, 1] (by decide) rfl (ci := 8) (q := (RX8, TX8, 44)) (q0 := 0) rfl rfl) rfl rfl hl.1 rfl (lv_room (Nat.le_of_ble_eq_true rfl)) dX8_bar_2 ⟨Nat.le_of_ble_eq_true rfl, Nat.le_of_ble_eq_true rfl⟩) hS hA hP (fun r_1 H locs hw_1 hP hS => ?_)
  try dsimp only at hw_1
  rcases hw_1 with ⟨rfl, j_2, hj_2, rfl, hw_1⟩ | ⟨rfl, hw_1⟩
  · have hdj_2 := hdn j_2
    have htj_2 := htm j_2
    refine lv_if_ne (tgt := 12) hx hb dX8_bar_5 (by decide) (fun _ => ?_) (fun h => absurd h (by decide))
    refine lv_aload_n hx hb dX8_bar_12 rfl (lv_at hl 0 rfl) ?_
    refine lv_iload_n hx hb dX8_bar_13 rfl (lv_at hl 1 rfl) ?_
    refine lv_iload_n hx hb dX8_bar_14 rfl (lv_at hl 2 rfl) ?_
    refine ro_i (D := D) (va_runV (As := [.int (nI j_2), .int p1]) (rest := []) ⟨hx, hb, hml, hown, hts⟩ ((n_isRound l D k st lo a tx t0 we rd ru rw ca fp wd nu na ts df db sd se tm gs j_2 p1 htm (by first | assumption | omega)) H.size) (cwV 2 hts (gV tw_1218 tw_1220 tw_42 tw_87 tw_1221) rfl rfl rfl (by decide +kernel) ⟨Nat.le_of_ble_eq_true rfl, Nat.le_of_ble_eq_true rfl⟩) (pV hS hAlo hlo hP hK (va_Dlo hD hAlo) hZ [0, 2] (by decide) rfl (ci := 8) (q := (RX8, TX8, 44)) (q0 := 0) rfl rfl) rfl rfl hl.1 rfl (lv_room (Nat.le_of_ble_eq_true rfl)) dX8_bar_15 ⟨Nat.le_of_ble_eq_true rfl, Nat.le_of_ble_eq_true rfl⟩) hS hA hP (fun r_3 H locs hw_3 hP hS => ?_)
    try dsimp only at hw_3
    rcases hw_3 with ⟨rfl, j_4, hj_4, rfl, hw_3⟩ | ⟨rfl, hw_3⟩
    · refine lv_if_ne (tgt := 25) hx hb dX8_bar_18 (by decide) (fun _ => ?_) (fun h => absurd h (by decide))
      refine lv_aload_n hx hb dX8_bar_25 rfl (lv_at hl 0 rfl) ?_
      refine lv_iload_n hx hb dX8_bar_26 rfl (lv_at hl 1 rfl) ?_
      refine rw_v (D := D) (wr := []) (va_runV (As := [.int (nI j_2)]) (rest := []) ⟨hx, hb, hml, hown, hts⟩ ((n_findWay l D k st lo a tx t0 we rd ru rw ca fp wd nu na ts df db sd dn se tm gs ffrees fprices fons fworths fstarts fends fgoesRound fbegin j_2 hdn hse htm (by first | assumption | omega) (by first | assumption | omega)) H.size) (cwV 1 hts (gV tw_1250 tw_1252 tw_49 tw_87 tw_1253) rfl rfl rfl (by decide +kernel) ⟨Nat.le_of_ble_eq_true rfl, Nat.le_of_ble_eq_true rfl⟩) (pV hS hAlo hlo hP hK (va_Dlo hD hAlo) hZ [0, 1, 2, 3, 4, 5, 6, 7, 8, 9, 10] (by decide +kernel) rfl (ci := 8) (q := (RX8, TX8, 44)) (q0 := 0) rfl rfl) rfl rfl hl.1 rfl (lv_room (Nat.le_of_ble_eq_true rfl)) dX8_bar_27 ⟨Nat.le_of_ble_eq_true rfl, Nat.le_of_ble_eq_true rfl⟩) hS hA hP hD [0, 1, 2, 3, 4, 5, 6, 7, 8, 9, 10] [] rfl rfl (by decide +kernel) (by decide +kernel) (fun u H locs hw_5 hP hD hS => ?_)
      obtain ⟨fons__5, fworths__5, fstarts__5, fends__5, fgoesRound__5, fbegin__5⟩ := u
      replace hP : va_P D classes [((a 0), .inr (8, (fX8 a (nI tx) fp (nI t0) wd (nI we) nu na (nI rd) ts (nI ru) (nI rw) (nI ca) df db sd))), (aI k (a 1) 3 (nF dn)), (aI k (a 4) 27 (sg se tm gs)), (aI k (a 2) 72 ffrees), (aI k (a 3) 72 fprices), (aI k (a 18) 768 fons__5), (aI k (a 19) 768 fworths__5), (aI k (a 20) 5 fstarts__5), (aI k (a 21) 4 fends__5), (aZ k (a 22) 4 fgoesRound__5), (aI k (a 23) 8 fbegin__5)] H := hP
      replace hD : va_D A [((a 0), .inr (8, (fX8 a (nI tx) fp (nI t0) wd (nI we) nu na (nI rd) ts (nI ru) (nI rw) (nI ca) df db sd))), (aI k (a 1) 3 (nF dn)), (aI k (a 4) 27 (sg se tm gs)), (aI k (a 2) 72 ffrees), (aI k (a 3) 72 fprices), (aI k (a 18) 768 fons__5), (aI k (a 19) 768 fworths__5), (aI k (a 20) 5 fstarts__5), (aI k (a 21) 4 fends__5), (aZ k (a 22) 4 fgoesRound__5), (aI k (a 23) 8 fbegin__5)] := hD
      try dsimp only at hw_5
      refine lv_aload_n hx hb dX8_bar_30 rfl (lv_at hl 0 rfl) ?_
      refine va_get (D := D) (ci := 8) (v := .ref (a 1)) (C := RX8) (T := TX8) (N := 44) hx hb hts inX8 hown hK hP 0 rfl rfl 0 (by decide) (hts _ tw_973) (fun _ h9 => h9) rfl dX8_bar_31 ?_
      refine lv_iload_n hx hb dX8_bar_34 rfl (lv_at hl 1 rfl) ?_
      refine va_iald hx hb hK hP 1 1 rfl rfl (vp_in_nI (by omega) (by decide)) dX8_bar_35 ?_
      refine lv_ti (y := (nI (dn j_2))) (by rw [nI_clamp (by omega)]; rfl) ?_
      refine lv_istore_n (lv' := [(3, .int (nI (dn j_2))), (0, .ref (a 0)), (1, .int (nI j_2)), (2, .int (nI j_4))]) hx hb dX8_bar_36 rfl hl (by decide) rfl (fun ls hl => ?_)
      refine lv_iconst (v := 0) hx hb dX8_bar_37 (by decide) ?_
      refine lv_istore (lv' := [(4, .int 0), (3, .int (nI (dn j_2))), (0, .ref (a 0)), (1, .int (nI j_2)), (2, .int (nI j_4))]) hx hb dX8_bar_38 hl (by decide) rfl (fun ls hl => ?_)
      refine W_loop (σ := Nat) (fun (n_ : Nat) (bb_6 : Nat) (H : Heap) (locs : List Loc) (ls : Array Slot) => n_ = dn j_2 + 1 - bb_6 ∧ (bb_6 ≤ dn j_2 + 1 ∧ ∀ b, b < bb_6 → ¬ isBa (dn j_2) (fun i => 2 ^ sqN (se j_2) (dn j_2) i) (fun i g => fM_taking dn se tm gs fprices j_2 i (nI j_4) ≤ fons__5 (192 * j_4 + 8 * i + g)) b) ∧ va_P D classes [((a 0), .inr (8, (fX8 a (nI tx) fp (nI t0) wd (nI we) nu na (nI rd) ts (nI ru) (nI rw) (nI ca) df db sd))), (aI k (a 1) 3 (nF dn)), (aI k (a 4) 27 (sg se tm gs)), (aI k (a 2) 72 ffrees), (aI k (a 3) 72 fprices), (aI k (a 18) 768 fons__5), (aI k (a 19) 768 fworths__5), (aI k (a 20) 5 fstarts__5), (aI k (a 21) 4 fends__5), (aZ k (a 22) 4 fgoesRound__5), (aI k (a 23) 8 fbegin__5)] H ∧ va_D A [((a 0), .inr (8, (fX8 a (nI tx) fp (nI t0) wd (nI we) nu na (nI rd) ts (nI ru) (nI rw) (nI ca) df db sd))), (aI k (a 1) 3 (nF dn)), (aI k (a 4) 27 (sg se tm gs)), (aI k (a 2) 72 ffrees), (aI k (a 3) 72 fprices), (aI k (a 18) 768 fons__5), (aI k (a 19) 768 fworths__5), (aI k (a 20) 5 fstarts__5), (aI k (a 21) 4 fends__5), (aZ k (a 22) 4 fgoesRound__5), (aI k (a 23) 8 fbegin__5)] ∧ va_S A s.heap H locs ∧ lv_has ls 8 [(4, .int (nI bb_6)), (3, .int (nI (dn j_2))), (0, .ref (a 0)), (1, .int (nI j_2)), (2, .int (nI j_4))]) (fun n_6 x_6 H locs ls hI ih_6 => ?_) _ 0 ⟨rfl, ⟨by omega, fun b h => absurd h (Nat.not_lt_zero b)⟩, hP, hD, hS, (lv_sub hl [0, 1, 2, 3, 4] rfl)⟩
      obtain ⟨bb_6, rfl⟩ : ∃ z, z = x_6 := ⟨_, rfl⟩
      obtain ⟨hm_6, hv_6, hP, hD, hS, hl⟩ := hI
      subst hm_6
      refine lv_iload hx hb dX8_bar_40 (lv_at hl 0 rfl) ?_
      refine lv_iload_n hx hb dX8_bar_42 rfl (lv_at hl 1 rfl) ?_
      refine lv_icmp_gt (tgt := 138) hx hb dX8_bar_43 (by decide) (fun c_7 => ?_) (fun c_7 => ?_)
      · have c_7 := (nI_ltI (a := (dn j_2)) (b := bb_6) (by omega) (by omega)).mp c_7
        refine lv_iconst (v := (-1)) hx hb dX8_bar_138 (by decide) ?_
        have hP9 := hP.sub (ws' := [((a 0), .inr (8, (fX8 a (nI tx) fp (nI t0) wd (nI we) nu na (nI rd) ts (nI ru) (nI rw) (nI ca) df db sd))), (aI k (a 1) 3 (nF dn)), (aI k (a 4) 27 (sg se tm gs)), (aI k (a 2) 72 ffrees), (aI k (a 3) 72 fprices), (aI k (a 18) 768 fons__5), (aI k (a 19) 768 fworths__5), (aI k (a 20) 5 fstarts__5), (aI k (a 21) 4 fends__5), (aZ k (a 22) 4 fgoesRound__5), (aI k (a 23) 8 fbegin__5)]) [0, 1, 2, 3, 4, 5, 6, 7, 8, 9, 10] rfl
        have hD9 := hD.sub (ws' := [((a 0), .inr (8, (fX8 a (nI tx) fp (nI t0) wd (nI we) nu na (nI rd) ts (nI ru) (nI rw) (nI ca) df db sd))), (aI k (a 1) 3 (nF dn)), (aI k (a 4) 27 (sg se tm gs)), (aI k (a 2) 72 ffrees), (aI k (a 3) 72 fprices), (aI k (a 18) 768 fons__5), (aI k (a 19) 768 fworths__5), (aI k (a 20) 5 fstarts__5), (aI k (a 21) 4 fends__5), (aZ k (a 22) 4 fgoesRound__5), (aI k (a 23) 8 fbegin__5)]) [0, 1, 2, 3, 4, 5, 6, 7, 8, 9, 10] (by decide +kernel) rfl
        exact W.iret (v := (-1)) hx hb hr (fun t ht hW => ⟨⟨(-1), (fons__5, fworths__5, fstarts__5, fends__5, fgoesRound__5, fbegin__5), rfl, tq_at (s := j_2) (by omega) (show 0 < dn j_2 by omega) (bq_i (by omega) (by rw [rdM]; exact inr (by omega) (htm _)) (by rw [seM (hse _)]; exact baP_congr (fun i hi g hg => by rw [← mTake (dn := dn) (se := se) (tm := tm) (gs := gs) (ffr := ffrees) (fpr := fprices) (r := j_4) (show i < dn j_2 from hi), ← (wmw_of (wm_of (hse _) (htm _) hw_5) (show j_4 ≤ tmD (sdM dn (sg se tm gs) ffrees fprices j_2) by rw [tmM (htm _)]; omega) (show i < dn j_2 from hi) (show g < 2 ^ sqN (seD (sdM dn (sg se tm gs) ffrees fprices j_2)) (dn j_2) i by rw [seM (hse _)]; exact hg)).2]) (ba_no (n := dn j_2) (S := (fun i => 2 ^ sqN (se j_2) (dn j_2) i)) (T := (fun i g => fM_taking dn se tm gs fprices j_2 i (nI j_4) ≤ fons__5 (192 * j_4 + 8 * i + g))) (fun b hb => hv_6.2 b (by omega))))), by rw [ht]; exact hP9, hD9⟩, hS.F ht⟩) hS.2.2 dX8_bar_139
      · have c_7 : ¬ ((dn j_2) < bb_6) := fun h => c_7 ((nI_ltI (a := (dn j_2)) (b := bb_6) (by omega) (by omega)).mpr h)
        refine lv_iconst (v := 1) hx hb dX8_bar_46 (by decide) ?_
        refine lv_istore (lv' := [(5, .int 1), (4, .int (nI bb_6)), (3, .int (nI (dn j_2))), (0, .ref (a 0)), (1, .int (nI j_2)), (2, .int (nI j_4))]) hx hb dX8_bar_47 hl (by decide) rfl (fun ls hl => ?_)
        refine lv_iconst (v := 0) hx hb dX8_bar_49 (by decide) ?_
        refine lv_istore (lv' := [(6, .int 0), (5, .int 1), (4, .int (nI bb_6)), (3, .int (nI (dn j_2))), (0, .ref (a 0)), (1, .int (nI j_2)), (2, .int (nI j_4))]) hx hb dX8_bar_50 hl (by decide) rfl (fun ls hl => ?_)
        refine W_loop (σ := Nat × Int32) (fun (n_ : Nat) (x_ : Nat × Int32) (H : Heap) (locs : List Loc) (ls : Array Slot) => match x_ with | (ii_8, is_8) => n_ = dn j_2 - ii_8 ∧ (ii_8 ≤ dn j_2 ∧ (is_8 = 0 ∨ is_8 = 1) ∧ (is_8 = 1 → ∀ i, i < ii_8 → ∀ g, g < 2 ^ sqN (se j_2) (dn j_2) i → g % 2 = 1 → (fM_taking dn se tm gs fprices j_2 i (nI j_4) ≤ fons__5 (192 * j_4 + 8 * i + g) ↔ bb_6 ≤ i)) ∧ (is_8 = 0 → ¬ isBa (dn j_2) (fun i => 2 ^ sqN (se j_2) (dn j_2) i) (fun i g => fM_taking dn se tm gs fprices j_2 i (nI j_4) ≤ fons__5 (192 * j_4 + 8 * i + g)) bb_6)) ∧ va_P D classes [((a 0), .inr (8, (fX8 a (nI tx) fp (nI t0) wd (nI we) nu na (nI rd) ts (nI ru) (nI rw) (nI ca) df db sd))), (aI k (a 1) 3 (nF dn)), (aI k (a 4) 27 (sg se tm gs)), (aI k (a 2) 72 ffrees), (aI k (a 3) 72 fprices), (aI k (a 18) 768 fons__5), (aI k (a 19) 768 fworths__5), (aI k (a 20) 5 fstarts__5), (aI k (a 21) 4 fends__5), (aZ k (a 22) 4 fgoesRound__5), (aI k (a 23) 8 fbegin__5)] H ∧ va_D A [((a 0), .inr (8, (fX8 a (nI tx) fp (nI t0) wd (nI we) nu na (nI rd) ts (nI ru) (nI rw) (nI ca) df db sd))), (aI k (a 1) 3 (nF dn)), (aI k (a 4) 27 (sg se tm gs)), (aI k (a 2) 72 ffrees), (aI k (a 3) 72 fprices), (aI k (a 18) 768 fons__5), (aI k (a 19) 768 fworths__5), (aI k (a 20) 5 fstarts__5), (aI k (a 21) 4 fends__5), (aZ k (a 22) 4 fgoesRound__5), (aI k (a 23) 8 fbegin__5)] ∧ va_S A s.heap H locs ∧ lv_has ls 8 [(6, .int (nI ii_8)), (5, .int is_8), (4, .int (nI bb_6)), (3, .int (nI (dn j_2))), (0, .ref (a 0)), (1, .int (nI j_2)), (2, .int (nI j_4))]) (fun n_8 x_8 H locs ls hI ih_8 => ?_) _ (0, 1) ⟨rfl, ⟨by omega, .inr rfl, fun _ i h => absurd h (Nat.not_lt_zero i), fun h => absurd h (by decide)⟩, hP, hD, hS, (lv_sub hl [0, 1, 2, 3, 4, 5, 6] rfl)⟩
        obtain ⟨ii_8, is_8⟩ := x_8
        obtain ⟨hm_8, hv_8, hP, hD, hS, hl⟩ := hI
        subst hm_8
        refine lv_iload hx hb dX8_bar_52 (lv_at hl 0 rfl) ?_
        refine lv_iload_n hx hb dX8_bar_54 rfl (lv_at hl 3 rfl) ?_
        refine lv_icmp_ge (tgt := 124) hx hb dX8_bar_55 (by decide) (fun c_9 => ?_) (fun c_9 => ?_)
        · have c_9 := (nI_leI (a := (dn j_2)) (b := ii_8) (by omega) (by omega)).mp c_9
          refine lv_iload hx hb dX8_bar_124 (lv_at hl 1 rfl) ?_
          refine lv_if_eq (tgt := 132) hx hb dX8_bar_126 (by decide) (fun c_10 => ?_) (fun c_10 => ?_)
          · refine lv_iinc (v := (nI (bb_6 + 1))) (lv' := [(4, .int (nI (bb_6 + 1))), (6, .int (nI ii_8)), (5, .int is_8), (3, .int (nI (dn j_2))), (0, .ref (a 0)), (1, .int (nI j_2)), (2, .int (nI j_4))]) hx hb dX8_bar_132 hl (k := 2) rfl (nI_add bb_6 1) (by decide) rfl (fun ls hl => ?_)
            refine lv_goto (tgt := 40) hx hb dX8_bar_135 (by decide) ?_
            exact ih_6 _ (bb_6 + 1) _ _ _ (by omega) ⟨rfl, ⟨by omega, fun b h => by rcases (show b = bb_6 ∨ b < bb_6 by omega) with e | h9; subst e; exact hv_8.2.2.2 c_10; exact hv_6.2 b h9⟩, hP, hD, hS, (lv_sub hl [0, 3, 4, 5, 6] rfl)⟩
          · refine lv_iload hx hb dX8_bar_129 (lv_at hl 2 rfl) ?_
            have hii_8 : ii_8 = dn j_2 := by omega
            have hP9 := hP.sub (ws' := [((a 0), .inr (8, (fX8 a (nI tx) fp (nI t0) wd (nI we) nu na (nI rd) ts (nI ru) (nI rw) (nI ca) df db sd))), (aI k (a 1) 3 (nF dn)), (aI k (a 4) 27 (sg se tm gs)), (aI k (a 2) 72 ffrees), (aI k (a 3) 72 fprices), (aI k (a 18) 768 fons__5), (aI k (a 19) 768 fworths__5), (aI k (a 20) 5 fstarts__5), (aI k (a 21) 4 fends__5), (aZ k (a 22) 4 fgoesRound__5), (aI k (a 23) 8 fbegin__5)]) [0, 1, 2, 3, 4, 5, 6, 7, 8, 9, 10] rfl
            have hD9 := hD.sub (ws' := [((a 0), .inr (8, (fX8 a (nI tx) fp (nI t0) wd (nI we) nu na (nI rd) ts (nI ru) (nI rw) (nI ca) df db sd))), (aI k (a 1) 3 (nF dn)), (aI k (a 4) 27 (sg se tm gs)), (aI k (a 2) 72 ffrees), (aI k (a 3) 72 fprices), (aI k (a 18) 768 fons__5), (aI k (a 19) 768 fworths__5), (aI k (a 20) 5 fstarts__5), (aI k (a 21) 4 fends__5), (aZ k (a 22) 4 fgoesRound__5), (aI k (a 23) 8 fbegin__5)]) [0, 1, 2, 3, 4, 5, 6, 7, 8, 9, 10] (by decide +kernel) rfl
            exact W.iret (v := (nI bb_6)) hx hb hr (fun t ht hW => ⟨⟨(nI bb_6), (fons__5, fworths__5, fstarts__5, fends__5, fgoesRound__5, fbegin__5), rfl, tq_at (s := j_2) (by omega) (show 0 < dn j_2 by omega) (bq_i (by omega) (by rw [rdM]; exact inr (by omega) (htm _)) (by rw [seM (hse _)]; exact baP_congr (fun i hi g hg => by rw [← mTake (dn := dn) (se := se) (tm := tm) (gs := gs) (ffr := ffrees) (fpr := fprices) (r := j_4) (show i < dn j_2 from hi), ← (wmw_of (wm_of (hse _) (htm _) hw_5) (show j_4 ≤ tmD (sdM dn (sg se tm gs) ffrees fprices j_2) by rw [tmM (htm _)]; omega) (show i < dn j_2 from hi) (show g < 2 ^ sqN (seD (sdM dn (sg se tm gs) ffrees fprices j_2)) (dn j_2) i by rw [seM (hse _)]; exact hg)).2]) (ba_yes (n := dn j_2) (S := (fun i => 2 ^ sqN (se j_2) (dn j_2) i)) (T := (fun i g => fM_taking dn se tm gs fprices j_2 i (nI j_4) ≤ fons__5 (192 * j_4 + 8 * i + g))) (fun i hi => sq2 hi) (by omega) (fun i hi g hg ho => hv_8.2.2.1 (hv_8.2.1.resolve_left c_10) i (by omega) g hg ho)))), by rw [ht]; exact hP9, hD9⟩, hS.F ht⟩) hS.2.2 dX8_bar_131
        · have c_9 : ¬ ((dn j_2) ≤ ii_8) := fun h => c_9 ((nI_leI (a := (dn j_2)) (b := ii_8) (by omega) (by omega)).mpr h)
          refine lv_iconst (v := 1) hx hb dX8_bar_58 (by decide) ?_
          refine lv_istore (lv' := [(7, .int 1), (6, .int (nI ii_8)), (5, .int is_8), (4, .int (nI bb_6)), (3, .int (nI (dn j_2))), (0, .ref (a 0)), (1, .int (nI j_2)), (2, .int (nI j_4))]) hx hb dX8_bar_59 hl (by decide) rfl (fun ls hl => ?_)
          refine W_loop (σ := Nat × Int32) (fun (n_ : Nat) (x_ : Nat × Int32) (H : Heap) (locs : List Loc) (ls : Array Slot) => match x_ with | (gg_11, is_11) => n_ = 10 - gg_11 ∧ (gg_11 ≤ 9 ∧ gg_11 % 2 = 1 ∧ (is_11 = 0 ∨ is_11 = 1) ∧ (is_11 = 1 → (∀ i, i < ii_8 → ∀ g, g < 2 ^ sqN (se j_2) (dn j_2) i → g % 2 = 1 → (fM_taking dn se tm gs fprices j_2 i (nI j_4) ≤ fons__5 (192 * j_4 + 8 * i + g) ↔ bb_6 ≤ i)) ∧ ∀ g, g < gg_11 → g % 2 = 1 → (fM_taking dn se tm gs fprices j_2 ii_8 (nI j_4) ≤ fons__5 (192 * j_4 + 8 * ii_8 + g) ↔ bb_6 ≤ ii_8)) ∧ (is_11 = 0 → ¬ isBa (dn j_2) (fun i => 2 ^ sqN (se j_2) (dn j_2) i) (fun i g => fM_taking dn se tm gs fprices j_2 i (nI j_4) ≤ fons__5 (192 * j_4 + 8 * i + g)) bb_6)) ∧ va_P D classes [((a 0), .inr (8, (fX8 a (nI tx) fp (nI t0) wd (nI we) nu na (nI rd) ts (nI ru) (nI rw) (nI ca) df db sd))), (aI k (a 1) 3 (nF dn)), (aI k (a 4) 27 (sg se tm gs)), (aI k (a 2) 72 ffrees), (aI k (a 3) 72 fprices), (aI k (a 18) 768 fons__5), (aI k (a 19) 768 fworths__5), (aI k (a 20) 5 fstarts__5), (aI k (a 21) 4 fends__5), (aZ k (a 22) 4 fgoesRound__5), (aI k (a 23) 8 fbegin__5)] H ∧ va_D A [((a 0), .inr (8, (fX8 a (nI tx) fp (nI t0) wd (nI we) nu na (nI rd) ts (nI ru) (nI rw) (nI ca) df db sd))), (aI k (a 1) 3 (nF dn)), (aI k (a 4) 27 (sg se tm gs)), (aI k (a 2) 72 ffrees), (aI k (a 3) 72 fprices), (aI k (a 18) 768 fons__5), (aI k (a 19) 768 fworths__5), (aI k (a 20) 5 fstarts__5), (aI k (a 21) 4 fends__5), (aZ k (a 22) 4 fgoesRound__5), (aI k (a 23) 8 fbegin__5)] ∧ va_S A s.heap H locs ∧ lv_has ls 8 [(7, .int (nI gg_11)), (6, .int (nI ii_8)), (5, .int is_11), (4, .int (nI bb_6)), (3, .int (nI (dn j_2))), (0, .ref (a 0)), (1, .int (nI j_2)), (2, .int (nI j_4))]) (fun n_11 x_11 H locs ls hI ih_11 => ?_) _ (1, is_8) ⟨rfl, ⟨by omega, by omega, hv_8.2.1, fun h => ⟨hv_8.2.2.1 h, fun g hg ho => absurd hg (by omega)⟩, hv_8.2.2.2⟩, hP, hD, hS, (lv_sub hl [0, 1, 2, 3, 4, 5, 6, 7] rfl)⟩
          obtain ⟨gg_11, is_11⟩ := x_11
          obtain ⟨hm_11, hv_11, hP, hD, hS, hl⟩ := hI
          subst hm_11
          refine lv_iload hx hb dX8_bar_61 (lv_at hl 0 rfl) ?_
          refine lv_iconst (v := 1) hx hb dX8_bar_63 (by decide) ?_
          refine lv_aload_n hx hb dX8_bar_64 rfl (lv_at hl 5 rfl) ?_
          refine lv_iload_n hx hb dX8_bar_65 rfl (lv_at hl 6 rfl) ?_
          refine lv_iload hx hb dX8_bar_66 (lv_at hl 1 rfl) ?_
          refine ro_i (D := D) (va_runV (As := [.int (nI j_2), .int (nI ii_8)]) (rest := [.int 1, .int (nI gg_11)]) ⟨hx, hb, hml, hown, hts⟩ ((n_seen l D k st lo a tx t0 we rd ru rw ca fp wd nu na ts df db sd dn se tm gs j_2 ii_8 hdn hse (by first | assumption | omega) (by first | assumption | omega)) H.size) (cwV 2 hts (gV tw_1246 tw_1248 tw_48 tw_87 tw_1249) rfl rfl rfl (by decide +kernel) ⟨Nat.le_of_ble_eq_true rfl, Nat.le_of_ble_eq_true rfl⟩) (pV hS hAlo hlo hP hK (va_Dlo hD hAlo) hZ [0, 1, 2] (by decide) rfl (ci := 8) (q := (RX8, TX8, 44)) (q0 := 0) rfl rfl) rfl rfl hl.1 rfl (lv_room (Nat.le_of_ble_eq_true rfl)) dX8_bar_68 ⟨Nat.le_of_ble_eq_true rfl, Nat.le_of_ble_eq_true rfl⟩) hS hA hP (fun r_12 H locs hw_12 hP hS => ?_)
          try dsimp only at hw_12
          obtain ⟨sv_13, esv_13⟩ : ∃ z : Nat, z = sqN (se j_2) (dn j_2) ii_8 := ⟨_, rfl⟩
          rw [← esv_13] at hw_12
          subst hw_12
          have hsv_13 : sv_13 ≤ 3 ∧ sv_13 ≤ dn j_2 - ii_8 ∧ sv_13 ≤ se j_2 + 1 ∧ (0 < dn j_2 - ii_8 → 1 ≤ sv_13) := by have hse9 := hse j_2; rw [esv_13]; unfold sqN; omega
          have hpv_13 := p8 (show sv_13 ≤ 3 by omega)
          have hpe_13 : 2 ^ sv_13 = 2 ^ sqN (se j_2) (dn j_2) ii_8 := by rw [esv_13]
          refine lv_ishl hx hb dX8_bar_71 ?_
          refine lv_ti (y := (nI (2 ^ sv_13))) (shl1 sv_13 (by omega)) ?_
          refine lv_icmp_ge (tgt := 118) hx hb dX8_bar_72 (by decide) (fun c_14 => ?_) (fun c_14 => ?_)
          · have c_14 := (nI_leI (a := (2 ^ sv_13)) (b := gg_11) (by omega) (by omega)).mp c_14
            refine lv_iinc (v := (nI (ii_8 + 1))) (lv' := [(6, .int (nI (ii_8 + 1))), (7, .int (nI gg_11)), (5, .int is_11), (4, .int (nI bb_6)), (3, .int (nI (dn j_2))), (0, .ref (a 0)), (1, .int (nI j_2)), (2, .int (nI j_4))]) hx hb dX8_bar_118 hl (k := 1) rfl (nI_add ii_8 1) (by decide) rfl (fun ls hl => ?_)
            refine lv_goto (tgt := 52) hx hb dX8_bar_121 (by decide) ?_
            exact ih_8 _ (ii_8 + 1, is_11) _ _ _ (by omega) ⟨rfl, ⟨by omega, hv_11.2.2.1, fun h i hi g hg ho => by rcases (show i = ii_8 ∨ i < ii_8 by omega) with e | h9; subst e; exact (hv_11.2.2.2.1 h).2 g (by rw [← esv_13] at hg; omega) ho; exact (hv_11.2.2.2.1 h).1 i h9 g hg ho, hv_11.2.2.2.2⟩, hP, hD, hS, (lv_sub hl [0, 2, 3, 4, 5, 6, 7] rfl)⟩
          · have c_14 : ¬ ((2 ^ sv_13) ≤ gg_11) := fun h => c_14 ((nI_leI (a := (2 ^ sv_13)) (b := gg_11) (by omega) (by omega)).mpr h)
            refine lv_iload hx hb dX8_bar_75 (lv_at hl 2 rfl) ?_
            refine lv_if_eq (tgt := 109) hx hb dX8_bar_77 (by decide) (fun c_15 => ?_) (fun c_15 => ?_)
            · refine lv_iconst (v := 0) hx hb dX8_bar_109 (by decide) ?_
              refine lv_istore (lv' := [(5, .int 0), (7, .int (nI gg_11)), (6, .int (nI ii_8)), (4, .int (nI bb_6)), (3, .int (nI (dn j_2))), (0, .ref (a 0)), (1, .int (nI j_2)), (2, .int (nI j_4))]) hx hb dX8_bar_110 hl (by decide) rfl (fun ls hl => ?_)
              refine lv_iinc (v := (nI (gg_11 + 2))) (lv' := [(7, .int (nI (gg_11 + 2))), (5, .int 0), (6, .int (nI ii_8)), (4, .int (nI bb_6)), (3, .int (nI (dn j_2))), (0, .ref (a 0)), (1, .int (nI j_2)), (2, .int (nI j_4))]) hx hb dX8_bar_112 hl (k := 1) rfl (nI_add gg_11 2) (by decide) rfl (fun ls hl => ?_)
              refine lv_goto (tgt := 61) hx hb dX8_bar_115 (by decide) ?_
              exact ih_11 _ (gg_11 + 2, 0) _ _ _ (by omega) ⟨rfl, ⟨by omega, by omega, .inl rfl, fun h => absurd h (by decide), fun _ => hv_11.2.2.2.2 c_15⟩, hP, hD, hS, (lv_sub hl [0, 2, 1, 3, 4, 5, 6, 7] rfl)⟩
            · refine lv_aload_n hx hb dX8_bar_80 rfl (lv_at hl 5 rfl) ?_
              refine lv_iload_n hx hb dX8_bar_81 rfl (lv_at hl 6 rfl) ?_
              refine lv_iload_n hx hb dX8_bar_82 rfl (lv_at hl 7 rfl) ?_
              refine lv_iload hx hb dX8_bar_83 (lv_at hl 1 rfl) ?_
              refine lv_iload hx hb dX8_bar_85 (lv_at hl 0 rfl) ?_
              refine ro_i (D := D) (va_runV (As := [.int (nI j_2), .int (nI j_4), .int (nI ii_8), .int (nI gg_11)]) (rest := []) ⟨hx, hb, hml, hown, hts⟩ ((n_isTaking l D k st lo a tx t0 we rd ru rw ca fp wd nu na ts df db sd dn se tm gs fprices fons__5 j_2 j_4 ii_8 gg_11 (by first | assumption | omega) (by first | assumption | omega) (by first | assumption | omega) (by first | assumption | omega)) H.size) (cwV 4 hts (gV tw_1285 tw_1287 tw_54 tw_87 tw_1288) rfl rfl rfl (by decide +kernel) ⟨Nat.le_of_ble_eq_true rfl, Nat.le_of_ble_eq_true rfl⟩) (pV hS hAlo hlo hP hK (va_Dlo hD hAlo) hZ [0, 1, 2, 4, 5] (by decide) rfl (ci := 8) (q := (RX8, TX8, 44)) (q0 := 0) rfl rfl) rfl rfl hl.1 rfl (lv_room (Nat.le_of_ble_eq_true rfl)) dX8_bar_87 ⟨Nat.le_of_ble_eq_true rfl, Nat.le_of_ble_eq_true rfl⟩) hS hA hP (fun r_16 H locs hw_16 hP hS => ?_)
              try dsimp only at hw_16
              rcases hw_16 with ⟨rfl, hw_16⟩ | ⟨rfl, hw_16⟩
              · refine lv_iload hx hb dX8_bar_90 (lv_at hl 1 rfl) ?_
                refine lv_iload hx hb dX8_bar_92 (lv_at hl 3 rfl) ?_
                refine lv_icmp_lt (tgt := 101) hx hb dX8_bar_94 (by decide) (fun c_17 => ?_) (fun c_17 => ?_)
                · have c_17 := (nI_ltI (a := ii_8) (b := bb_6) (by omega) (by omega)).mp c_17
                  refine lv_iconst (v := 0) hx hb dX8_bar_101 (by decide) ?_
                  refine lv_icmp_ne (tgt := 109) hx hb dX8_bar_102 (by decide) (fun _ => ?_) (fun h => absurd h (by decide))
                  refine lv_iconst (v := 0) hx hb dX8_bar_109 (by decide) ?_
                  refine lv_istore (lv' := [(5, .int 0), (7, .int (nI gg_11)), (6, .int (nI ii_8)), (4, .int (nI bb_6)), (3, .int (nI (dn j_2))), (0, .ref (a 0)), (1, .int (nI j_2)), (2, .int (nI j_4))]) hx hb dX8_bar_110 hl (by decide) rfl (fun ls hl => ?_)
                  refine lv_iinc (v := (nI (gg_11 + 2))) (lv' := [(7, .int (nI (gg_11 + 2))), (5, .int 0), (6, .int (nI ii_8)), (4, .int (nI bb_6)), (3, .int (nI (dn j_2))), (0, .ref (a 0)), (1, .int (nI j_2)), (2, .int (nI j_4))]) hx hb dX8_bar_112 hl (k := 1) rfl (nI_add gg_11 2) (by decide) rfl (fun ls hl => ?_)
                  refine lv_goto (tgt := 61) hx hb dX8_bar_115 (by decide) ?_
                  have his_11 : is_11 = 1 := hv_11.2.2.1.resolve_left c_15
                  exact ih_11 _ (gg_11 + 2, 0) _ _ _ (by omega) ⟨rfl, ⟨by omega, by omega, .inl rfl, fun h => absurd h (by decide), fun _ => (fun k => absurd ((k ii_8 (by omega) gg_11 (show _ < 2 ^ _ by rw [← esv_13]; omega) hv_11.2.1).mp (show fM_taking dn se tm gs fprices j_2 ii_8 (nI j_4) ≤ fons__5 (192 * j_4 + 8 * ii_8 + gg_11) from hw_16.2)) (by omega))⟩, hP, hD, hS, (lv_sub hl [0, 2, 1, 3, 4, 5, 6, 7] rfl)⟩
                · have c_17 : ¬ (ii_8 < bb_6) := fun h => c_17 ((nI_ltI (a := ii_8) (b := bb_6) (by omega) (by omega)).mpr h)
                  refine lv_iconst (v := 1) hx hb dX8_bar_97 (by decide) ?_
                  refine lv_goto (tgt := 102) hx hb dX8_bar_98 (by decide) ?_
                  refine lv_icmp_ne (tgt := 109) hx hb dX8_bar_102 (by decide) (fun h => absurd (by decide) h) (fun _ => ?_)
                  refine lv_iconst (v := 1) hx hb dX8_bar_105 (by decide) ?_
                  refine lv_goto (tgt := 110) hx hb dX8_bar_106 (by decide) ?_
                  refine lv_istore (lv' := [(5, .int 1), (7, .int (nI gg_11)), (6, .int (nI ii_8)), (4, .int (nI bb_6)), (3, .int (nI (dn j_2))), (0, .ref (a 0)), (1, .int (nI j_2)), (2, .int (nI j_4))]) hx hb dX8_bar_110 hl (by decide) rfl (fun ls hl => ?_)
                  refine lv_iinc (v := (nI (gg_11 + 2))) (lv' := [(7, .int (nI (gg_11 + 2))), (5, .int 1), (6, .int (nI ii_8)), (4, .int (nI bb_6)), (3, .int (nI (dn j_2))), (0, .ref (a 0)), (1, .int (nI j_2)), (2, .int (nI j_4))]) hx hb dX8_bar_112 hl (k := 1) rfl (nI_add gg_11 2) (by decide) rfl (fun ls hl => ?_)
                  refine lv_goto (tgt := 61) hx hb dX8_bar_115 (by decide) ?_
                  have his_11 : is_11 = 1 := hv_11.2.2.1.resolve_left c_15
                  exact ih_11 _ (gg_11 + 2, 1) _ _ _ (by omega) ⟨rfl, ⟨by omega, by omega, .inr rfl, fun _ => ⟨(hv_11.2.2.2.1 his_11).1, fun g hg ho => by rcases (show g = gg_11 ∨ g < gg_11 by omega) with e | h9; rw [e]; exact ⟨fun _ => by omega, fun _ => (show fM_taking dn se tm gs fprices j_2 ii_8 (nI j_4) ≤ fons__5 (192 * j_4 + 8 * ii_8 + gg_11) from hw_16.2)⟩; exact (hv_11.2.2.2.1 his_11).2 g h9 ho⟩, fun h => absurd h (by decide)⟩, hP, hD, hS, (lv_sub hl [0, 2, 1, 3, 4, 5, 6, 7] rfl)⟩
              · refine lv_iload hx hb dX8_bar_90 (lv_at hl 1 rfl) ?_
                refine lv_iload hx hb dX8_bar_92 (lv_at hl 3 rfl) ?_
                refine lv_icmp_lt (tgt := 101) hx hb dX8_bar_94 (by decide) (fun c_18 => ?_) (fun c_18 => ?_)
                · have c_18 := (nI_ltI (a := ii_8) (b := bb_6) (by omega) (by omega)).mp c_18
                  refine lv_iconst (v := 0) hx hb dX8_bar_101 (by decide) ?_
                  refine lv_icmp_ne (tgt := 109) hx hb dX8_bar_102 (by decide) (fun h => absurd (by decide) h) (fun _ => ?_)
                  refine lv_iconst (v := 1) hx hb dX8_bar_105 (by decide) ?_
                  refine lv_goto (tgt := 110) hx hb dX8_bar_106 (by decide) ?_
                  refine lv_istore (lv' := [(5, .int 1), (7, .int (nI gg_11)), (6, .int (nI ii_8)), (4, .int (nI bb_6)), (3, .int (nI (dn j_2))), (0, .ref (a 0)), (1, .int (nI j_2)), (2, .int (nI j_4))]) hx hb dX8_bar_110 hl (by decide) rfl (fun ls hl => ?_)
                  refine lv_iinc (v := (nI (gg_11 + 2))) (lv' := [(7, .int (nI (gg_11 + 2))), (5, .int 1), (6, .int (nI ii_8)), (4, .int (nI bb_6)), (3, .int (nI (dn j_2))), (0, .ref (a 0)), (1, .int (nI j_2)), (2, .int (nI j_4))]) hx hb dX8_bar_112 hl (k := 1) rfl (nI_add gg_11 2) (by decide) rfl (fun ls hl => ?_)
                  refine lv_goto (tgt := 61) hx hb dX8_bar_115 (by decide) ?_
                  have his_11 : is_11 = 1 := hv_11.2.2.1.resolve_left c_15
                  exact ih_11 _ (gg_11 + 2, 1) _ _ _ (by omega) ⟨rfl, ⟨by omega, by omega, .inr rfl, fun _ => ⟨(hv_11.2.2.2.1 his_11).1, fun g hg ho => by rcases (show g = gg_11 ∨ g < gg_11 by omega) with e | h9; rw [e]; exact ⟨fun z => absurd z (show ¬ (fM_taking dn se tm gs fprices j_2 ii_8 (nI j_4) ≤ fons__5 (192 * j_4 + 8 * ii_8 + gg_11)) from fun z => hw_16 ⟨hv_11.2.1, z⟩), fun z => absurd z (by omega)⟩; exact (hv_11.2.2.2.1 his_11).2 g h9 ho⟩, fun h => absurd h (by decide)⟩, hP, hD, hS, (lv_sub hl [0, 2, 1, 3, 4, 5, 6, 7] rfl)⟩
                · have c_18 : ¬ (ii_8 < bb_6) := fun h => c_18 ((nI_ltI (a := ii_8) (b := bb_6) (by omega) (by omega)).mpr h)
                  refine lv_iconst (v := 1) hx hb dX8_bar_97 (by decide) ?_
                  refine lv_goto (tgt := 102) hx hb dX8_bar_98 (by decide) ?_
                  refine lv_icmp_ne (tgt := 109) hx hb dX8_bar_102 (by decide) (fun _ => ?_) (fun h => absurd h (by decide))
                  refine lv_iconst (v := 0) hx hb dX8_bar_109 (by decide) ?_
                  refine lv_istore (lv' := [(5, .int 0), (7, .int (nI gg_11)), (6, .int (nI ii_8)), (4, .int (nI bb_6)), (3, .int (nI (dn j_2))), (0, .ref (a 0)), (1, .int (nI j_2)), (2, .int (nI j_4))]) hx hb dX8_bar_110 hl (by decide) rfl (fun ls hl => ?_)
                  refine lv_iinc (v := (nI (gg_11 + 2))) (lv' := [(7, .int (nI (gg_11 + 2))), (5, .int 0), (6, .int (nI ii_8)), (4, .int (nI bb_6)), (3, .int (nI (dn j_2))), (0, .ref (a 0)), (1, .int (nI j_2)), (2, .int (nI j_4))]) hx hb dX8_bar_112 hl (k := 1) rfl (nI_add gg_11 2) (by decide) rfl (fun ls hl => ?_)
                  refine lv_goto (tgt := 61) hx hb dX8_bar_115 (by decide) ?_
                  have his_11 : is_11 = 1 := hv_11.2.2.1.resolve_left c_15
                  exact ih_11 _ (gg_11 + 2, 0) _ _ _ (by omega) ⟨rfl, ⟨by omega, by omega, .inl rfl, fun h => absurd h (by decide), fun _ => (fun k => (show ¬ (fM_taking dn se tm gs fprices j_2 ii_8 (nI j_4) ≤ fons__5 (192 * j_4 + 8 * ii_8 + gg_11)) from fun z => hw_16 ⟨hv_11.2.1, z⟩) ((k ii_8 (by omega) gg_11 (show _ < 2 ^ _ by rw [← esv_13]; omega) hv_11.2.1).mpr (by omega)))⟩, hP, hD, hS, (lv_sub hl [0, 2, 1, 3, 4, 5, 6, 7] rfl)⟩
    · refine lv_if_ne (tgt := 25) hx hb dX8_bar_18 (by decide) (fun h => absurd (by decide) h) (fun _ => ?_)
      refine lv_sipush (v := (-1002)) hx hb dX8_bar_21 (by decide) ?_
      have hP9 := hP.sub (ws' := [((a 0), .inr (8, (fX8 a (nI tx) fp (nI t0) wd (nI we) nu na (nI rd) ts (nI ru) (nI rw) (nI ca) df db sd))), (aI k (a 1) 3 (nF dn)), (aI k (a 4) 27 (sg se tm gs)), (aI k (a 2) 72 ffrees), (aI k (a 3) 72 fprices), (aI k (a 18) 768 fons), (aI k (a 19) 768 fworths), (aI k (a 20) 5 fstarts), (aI k (a 21) 4 fends), (aZ k (a 22) 4 fgoesRound), (aI k (a 23) 8 fbegin)]) [0, 1, 2, 3, 4, 5, 6, 7, 8, 9, 10] rfl
      have hD9 := hD.sub (ws' := [((a 0), .inr (8, (fX8 a (nI tx) fp (nI t0) wd (nI we) nu na (nI rd) ts (nI ru) (nI rw) (nI ca) df db sd))), (aI k (a 1) 3 (nF dn)), (aI k (a 4) 27 (sg se tm gs)), (aI k (a 2) 72 ffrees), (aI k (a 3) 72 fprices), (aI k (a 18) 768 fons), (aI k (a 19) 768 fworths), (aI k (a 20) 5 fstarts), (aI k (a 21) 4 fends), (aZ k (a 22) 4 fgoesRound), (aI k (a 23) 8 fbegin)]) [0, 1, 2, 3, 4, 5, 6, 7, 8, 9, 10] (by decide +kernel) rfl
      exact W.iret (v := (-1002)) hx hb hr (fun t ht hW => ⟨⟨(-1002), (fons, fworths, fstarts, fends, fgoesRound, fbegin), rfl, tq_at (s := j_2) (by omega) (show 0 < dn j_2 by omega) (bq_o (by rw [rdM]; exact hw_3)), by rw [ht]; exact hP9, hD9⟩, hS.F ht⟩) hS.2.2 dX8_bar_24
  · refine lv_if_ne (tgt := 12) hx hb dX8_bar_5 (by decide) (fun h => absurd (by decide) h) (fun _ => ?_)
    refine lv_sipush (v := (-1001)) hx hb dX8_bar_8 (by decide) ?_
    have hP9 := hP.sub (ws' := [((a 0), .inr (8, (fX8 a (nI tx) fp (nI t0) wd (nI we) nu na (nI rd) ts (nI ru) (nI rw) (nI ca) df db sd))), (aI k (a 1) 3 (nF dn)), (aI k (a 4) 27 (sg se tm gs)), (aI k (a 2) 72 ffrees), (aI k (a 3) 72 fprices), (aI k (a 18) 768 fons), (aI k (a 19) 768 fworths), (aI k (a 20) 5 fstarts), (aI k (a 21) 4 fends), (aZ k (a 22) 4 fgoesRound), (aI k (a 23) 8 fbegin)]) [0, 1, 2, 3, 4, 5, 6, 7, 8, 9, 10] rfl
    have hD9 := hD.sub (ws' := [((a 0), .inr (8, (fX8 a (nI tx) fp (nI t0) wd (nI we) nu na (nI rd) ts (nI ru) (nI rw) (nI ca) df db sd))), (aI k (a 1) 3 (nF dn)), (aI k (a 4) 27 (sg se tm gs)), (aI k (a 2) 72 ffrees), (aI k (a 3) 72 fprices), (aI k (a 18) 768 fons), (aI k (a 19) 768 fworths), (aI k (a 20) 5 fstarts), (aI k (a 21) 4 fends), (aZ k (a 22) 4 fgoesRound), (aI k (a 23) 8 fbegin)]) [0, 1, 2, 3, 4, 5, 6, 7, 8, 9, 10] (by decide +kernel) rfl
    exact W.iret (v := (-1001)) hx hb hr (fun t ht hW => ⟨⟨(-1001), (fons, fworths, fstarts, fends, fgoesRound, fbegin), rfl, tq_no (fun s h1 h2 h3 => hw_1 s h1 h2 h3), by rw [ht]; exact hP9, hD9⟩, hS.F ht⟩) hS.2.2 dX8_bar_11


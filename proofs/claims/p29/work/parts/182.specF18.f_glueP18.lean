theorem f_glueP18 : True := trivial
theorem wmw_of {d : SDt} {on wo sr en gr : Nat → Int32} {r i g : Nat} (h : wmOK d (seD d) (tmD d) 0 on wo sr en gr) (hr : r ≤ tmD d) (hi : i < d.1) (hg : g < 2 ^ sqN (seD d) d.1 i) : wo (192 * r + 8 * i + g) = wayW d r i g ∧ on (192 * r + 8 * i + g) = wayO d r i g := by
  obtain ⟨-, -, -, h4, h5⟩ := h r (Nat.zero_le r) hr
  rw [show 192 * r + 8 * i + g = slN r i g by unfold slN; omega]
  exact ⟨h5 i (Nat.zero_le i) hi g hg, h4 i (Nat.zero_le i) hi g hg⟩
theorem grd_1 {d : SDt} {r : Nat} {x : Int32} (h : x = grV d (seD d) (tmD d) r) (c : ¬ x = 0) : (1 : Int32) = if wayE d r < pGar d r then 1 else 0 := by
  rw [h] at c
  unfold grV at c
  by_cases q : pEr d (seD d) (tmD d) r < pGar d r
  · exact (if_pos q).symm
  · rw [if_neg q] at c
    exact absurd rfl c
theorem grd_0 {d : SDt} {r : Nat} {x : Int32} (h : x = grV d (seD d) (tmD d) r) (c : x = 0) : (0 : Int32) = if wayE d r < pGar d r then 1 else 0 := by
  rw [h] at c
  unfold grV at c
  by_cases q : pEr d (seD d) (tmD d) r < pGar d r
  · rw [if_pos q] at c
    exact absurd c (by decide)
  · exact (if_neg q).symm


set_option maxHeartbeats 4000000 in
set_option maxRecDepth 100000 in
theorem n_isSight (l : Launch) (D : va_G) (k : Nat → ClassId) (st : Nat → Nat) (lo : Nat) (a : Nat → Nat) (tx : Nat) (t0 : Nat) (we : Nat) (rd : Nat) (ru : Nat) (rw : Nat) (ca : Nat) (fp : Int32) (wd : Int64) (nu : Int32) (na : Int32) (ts : Int32) (df : Int32) (db : Int32) (sd : Int32) (dn : Nat → Nat) (se : Nat → Nat) (tm : Nat → Nat) (gs : Nat → Int32) (sn : Nat) (i : Nat) (pz : Int32) (hdn : ∀ j, dn j ≤ 24) (hse : ∀ j, se j ≤ 2) (hs : sn < 3) (hi : i < dn sn) : CRi l D k st lo yX8_isSight cX8_isSight 4 (some .boolean) ({ frames := 2, cells := 0, slots := 0, locals := 45 }) [.ref (a 0), .int (nI sn), .int (nI i), .int pz] [((a 0), .inr (8, (fX8 a (nI tx) fp (nI t0) wd (nI we) nu na (nI rd) ts (nI ru) (nI rw) (nI ca) df db sd))), (aI k (a 1) 3 (nF dn)), (aI k (a 4) 27 (sg se tm gs))] (fun r => (r = 1 ∧ ∃ j : Nat, j < 2 ^ sqN (se sn) (dn sn) i ∧ pz = nI j ∧ True) ∨ (r = 0 ∧ ∀ j, pz = nI j → ¬ j < 2 ^ sqN (se sn) (dn sn) i)) := by
  intro sz
  refine Met.ofW (cc := cX8_isSight) (maxL := 4) (ret := (some .boolean)) (by decide) rfl ?_
  intro p e s m args below meth c s₁ B hml hv
  obtain ⟨rfl, hsz, hlo, hP, hK, hDL, hZ⟩ := hv
  have hx := B.exec
  have hb := B.bytes
  have hr := B.returns
  have hts := WS_ts B.pre
  have hown : s.vm.findClass RX8 = some m.cls := findClass_of_methodNamed B.named
  have hlocks := B.notSynchronized
  subst hsz
  have hA : ∀ q : Nat, s.heap.size ≤ q → (fun q : Nat => s.heap.size ≤ q) q := fun _ h => h
  have hAlo : ∀ q : Nat, (fun q : Nat => s.heap.size ≤ q) q → lo ≤ q := fun q h => Nat.le_trans hlo h
  have hS : va_S (fun q : Nat => s.heap.size ≤ q) s.heap s.heap [] := va_S.rf
  have hl := lv_entry ([.ref (a 0), .int (nI sn), .int (nI i), .int pz]) (n := 4) (Nat.le_of_ble_eq_true rfl)
  rw [lg_entry_eq]
  generalize (lg_sl ([.ref (a 0), .int (nI sn), .int (nI i), .int pz]) ++ List.replicate (4 - (lg_sl ([.ref (a 0), .int (nI sn), .int (nI i), .int pz])).length) Slot.unset).toArray = ls at hl ⊢
  have hl : lv_has ls 4 [(0, .ref (a 0)), (1, .int (nI sn)), (2, .int (nI i)), (3, .int pz)] := hl
  have hd_9 := hdn sn
  have hd_8 := hse sn
  refine lv_iload_n hx hb dX8_isSight_0 rfl (lv_at hl 3 rfl) ?_
  refine lv_i2l (v := pz.toInt64) hx hb dX8_isSight_1 rfl ?_
  refine lv_lconst (v := (0 : Int32).toInt64) hx hb dX8_isSight_2 (by decide) ?_
  refine lv_iconst (v := 1) hx hb dX8_isSight_3 (by decide) ?_
  refine lv_aload_n hx hb dX8_isSight_4 rfl (lv_at hl 0 rfl) ?_
  refine lv_iload_n hx hb dX8_isSight_5 rfl (lv_at hl 1 rfl) ?_
  refine lv_iload_n hx hb dX8_isSight_6 rfl (lv_at hl 2 rfl) ?_
  refine ro_i (D := D) (va_runV (As := [.int (nI sn), .int (nI i)]) (rest := [.int 1, .long ((0 : Int32).toInt64), .long (pz.toInt64)]) ⟨hx, hb, hml, hown, hts⟩ ((n_seen l D k st lo a tx t0 we rd ru rw ca fp wd nu na ts df db sd dn se tm gs sn i hdn hse (by first | assumption | omega) (by first | assumption | omega)) s.heap.size) (cwV 2 hts (gV tw_1246 tw_1248 tw_48 tw_87 tw_1249) rfl rfl rfl (by decide +kernel) ⟨Nat.le_of_ble_eq_true rfl, Nat.le_of_ble_eq_true rfl⟩) (pV hS hAlo hlo hP hK hDL hZ [0, 1, 2] (by decide) rfl (ci := 8) (q := (RX8, TX8, 44)) (q0 := 0) rfl rfl) rfl rfl hl.1 rfl (lv_room (Nat.le_of_ble_eq_true rfl)) dX8_isSight_7 ⟨Nat.le_of_ble_eq_true rfl, Nat.le_of_ble_eq_true rfl⟩) hS hA hP (fun r_1 H locs hw_1 hP hS => ?_)
  try dsimp only at hw_1
  obtain ⟨sv_2, esv_2⟩ : ∃ z : Nat, z = sqN (se sn) (dn sn) i := ⟨_, rfl⟩
  rw [← esv_2] at hw_1
  subst hw_1
  have hsv_2 : sv_2 ≤ 3 ∧ sv_2 ≤ dn sn - i ∧ sv_2 ≤ se sn + 1 ∧ (0 < dn sn - i → 1 ≤ sv_2) := by have hse9 := hse sn; rw [esv_2]; unfold sqN; omega
  have hpv_2 := p8 (show sv_2 ≤ 3 by omega)
  have hpe_2 : 2 ^ sv_2 = 2 ^ sqN (se sn) (dn sn) i := by rw [esv_2]
  refine lv_ishl hx hb dX8_isSight_10 ?_
  refine lv_ti (y := (nI (2 ^ sv_2))) (shl1 sv_2 (by omega)) ?_
  refine lv_iconst (v := 1) hx hb dX8_isSight_11 (by decide) ?_
  refine lv_isub hx hb dX8_isSight_12 ?_
  refine lv_topi (fun x_3 ex_3 => ?_)
  refine lv_i2l (v := x_3.toInt64) hx hb dX8_isSight_13 rfl ?_
  refine ro_i (D := D) (va_runS (As := [.long (pz.toInt64), .long ((0 : Int32).toInt64), .long (x_3.toInt64)]) (rest := []) ⟨hx, hb, hml, hown, hts⟩ ((k_in l D k st lo pz (0 : Int32) x_3) H.size) (va_cwS 3 hts (gS tw_1111 tw_1112 tw_87 tw_1113) rfl rfl rfl (by decide +kernel) ⟨Nat.le_of_ble_eq_true rfl, Nat.le_of_ble_eq_true rfl⟩) (pS hS hAlo hlo hP hK hDL hZ [] (by decide) rfl) rfl rfl hl.1 rfl (lv_room (Nat.le_of_ble_eq_true rfl)) dX8_isSight_14 ⟨Nat.le_of_ble_eq_true rfl, Nat.le_of_ble_eq_true rfl⟩) hS hA hP (fun r_4 H locs hw_4 hP hS => ?_)
  try dsimp only at hw_4
  rcases hw_4 with ⟨rfl, hw_4⟩ | ⟨rfl, hw_4⟩
  · exact W.zret (v := 1) (ty := .boolean) hx hb hr rfl (fun t ht hW => ⟨⟨1, (), rfl, .inl ⟨rfl, (by rw [ex_3] at hw_4; obtain ⟨j, hj, e⟩ := inB_of1 (by have h8 := (p8 (show sv_2 ≤ 3 by omega)).2; omega) hw_4; exact ⟨j, by rw [← esv_2]; exact hj, e, trivial⟩)⟩, trivial⟩, hS.F ht⟩) hS.2.2 dX8_isSight_17
  · exact W.zret (v := 0) (ty := .boolean) hx hb hr rfl (fun t ht hW => ⟨⟨0, (), rfl, .inr ⟨rfl, fun j e hj => hw_4 (by rw [e, ex_3]; exact in0n (by rw [esv_2]; exact hj) (by have h8 := (p8 (show sv_2 ≤ 3 by omega)).2; omega))⟩, trivial⟩, hS.F ht⟩) hS.2.2 dX8_isSight_17


set_option maxHeartbeats 4000000 in
set_option maxRecDepth 100000 in
theorem n_worth (l : Launch) (D : va_G) (k : Nat → ClassId) (st : Nat → Nat) (lo : Nat) (a : Nat → Nat) (tx : Nat) (t0 : Nat) (we : Nat) (rd : Nat) (ru : Nat) (rw : Nat) (ca : Nat) (fp : Int32) (wd : Int64) (nu : Int32) (na : Int32) (ts : Int32) (df : Int32) (db : Int32) (sd : Int32) (dn : Nat → Nat) (se : Nat → Nat) (tm : Nat → Nat) (gs : Nat → Int32) (ffrees : Nat → Int32) (fprices : Nat → Int32) (fons : Nat → Int32) (fworths : Nat → Int32) (fstarts : Nat → Int32) (fends : Nat → Int32) (fgoesRound : Nat → Int32) (fbegin : Nat → Int32) (p0 : Int32) (p1 : Int32) (p2 : Int32) (p3 : Int32) (hdn : ∀ j, dn j ≤ 24) (hse : ∀ j, se j ≤ 2) (htm : ∀ j, tm j ≤ 3) : CWi l D k st lo yX8_worth cX8_worth 5 (some .int) ({ frames := 6, cells := 0, slots := 0, locals := 144 }) 0 0 [.ref (a 0), .int p0, .int p1, .int p2, .int p3] [((a 0), .inr (8, (fX8 a (nI tx) fp (nI t0) wd (nI we) nu na (nI rd) ts (nI ru) (nI rw) (nI ca) df db sd))), (aI k (a 1) 3 (nF dn)), (aI k (a 4) 27 (sg se tm gs)), (aI k (a 2) 72 ffrees), (aI k (a 3) 72 fprices), (aI k (a 18) 768 fons), (aI k (a 19) 768 fworths), (aI k (a 20) 5 fstarts), (aI k (a 21) 4 fends), (aZ k (a 22) 4 fgoesRound), (aI k (a 23) 8 fbegin)] (fun (r : Int32) (u : (Nat → Int32) × (Nat → Int32) × (Nat → Int32) × (Nat → Int32) × (Nat → Int32) × (Nat → Int32)) => match u with | (fons_, fworths_, fstarts_, fends_, fgoesRound_, fbegin_) => dqP (sdM dn (sg se tm gs) ffrees fprices) p0 p2 (siA p1 p3 woA) r) (fun (u : (Nat → Int32) × (Nat → Int32) × (Nat → Int32) × (Nat → Int32) × (Nat → Int32) × (Nat → Int32)) => match u with | (fons_, fworths_, fstarts_, fends_, fgoesRound_, fbegin_) => [((a 0), .inr (8, (fX8 a (nI tx) fp (nI t0) wd (nI we) nu na (nI rd) ts (nI ru) (nI rw) (nI ca) df db sd))), (aI k (a 1) 3 (nF dn)), (aI k (a 4) 27 (sg se tm gs)), (aI k (a 2) 72 ffrees), (aI k (a 3) 72 fprices), (aI k (a 18) 768 fons_), (aI k (a 19) 768 fworths_), (aI k (a 20) 5 fstarts_), (aI k (a 21) 4 fends_), (aZ k (a 22) 4 fgoesRound_), (aI k (a 23) 8 fbegin_)]) := by
  intro sz
  refine Met.ofW (cc := cX8_worth) (maxL := 5) (ret := (some .int)) (by decide) rfl ?_
  intro p e s m args below meth c s₁ B hml hv
  obtain ⟨rfl, hsz, hlo, hP, hK, hDL, hZ⟩ := hv
  have hx := B.exec
  have hb := B.bytes
  have hr := B.returns
  have hts := WS_ts B.pre
  have hown : s.vm.findClass RX8 = some m.cls := findClass_of_methodNamed B.named
  have hlocks := B.notSynchronized
  subst hsz
  have hD := hDL.self (sz := s.heap.size)
  have hAlo := A_lo hDL hlo
  generalize hAe : va_A [((a 0), .inr (8, (fX8 a (nI tx) fp (nI t0) wd (nI we) nu na (nI rd) ts (nI ru) (nI rw) (nI ca) df db sd))), (aI k (a 1) 3 (nF dn)), (aI k (a 4) 27 (sg se tm gs)), (aI k (a 2) 72 ffrees), (aI k (a 3) 72 fprices), (aI k (a 18) 768 fons), (aI k (a 19) 768 fworths), (aI k (a 20) 5 fstarts), (aI k (a 21) 4 fends), (aZ k (a 22) 4 fgoesRound), (aI k (a 23) 8 fbegin)] s.heap.size = A at hD hAlo ⊢
  have hA : ∀ q : Nat, s.heap.size ≤ q → A q := fun q h => by rw [← hAe]; exact Or.inr h
  have hS : va_S A s.heap s.heap [] := va_S.rf
  have hl := lv_entry ([.ref (a 0), .int p0, .int p1, .int p2, .int p3]) (n := 5) (Nat.le_of_ble_eq_true rfl)
  rw [lg_entry_eq]
  generalize (lg_sl ([.ref (a 0), .int p0, .int p1, .int p2, .int p3]) ++ List.replicate (5 - (lg_sl ([.ref (a 0), .int p0, .int p1, .int p2, .int p3])).length) Slot.unset).toArray = ls at hl ⊢
  have hl : lv_has ls 5 [(0, .ref (a 0)), (1, .int p0), (2, .int p1), (3, .int p2), (4, .int p3)] := hl
  refine lv_aload_n hx hb dX8_worth_0 rfl (lv_at hl 0 rfl) ?_
  refine lv_iload_n hx hb dX8_worth_1 rfl (lv_at hl 1 rfl) ?_
  refine ro_i (D := D) (va_runV (As := [.int p0]) (rest := []) ⟨hx, hb, hml, hown, hts⟩ ((n_isStreet l D k st lo a tx t0 we rd ru rw ca fp wd nu na ts df db sd dn p0 hdn) s.heap.size) (cwV 1 hts (gV tw_1189 tw_1191 tw_38 tw_87 tw_1192) rfl rfl rfl (by decide +kernel) ⟨Nat.le_of_ble_eq_true rfl, Nat.le_of_ble_eq_true rfl⟩) (pV hS hAlo hlo hP hK (va_Dlo hD hAlo) hZ [0, 1] (by decide) rfl (ci := 8) (q := (RX8, TX8, 44)) (q0 := 0) rfl rfl) rfl rfl hl.1 rfl (lv_room (Nat.le_of_ble_eq_true rfl)) dX8_worth_2 ⟨Nat.le_of_ble_eq_true rfl, Nat.le_of_ble_eq_true rfl⟩) hS hA hP (fun r_1 H locs hw_1 hP hS => ?_)
  try dsimp only at hw_1
  rcases hw_1 with ⟨rfl, j_2, hj_2, rfl, hw_1⟩ | ⟨rfl, hw_1⟩
  · have hdj_2 := hdn j_2
    have htj_2 := htm j_2
    refine lv_if_eq (tgt := 17) hx hb dX8_worth_5 (by decide) (fun h => absurd h (by decide)) (fun _ => ?_)
    refine lv_aload_n hx hb dX8_worth_8 rfl (lv_at hl 0 rfl) ?_
    refine lv_iload_n hx hb dX8_worth_9 rfl (lv_at hl 1 rfl) ?_
    refine lv_iload_n hx hb dX8_worth_10 rfl (lv_at hl 3 rfl) ?_
    refine ro_i (D := D) (va_runV (As := [.int (nI j_2), .int p2]) (rest := []) ⟨hx, hb, hml, hown, hts⟩ ((n_isDoor l D k st lo a tx t0 we rd ru rw ca fp wd nu na ts df db sd dn j_2 p2 hdn (by first | assumption | omega)) H.size) (cwV 2 hts (gV tw_1202 tw_1204 tw_40 tw_87 tw_1205) rfl rfl rfl (by decide +kernel) ⟨Nat.le_of_ble_eq_true rfl, Nat.le_of_ble_eq_true rfl⟩) (pV hS hAlo hlo hP hK (va_Dlo hD hAlo) hZ [0, 1] (by decide) rfl (ci := 8) (q := (RX8, TX8, 44)) (q0 := 0) rfl rfl) rfl rfl hl.1 rfl (lv_room (Nat.le_of_ble_eq_true rfl)) dX8_worth_11 ⟨Nat.le_of_ble_eq_true rfl, Nat.le_of_ble_eq_true rfl⟩) hS hA hP (fun r_3 H locs hw_3 hP hS => ?_)
    try dsimp only at hw_3
    rcases hw_3 with ⟨rfl, j_4, hj_4, rfl, hw_3⟩ | ⟨rfl, hw_3⟩
    · refine lv_if_ne (tgt := 21) hx hb dX8_worth_14 (by decide) (fun _ => ?_) (fun h => absurd h (by decide))
      refine lv_aload_n hx hb dX8_worth_21 rfl (lv_at hl 0 rfl) ?_
      refine lv_iload_n hx hb dX8_worth_22 rfl (lv_at hl 1 rfl) ?_
      refine lv_iload_n hx hb dX8_worth_23 rfl (lv_at hl 2 rfl) ?_
      refine ro_i (D := D) (va_runV (As := [.int (nI j_2), .int p1]) (rest := []) ⟨hx, hb, hml, hown, hts⟩ ((n_isRound l D k st lo a tx t0 we rd ru rw ca fp wd nu na ts df db sd se tm gs j_2 p1 htm (by first | assumption | omega)) H.size) (cwV 2 hts (gV tw_1218 tw_1220 tw_42 tw_87 tw_1221) rfl rfl rfl (by decide +kernel) ⟨Nat.le_of_ble_eq_true rfl, Nat.le_of_ble_eq_true rfl⟩) (pV hS hAlo hlo hP hK (va_Dlo hD hAlo) hZ [0, 2] (by decide) rfl (ci := 8) (q := (RX8, TX8, 44)) (q0 := 0) rfl rfl) rfl rfl hl.1 rfl (lv_room (Nat.le_of_ble_eq_true rfl)) dX8_worth_24 ⟨Nat.le_of_ble_eq_true rfl, Nat.le_of_ble_eq_true rfl⟩) hS hA hP (fun r_5 H locs hw_5 hP hS => ?_)
      try dsimp only at hw_5
      rcases hw_5 with ⟨rfl, j_6, hj_6, rfl, hw_5⟩ | ⟨rfl, hw_5⟩
      · refine lv_if_eq (tgt := 41) hx hb dX8_worth_27 (by decide) (fun h => absurd h (by decide)) (fun _ => ?_)
        refine lv_aload_n hx hb dX8_worth_30 rfl (lv_at hl 0 rfl) ?_
        refine lv_iload_n hx hb dX8_worth_31 rfl (lv_at hl 1 rfl) ?_
        refine lv_iload_n hx hb dX8_worth_32 rfl (lv_at hl 3 rfl) ?_
        refine lv_iload hx hb dX8_worth_33 (lv_at hl 4 rfl) ?_
        refine ro_i (D := D) (va_runV (As := [.int (nI j_2), .int (nI j_4), .int p3]) (rest := []) ⟨hx, hb, hml, hown, hts⟩ ((n_isSight l D k st lo a tx t0 we rd ru rw ca fp wd nu na ts df db sd dn se tm gs j_2 j_4 p3 hdn hse (by first | assumption | omega) (by first | assumption | omega)) H.size) (cwV 3 hts (gV tw_1242 tw_1244 tw_47 tw_87 tw_1245) rfl rfl rfl (by decide +kernel) ⟨Nat.le_of_ble_eq_true rfl, Nat.le_of_ble_eq_true rfl⟩) (pV hS hAlo hlo hP hK (va_Dlo hD hAlo) hZ [0, 1, 2] (by decide) rfl (ci := 8) (q := (RX8, TX8, 44)) (q0 := 0) rfl rfl) rfl rfl hl.1 rfl (lv_room (Nat.le_of_ble_eq_true rfl)) dX8_worth_35 ⟨Nat.le_of_ble_eq_true rfl, Nat.le_of_ble_eq_true rfl⟩) hS hA hP (fun r_7 H locs hw_7 hP hS => ?_)
        try dsimp only at hw_7
        rcases hw_7 with ⟨rfl, j_8, hj_8, rfl, hw_7⟩ | ⟨rfl, hw_7⟩
        · have hg8_8 : j_8 < 8 := by have h8 := (p8 (sq_le (see := se j_2) (n := dn j_2) (i := j_4) (hse _))).2; omega
          refine lv_if_ne (tgt := 45) hx hb dX8_worth_38 (by decide) (fun _ => ?_) (fun h => absurd h (by decide))
          refine lv_aload_n hx hb dX8_worth_45 rfl (lv_at hl 0 rfl) ?_
          refine lv_iload_n hx hb dX8_worth_46 rfl (lv_at hl 1 rfl) ?_
          refine rw_v (D := D) (wr := []) (va_runV (As := [.int (nI j_2)]) (rest := []) ⟨hx, hb, hml, hown, hts⟩ ((n_findWay l D k st lo a tx t0 we rd ru rw ca fp wd nu na ts df db sd dn se tm gs ffrees fprices fons fworths fstarts fends fgoesRound fbegin j_2 hdn hse htm (by first | assumption | omega) (by first | assumption | omega)) H.size) (cwV 1 hts (gV tw_1250 tw_1252 tw_49 tw_87 tw_1253) rfl rfl rfl (by decide +kernel) ⟨Nat.le_of_ble_eq_true rfl, Nat.le_of_ble_eq_true rfl⟩) (pV hS hAlo hlo hP hK (va_Dlo hD hAlo) hZ [0, 1, 2, 3, 4, 5, 6, 7, 8, 9, 10] (by decide +kernel) rfl (ci := 8) (q := (RX8, TX8, 44)) (q0 := 0) rfl rfl) rfl rfl hl.1 rfl (lv_room (Nat.le_of_ble_eq_true rfl)) dX8_worth_47 ⟨Nat.le_of_ble_eq_true rfl, Nat.le_of_ble_eq_true rfl⟩) hS hA hP hD [0, 1, 2, 3, 4, 5, 6, 7, 8, 9, 10] [] rfl rfl (by decide +kernel) (by decide +kernel) (fun u H locs hw_9 hP hD hS => ?_)
          obtain ⟨fons__9, fworths__9, fstarts__9, fends__9, fgoesRound__9, fbegin__9⟩ := u
          replace hP : va_P D classes [((a 0), .inr (8, (fX8 a (nI tx) fp (nI t0) wd (nI we) nu na (nI rd) ts (nI ru) (nI rw) (nI ca) df db sd))), (aI k (a 1) 3 (nF dn)), (aI k (a 4) 27 (sg se tm gs)), (aI k (a 2) 72 ffrees), (aI k (a 3) 72 fprices), (aI k (a 18) 768 fons__9), (aI k (a 19) 768 fworths__9), (aI k (a 20) 5 fstarts__9), (aI k (a 21) 4 fends__9), (aZ k (a 22) 4 fgoesRound__9), (aI k (a 23) 8 fbegin__9)] H := hP
          replace hD : va_D A [((a 0), .inr (8, (fX8 a (nI tx) fp (nI t0) wd (nI we) nu na (nI rd) ts (nI ru) (nI rw) (nI ca) df db sd))), (aI k (a 1) 3 (nF dn)), (aI k (a 4) 27 (sg se tm gs)), (aI k (a 2) 72 ffrees), (aI k (a 3) 72 fprices), (aI k (a 18) 768 fons__9), (aI k (a 19) 768 fworths__9), (aI k (a 20) 5 fstarts__9), (aI k (a 21) 4 fends__9), (aZ k (a 22) 4 fgoesRound__9), (aI k (a 23) 8 fbegin__9)] := hD
          try dsimp only at hw_9
          refine lv_aload_n hx hb dX8_worth_50 rfl (lv_at hl 0 rfl) ?_
          refine va_get (D := D) (ci := 8) (v := .ref (a 19)) (C := RX8) (T := TX8) (N := 44) hx hb hts inX8 hown hK hP 0 rfl rfl 18 (by decide) (hts _ tw_991) (fun _ h9 => h9) rfl dX8_worth_51 ?_
          refine lv_iload_n hx hb dX8_worth_54 rfl (lv_at hl 2 rfl) ?_
          refine lv_iload_n hx hb dX8_worth_55 rfl (lv_at hl 3 rfl) ?_
          refine lv_iload hx hb dX8_worth_56 (lv_at hl 4 rfl) ?_
          refine ro_i (D := D) (va_runS (As := [.int (nI j_6), .int (nI j_4), .int (nI j_8)]) (rest := [.ref (a 19)]) ⟨hx, hb, hml, hown, hts⟩ ((m_at l D k st lo j_6 j_4 j_8) H.size) (va_cwS 3 hts (gS tw_1266 tw_1267 tw_87 tw_1268) rfl rfl rfl (by decide +kernel) ⟨Nat.le_of_ble_eq_true rfl, Nat.le_of_ble_eq_true rfl⟩) (pS hS hAlo hlo hP hK (va_Dlo hD hAlo) hZ [] (by decide) rfl) rfl rfl hl.1 rfl (lv_room (Nat.le_of_ble_eq_true rfl)) dX8_worth_58 ⟨Nat.le_of_ble_eq_true rfl, Nat.le_of_ble_eq_true rfl⟩) hS hA hP (fun r_10 H locs hw_10 hP hS => ?_)
          try dsimp only at hw_10
          subst hw_10
          refine va_iald hx hb hK hP 6 1 rfl rfl (vp_in_nI (by omega) (by decide)) dX8_worth_61 ?_
          refine lv_ti (y := (fworths__9 (192 * j_6 + 8 * j_4 + j_8))) (by rw [nI_clamp (by omega)]) ?_
          have hP9 := hP.sub (ws' := [((a 0), .inr (8, (fX8 a (nI tx) fp (nI t0) wd (nI we) nu na (nI rd) ts (nI ru) (nI rw) (nI ca) df db sd))), (aI k (a 1) 3 (nF dn)), (aI k (a 4) 27 (sg se tm gs)), (aI k (a 2) 72 ffrees), (aI k (a 3) 72 fprices), (aI k (a 18) 768 fons__9), (aI k (a 19) 768 fworths__9), (aI k (a 20) 5 fstarts__9), (aI k (a 21) 4 fends__9), (aZ k (a 22) 4 fgoesRound__9), (aI k (a 23) 8 fbegin__9)]) [0, 1, 2, 3, 4, 5, 6, 7, 8, 9, 10] rfl
          have hD9 := hD.sub (ws' := [((a 0), .inr (8, (fX8 a (nI tx) fp (nI t0) wd (nI we) nu na (nI rd) ts (nI ru) (nI rw) (nI ca) df db sd))), (aI k (a 1) 3 (nF dn)), (aI k (a 4) 27 (sg se tm gs)), (aI k (a 2) 72 ffrees), (aI k (a 3) 72 fprices), (aI k (a 18) 768 fons__9), (aI k (a 19) 768 fworths__9), (aI k (a 20) 5 fstarts__9), (aI k (a 21) 4 fends__9), (aZ k (a 22) 4 fgoesRound__9), (aI k (a 23) 8 fbegin__9)]) [0, 1, 2, 3, 4, 5, 6, 7, 8, 9, 10] (by decide +kernel) rfl
          exact W.iret (v := (fworths__9 (192 * j_6 + 8 * j_4 + j_8))) hx hb hr (fun t ht hW => ⟨⟨(fworths__9 (192 * j_6 + 8 * j_4 + j_8)), (fons__9, fworths__9, fstarts__9, fends__9, fgoesRound__9, fbegin__9), rfl, dq_at (s := j_2) (by omega) (show dn j_2 ≤ 24 by omega) (show j_4 < dn j_2 by omega) (show siA (nI j_6) (nI j_8) woA (sdM dn (sg se tm gs) ffrees fprices j_2) j_4 _ from si_at (by rw [tmM (htm _)]; exact htm _) (by rw [seM (hse _)]; exact hse _) (by rw [tmM (htm _)]; omega) (by rw [seM (hse _)]; exact hj_8) (wmw_of (wm_of (hse _) (htm _) hw_9) (show j_6 ≤ tmD (sdM dn (sg se tm gs) ffrees fprices j_2) by rw [tmM (htm _)]; omega) (show j_4 < dn j_2 by omega) (show j_8 < 2 ^ sqN (seD (sdM dn (sg se tm gs) ffrees fprices j_2)) (dn j_2) j_4 by rw [seM (hse _)]; exact hj_8)).1), by rw [ht]; exact hP9, hD9⟩, hS.F ht⟩) hS.2.2 dX8_worth_62
        · refine lv_if_ne (tgt := 45) hx hb dX8_worth_38 (by decide) (fun h => absurd (by decide) h) (fun _ => ?_)
          refine lv_sipush (v := (-1002)) hx hb dX8_worth_41 (by decide) ?_
          have hP9 := hP.sub (ws' := [((a 0), .inr (8, (fX8 a (nI tx) fp (nI t0) wd (nI we) nu na (nI rd) ts (nI ru) (nI rw) (nI ca) df db sd))), (aI k (a 1) 3 (nF dn)), (aI k (a 4) 27 (sg se tm gs)), (aI k (a 2) 72 ffrees), (aI k (a 3) 72 fprices), (aI k (a 18) 768 fons), (aI k (a 19) 768 fworths), (aI k (a 20) 5 fstarts), (aI k (a 21) 4 fends), (aZ k (a 22) 4 fgoesRound), (aI k (a 23) 8 fbegin)]) [0, 1, 2, 3, 4, 5, 6, 7, 8, 9, 10] rfl
          have hD9 := hD.sub (ws' := [((a 0), .inr (8, (fX8 a (nI tx) fp (nI t0) wd (nI we) nu na (nI rd) ts (nI ru) (nI rw) (nI ca) df db sd))), (aI k (a 1) 3 (nF dn)), (aI k (a 4) 27 (sg se tm gs)), (aI k (a 2) 72 ffrees), (aI k (a 3) 72 fprices), (aI k (a 18) 768 fons), (aI k (a 19) 768 fworths), (aI k (a 20) 5 fstarts), (aI k (a 21) 4 fends), (aZ k (a 22) 4 fgoesRound), (aI k (a 23) 8 fbegin)]) [0, 1, 2, 3, 4, 5, 6, 7, 8, 9, 10] (by decide +kernel) rfl
          exact W.iret (v := (-1002)) hx hb hr (fun t ht hW => ⟨⟨(-1002), (fons, fworths, fstarts, fends, fgoesRound, fbegin), rfl, dq_at (s := j_2) (by omega) (show dn j_2 ≤ 24 by omega) (show j_4 < dn j_2 by omega) (show siA (nI j_6) p3 woA (sdM dn (sg se tm gs) ffrees fprices j_2) j_4 _ from si_no (fun rn g c => hw_7 g c.2.2.1 (by have h9 := c.2.2.2; rw [seM (hse _)] at h9; exact h9))), by rw [ht]; exact hP9, hD9⟩, hS.F ht⟩) hS.2.2 dX8_worth_44
      · refine lv_if_eq (tgt := 41) hx hb dX8_worth_27 (by decide) (fun _ => ?_) (fun h => absurd (by decide) h)
        refine lv_sipush (v := (-1002)) hx hb dX8_worth_41 (by decide) ?_
        have hP9 := hP.sub (ws' := [((a 0), .inr (8, (fX8 a (nI tx) fp (nI t0) wd (nI we) nu na (nI rd) ts (nI ru) (nI rw) (nI ca) df db sd))), (aI k (a 1) 3 (nF dn)), (aI k (a 4) 27 (sg se tm gs)), (aI k (a 2) 72 ffrees), (aI k (a 3) 72 fprices), (aI k (a 18) 768 fons), (aI k (a 19) 768 fworths), (aI k (a 20) 5 fstarts), (aI k (a 21) 4 fends), (aZ k (a 22) 4 fgoesRound), (aI k (a 23) 8 fbegin)]) [0, 1, 2, 3, 4, 5, 6, 7, 8, 9, 10] rfl
        have hD9 := hD.sub (ws' := [((a 0), .inr (8, (fX8 a (nI tx) fp (nI t0) wd (nI we) nu na (nI rd) ts (nI ru) (nI rw) (nI ca) df db sd))), (aI k (a 1) 3 (nF dn)), (aI k (a 4) 27 (sg se tm gs)), (aI k (a 2) 72 ffrees), (aI k (a 3) 72 fprices), (aI k (a 18) 768 fons), (aI k (a 19) 768 fworths), (aI k (a 20) 5 fstarts), (aI k (a 21) 4 fends), (aZ k (a 22) 4 fgoesRound), (aI k (a 23) 8 fbegin)]) [0, 1, 2, 3, 4, 5, 6, 7, 8, 9, 10] (by decide +kernel) rfl
        exact W.iret (v := (-1002)) hx hb hr (fun t ht hW => ⟨⟨(-1002), (fons, fworths, fstarts, fends, fgoesRound, fbegin), rfl, dq_at (s := j_2) (by omega) (show dn j_2 ≤ 24 by omega) (show j_4 < dn j_2 by omega) (show siA p1 p3 woA (sdM dn (sg se tm gs) ffrees fprices j_2) j_4 _ from si_no (fun rn g c => hw_5 (by rw [c.1]; exact inr (by have h9 := c.2.1; rw [tmM (htm _)] at h9; exact h9) (htm _)))), by rw [ht]; exact hP9, hD9⟩, hS.F ht⟩) hS.2.2 dX8_worth_44
    · refine lv_if_ne (tgt := 21) hx hb dX8_worth_14 (by decide) (fun h => absurd (by decide) h) (fun _ => ?_)
      refine lv_sipush (v := (-1001)) hx hb dX8_worth_17 (by decide) ?_
      have hP9 := hP.sub (ws' := [((a 0), .inr (8, (fX8 a (nI tx) fp (nI t0) wd (nI we) nu na (nI rd) ts (nI ru) (nI rw) (nI ca) df db sd))), (aI k (a 1) 3 (nF dn)), (aI k (a 4) 27 (sg se tm gs)), (aI k (a 2) 72 ffrees), (aI k (a 3) 72 fprices), (aI k (a 18) 768 fons), (aI k (a 19) 768 fworths), (aI k (a 20) 5 fstarts), (aI k (a 21) 4 fends), (aZ k (a 22) 4 fgoesRound), (aI k (a 23) 8 fbegin)]) [0, 1, 2, 3, 4, 5, 6, 7, 8, 9, 10] rfl
      have hD9 := hD.sub (ws' := [((a 0), .inr (8, (fX8 a (nI tx) fp (nI t0) wd (nI we) nu na (nI rd) ts (nI ru) (nI rw) (nI ca) df db sd))), (aI k (a 1) 3 (nF dn)), (aI k (a 4) 27 (sg se tm gs)), (aI k (a 2) 72 ffrees), (aI k (a 3) 72 fprices), (aI k (a 18) 768 fons), (aI k (a 19) 768 fworths), (aI k (a 20) 5 fstarts), (aI k (a 21) 4 fends), (aZ k (a 22) 4 fgoesRound), (aI k (a 23) 8 fbegin)]) [0, 1, 2, 3, 4, 5, 6, 7, 8, 9, 10] (by decide +kernel) rfl
      exact W.iret (v := (-1001)) hx hb hr (fun t ht hW => ⟨⟨(-1001), (fons, fworths, fstarts, fends, fgoesRound, fbegin), rfl, dq_no (fun s h1 h2 i h3 h4 => by have h9 := nI_inj (by omega) (by omega) h2; subst h9; exact hw_3 i h3 h4), by rw [ht]; exact hP9, hD9⟩, hS.F ht⟩) hS.2.2 dX8_worth_20
  · refine lv_if_eq (tgt := 17) hx hb dX8_worth_5 (by decide) (fun _ => ?_) (fun h => absurd (by decide) h)
    refine lv_sipush (v := (-1001)) hx hb dX8_worth_17 (by decide) ?_
    have hP9 := hP.sub (ws' := [((a 0), .inr (8, (fX8 a (nI tx) fp (nI t0) wd (nI we) nu na (nI rd) ts (nI ru) (nI rw) (nI ca) df db sd))), (aI k (a 1) 3 (nF dn)), (aI k (a 4) 27 (sg se tm gs)), (aI k (a 2) 72 ffrees), (aI k (a 3) 72 fprices), (aI k (a 18) 768 fons), (aI k (a 19) 768 fworths), (aI k (a 20) 5 fstarts), (aI k (a 21) 4 fends), (aZ k (a 22) 4 fgoesRound), (aI k (a 23) 8 fbegin)]) [0, 1, 2, 3, 4, 5, 6, 7, 8, 9, 10] rfl
    have hD9 := hD.sub (ws' := [((a 0), .inr (8, (fX8 a (nI tx) fp (nI t0) wd (nI we) nu na (nI rd) ts (nI ru) (nI rw) (nI ca) df db sd))), (aI k (a 1) 3 (nF dn)), (aI k (a 4) 27 (sg se tm gs)), (aI k (a 2) 72 ffrees), (aI k (a 3) 72 fprices), (aI k (a 18) 768 fons), (aI k (a 19) 768 fworths), (aI k (a 20) 5 fstarts), (aI k (a 21) 4 fends), (aZ k (a 22) 4 fgoesRound), (aI k (a 23) 8 fbegin)]) [0, 1, 2, 3, 4, 5, 6, 7, 8, 9, 10] (by decide +kernel) rfl
    exact W.iret (v := (-1001)) hx hb hr (fun t ht hW => ⟨⟨(-1001), (fons, fworths, fstarts, fends, fgoesRound, fbegin), rfl, dq_no (fun s h1 h2 i h3 h4 => hw_1 s h1 h2 (by show 0 < dn s; replace h4 : i < dn s := h4; omega)), by rw [ht]; exact hP9, hD9⟩, hS.F ht⟩) hS.2.2 dX8_worth_20


set_option maxHeartbeats 4000000 in
set_option maxRecDepth 100000 in
theorem n_goingOn (l : Launch) (D : va_G) (k : Nat → ClassId) (st : Nat → Nat) (lo : Nat) (a : Nat → Nat) (tx : Nat) (t0 : Nat) (we : Nat) (rd : Nat) (ru : Nat) (rw : Nat) (ca : Nat) (fp : Int32) (wd : Int64) (nu : Int32) (na : Int32) (ts : Int32) (df : Int32) (db : Int32) (sd : Int32) (dn : Nat → Nat) (se : Nat → Nat) (tm : Nat → Nat) (gs : Nat → Int32) (ffrees : Nat → Int32) (fprices : Nat → Int32) (fons : Nat → Int32) (fworths : Nat → Int32) (fstarts : Nat → Int32) (fends : Nat → Int32) (fgoesRound : Nat → Int32) (fbegin : Nat → Int32) (p0 : Int32) (p1 : Int32) (p2 : Int32) (p3 : Int32) (hdn : ∀ j, dn j ≤ 24) (hse : ∀ j, se j ≤ 2) (htm : ∀ j, tm j ≤ 3) : CWi l D k st lo yX8_goingOn cX8_goingOn 5 (some .int) ({ frames := 6, cells := 0, slots := 0, locals := 144 }) 0 0 [.ref (a 0), .int p0, .int p1, .int p2, .int p3] [((a 0), .inr (8, (fX8 a (nI tx) fp (nI t0) wd (nI we) nu na (nI rd) ts (nI ru) (nI rw) (nI ca) df db sd))), (aI k (a 1) 3 (nF dn)), (aI k (a 4) 27 (sg se tm gs)), (aI k (a 2) 72 ffrees), (aI k (a 3) 72 fprices), (aI k (a 18) 768 fons), (aI k (a 19) 768 fworths), (aI k (a 20) 5 fstarts), (aI k (a 21) 4 fends), (aZ k (a 22) 4 fgoesRound), (aI k (a 23) 8 fbegin)] (fun (r : Int32) (u : (Nat → Int32) × (Nat → Int32) × (Nat → Int32) × (Nat → Int32) × (Nat → Int32) × (Nat → Int32)) => match u with | (fons_, fworths_, fstarts_, fends_, fgoesRound_, fbegin_) => dqP (sdM dn (sg se tm gs) ffrees fprices) p0 p2 (siA p1 p3 goA) r) (fun (u : (Nat → Int32) × (Nat → Int32) × (Nat → Int32) × (Nat → Int32) × (Nat → Int32) × (Nat → Int32)) => match u with | (fons_, fworths_, fstarts_, fends_, fgoesRound_, fbegin_) => [((a 0), .inr (8, (fX8 a (nI tx) fp (nI t0) wd (nI we) nu na (nI rd) ts (nI ru) (nI rw) (nI ca) df db sd))), (aI k (a 1) 3 (nF dn)), (aI k (a 4) 27 (sg se tm gs)), (aI k (a 2) 72 ffrees), (aI k (a 3) 72 fprices), (aI k (a 18) 768 fons_), (aI k (a 19) 768 fworths_), (aI k (a 20) 5 fstarts_), (aI k (a 21) 4 fends_), (aZ k (a 22) 4 fgoesRound_), (aI k (a 23) 8 fbegin_)]) := by
  intro sz
  refine Met.ofW (cc := cX8_goingOn) (maxL := 5) (ret := (some .int)) (by decide) rfl ?_
  intro p e s m args below meth c s₁ B hml hv
  obtain ⟨rfl, hsz, hlo, hP, hK, hDL, hZ⟩ := hv
  have hx := B.exec
  have hb := B.bytes
  have hr := B.returns
  have hts := WS_ts B.pre
  have hown : s.vm.findClass RX8 = some m.cls := findClass_of_methodNamed B.named
  have hlocks := B.notSynchronized
  subst hsz
  have hD := hDL.self (sz := s.heap.size)
  have hAlo := A_lo hDL hlo
  generalize hAe : va_A [((a 0), .inr (8, (fX8 a (nI tx) fp (nI t0) wd (nI we) nu na (nI rd) ts (nI ru) (nI rw) (nI ca) df db sd))), (aI k (a 1) 3 (nF dn)), (aI k (a 4) 27 (sg se tm gs)), (aI k (a 2) 72 ffrees), (aI k (a 3) 72 fprices), (aI k (a 18) 768 fons), (aI k (a 19) 768 fworths), (aI k (a 20) 5 fstarts), (aI k (a 21) 4 fends), (aZ k (a 22) 4 fgoesRound), (aI k (a 23) 8 fbegin)] s.heap.size = A at hD hAlo ⊢
  have hA : ∀ q : Nat, s.heap.size ≤ q → A q := fun q h => by rw [← hAe]; exact Or.inr h
  have hS : va_S A s.heap s.heap [] := va_S.rf
  have hl := lv_entry ([.ref (a 0), .int p0, .int p1, .int p2, .int p3]) (n := 5) (Nat.le_of_ble_eq_true rfl)
  rw [lg_entry_eq]
  generalize (lg_sl ([.ref (a 0), .int p0, .int p1, .int p2, .int p3]) ++ List.replicate (5 - (lg_sl ([.ref (a 0), .int p0, .int p1, .int p2, .int p3])).length) Slot.unset).toArray = ls at hl ⊢
  have hl : lv_has ls 5 [(0, .ref (a 0)), (1, .int p0), (2, .int p1), (3, .int p2), (4, .int p3)] := hl
  refine lv_aload_n hx hb dX8_goingOn_0 rfl (lv_at hl 0 rfl) ?_
  refine lv_iload_n hx hb dX8_goingOn_1 rfl (lv_at hl 1 rfl) ?_
  refine ro_i (D := D) (va_runV (As := [.int p0]) (rest := []) ⟨hx, hb, hml, hown, hts⟩ ((n_isStreet l D k st lo a tx t0 we rd ru rw ca fp wd nu na ts df db sd dn p0 hdn) s.heap.size) (cwV 1 hts (gV tw_1189 tw_1191 tw_38 tw_87 tw_1192) rfl rfl rfl (by decide +kernel) ⟨Nat.le_of_ble_eq_true rfl, Nat.le_of_ble_eq_true rfl⟩) (pV hS hAlo hlo hP hK (va_Dlo hD hAlo) hZ [0, 1] (by decide) rfl (ci := 8) (q := (RX8, TX8, 44)) (q0 := 0) rfl rfl) rfl rfl hl.1 rfl (lv_room (Nat.le_of_ble_eq_true rfl)) dX8_goingOn_2 ⟨Nat.le_of_ble_eq_true rfl, Nat.le_of_ble_eq_true rfl⟩) hS hA hP (fun r_1 H locs hw_1 hP hS => ?_)
  try dsimp only at hw_1
  rcases hw_1 with ⟨rfl, j_2, hj_2, rfl, hw_1⟩ | ⟨rfl, hw_1⟩
  · have hdj_2 := hdn j_2
    have htj_2 := htm j_2
    refine lv_if_eq (tgt := 17) hx hb dX8_goingOn_5 (by decide) (fun h => absurd h (by decide)) (fun _ => ?_)
    refine lv_aload_n hx hb dX8_goingOn_8 rfl (lv_at hl 0 rfl) ?_
    refine lv_iload_n hx hb dX8_goingOn_9 rfl (lv_at hl 1 rfl) ?_
    refine lv_iload_n hx hb dX8_goingOn_10 rfl (lv_at hl 3 rfl) ?_
    refine ro_i (D := D) (va_runV (As := [.int (nI j_2), .int p2]) (rest := []) ⟨hx, hb, hml, hown, hts⟩ ((n_isDoor l D k st lo a tx t0 we rd ru rw ca fp wd nu na ts df db sd dn j_2 p2 hdn (by first | assumption | omega)) H.size) (cwV 2 hts (gV tw_1202 tw_1204 tw_40 tw_87 tw_1205) rfl rfl rfl (by decide +kernel) ⟨Nat.le_of_ble_eq_true rfl, Nat.le_of_ble_eq_true rfl⟩) (pV hS hAlo hlo hP hK (va_Dlo hD hAlo) hZ [0, 1] (by decide) rfl (ci := 8) (q := (RX8, TX8, 44)) (q0 := 0) rfl rfl) rfl rfl hl.1 rfl (lv_room (Nat.le_of_ble_eq_true rfl)) dX8_goingOn_11 ⟨Nat.le_of_ble_eq_true rfl, Nat.le_of_ble_eq_true rfl⟩) hS hA hP (fun r_3 H locs hw_3 hP hS => ?_)
    try dsimp only at hw_3
    rcases hw_3 with ⟨rfl, j_4, hj_4, rfl, hw_3⟩ | ⟨rfl, hw_3⟩
    · refine lv_if_ne (tgt := 21) hx hb dX8_goingOn_14 (by decide) (fun _ => ?_) (fun h => absurd h (by decide))
      refine lv_aload_n hx hb dX8_goingOn_21 rfl (lv_at hl 0 rfl) ?_
      refine lv_iload_n hx hb dX8_goingOn_22 rfl (lv_at hl 1 rfl) ?_
      refine lv_iload_n hx hb dX8_goingOn_23 rfl (lv_at hl 2 rfl) ?_
      refine ro_i (D := D) (va_runV (As := [.int (nI j_2), .int p1]) (rest := []) ⟨hx, hb, hml, hown, hts⟩ ((n_isRound l D k st lo a tx t0 we rd ru rw ca fp wd nu na ts df db sd se tm gs j_2 p1 htm (by first | assumption | omega)) H.size) (cwV 2 hts (gV tw_1218 tw_1220 tw_42 tw_87 tw_1221) rfl rfl rfl (by decide +kernel) ⟨Nat.le_of_ble_eq_true rfl, Nat.le_of_ble_eq_true rfl⟩) (pV hS hAlo hlo hP hK (va_Dlo hD hAlo) hZ [0, 2] (by decide) rfl (ci := 8) (q := (RX8, TX8, 44)) (q0 := 0) rfl rfl) rfl rfl hl.1 rfl (lv_room (Nat.le_of_ble_eq_true rfl)) dX8_goingOn_24 ⟨Nat.le_of_ble_eq_true rfl, Nat.le_of_ble_eq_true rfl⟩) hS hA hP (fun r_5 H locs hw_5 hP hS => ?_)
      try dsimp only at hw_5
      rcases hw_5 with ⟨rfl, j_6, hj_6, rfl, hw_5⟩ | ⟨rfl, hw_5⟩
      · refine lv_if_eq (tgt := 41) hx hb dX8_goingOn_27 (by decide) (fun h => absurd h (by decide)) (fun _ => ?_)
        refine lv_aload_n hx hb dX8_goingOn_30 rfl (lv_at hl 0 rfl) ?_
        refine lv_iload_n hx hb dX8_goingOn_31 rfl (lv_at hl 1 rfl) ?_
        refine lv_iload_n hx hb dX8_goingOn_32 rfl (lv_at hl 3 rfl) ?_
        refine lv_iload hx hb dX8_goingOn_33 (lv_at hl 4 rfl) ?_
        refine ro_i (D := D) (va_runV (As := [.int (nI j_2), .int (nI j_4), .int p3]) (rest := []) ⟨hx, hb, hml, hown, hts⟩ ((n_isSight l D k st lo a tx t0 we rd ru rw ca fp wd nu na ts df db sd dn se tm gs j_2 j_4 p3 hdn hse (by first | assumption | omega) (by first | assumption | omega)) H.size) (cwV 3 hts (gV tw_1242 tw_1244 tw_47 tw_87 tw_1245) rfl rfl rfl (by decide +kernel) ⟨Nat.le_of_ble_eq_true rfl, Nat.le_of_ble_eq_true rfl⟩) (pV hS hAlo hlo hP hK (va_Dlo hD hAlo) hZ [0, 1, 2] (by decide) rfl (ci := 8) (q := (RX8, TX8, 44)) (q0 := 0) rfl rfl) rfl rfl hl.1 rfl (lv_room (Nat.le_of_ble_eq_true rfl)) dX8_goingOn_35 ⟨Nat.le_of_ble_eq_true rfl, Nat.le_of_ble_eq_true rfl⟩) hS hA hP (fun r_7 H locs hw_7 hP hS => ?_)
        try dsimp only at hw_7
        rcases hw_7 with ⟨rfl, j_8, hj_8, rfl, hw_7⟩ | ⟨rfl, hw_7⟩
        · have hg8_8 : j_8 < 8 := by have h8 := (p8 (sq_le (see := se j_2) (n := dn j_2) (i := j_4) (hse _))).2; omega
          refine lv_if_ne (tgt := 45) hx hb dX8_goingOn_38 (by decide) (fun _ => ?_) (fun h => absurd h (by decide))
          refine lv_aload_n hx hb dX8_goingOn_45 rfl (lv_at hl 0 rfl) ?_
          refine lv_iload_n hx hb dX8_goingOn_46 rfl (lv_at hl 1 rfl) ?_
          refine rw_v (D := D) (wr := []) (va_runV (As := [.int (nI j_2)]) (rest := []) ⟨hx, hb, hml, hown, hts⟩ ((n_findWay l D k st lo a tx t0 we rd ru rw ca fp wd nu na ts df db sd dn se tm gs ffrees fprices fons fworths fstarts fends fgoesRound fbegin j_2 hdn hse htm (by first | assumption | omega) (by first | assumption | omega)) H.size) (cwV 1 hts (gV tw_1250 tw_1252 tw_49 tw_87 tw_1253) rfl rfl rfl (by decide +kernel) ⟨Nat.le_of_ble_eq_true rfl, Nat.le_of_ble_eq_true rfl⟩) (pV hS hAlo hlo hP hK (va_Dlo hD hAlo) hZ [0, 1, 2, 3, 4, 5, 6, 7, 8, 9, 10] (by decide +kernel) rfl (ci := 8) (q := (RX8, TX8, 44)) (q0 := 0) rfl rfl) rfl rfl hl.1 rfl (lv_room (Nat.le_of_ble_eq_true rfl)) dX8_goingOn_47 ⟨Nat.le_of_ble_eq_true rfl, Nat.le_of_ble_eq_true rfl⟩) hS hA hP hD [0, 1, 2, 3, 4, 5, 6, 7, 8, 9, 10] [] rfl rfl (by decide +kernel) (by decide +kernel) (fun u H locs hw_9 hP hD hS => ?_)
          obtain ⟨fons__9, fworths__9, fstarts__9, fends__9, fgoesRound__9, fbegin__9⟩ := u
          replace hP : va_P D classes [((a 0), .inr (8, (fX8 a (nI tx) fp (nI t0) wd (nI we) nu na (nI rd) ts (nI ru) (nI rw) (nI ca) df db sd))), (aI k (a 1) 3 (nF dn)), (aI k (a 4) 27 (sg se tm gs)), (aI k (a 2) 72 ffrees), (aI k (a 3) 72 fprices), (aI k (a 18) 768 fons__9), (aI k (a 19) 768 fworths__9), (aI k (a 20) 5 fstarts__9), (aI k (a 21) 4 fends__9), (aZ k (a 22) 4 fgoesRound__9), (aI k (a 23) 8 fbegin__9)] H := hP
          replace hD : va_D A [((a 0), .inr (8, (fX8 a (nI tx) fp (nI t0) wd (nI we) nu na (nI rd) ts (nI ru) (nI rw) (nI ca) df db sd))), (aI k (a 1) 3 (nF dn)), (aI k (a 4) 27 (sg se tm gs)), (aI k (a 2) 72 ffrees), (aI k (a 3) 72 fprices), (aI k (a 18) 768 fons__9), (aI k (a 19) 768 fworths__9), (aI k (a 20) 5 fstarts__9), (aI k (a 21) 4 fends__9), (aZ k (a 22) 4 fgoesRound__9), (aI k (a 23) 8 fbegin__9)] := hD
          try dsimp only at hw_9
          refine lv_aload_n hx hb dX8_goingOn_50 rfl (lv_at hl 0 rfl) ?_
          refine va_get (D := D) (ci := 8) (v := .ref (a 18)) (C := RX8) (T := TX8) (N := 44) hx hb hts inX8 hown hK hP 0 rfl rfl 17 (by decide) (hts _ tw_990) (fun _ h9 => h9) rfl dX8_goingOn_51 ?_
          refine lv_iload_n hx hb dX8_goingOn_54 rfl (lv_at hl 2 rfl) ?_
          refine lv_iload_n hx hb dX8_goingOn_55 rfl (lv_at hl 3 rfl) ?_
          refine lv_iload hx hb dX8_goingOn_56 (lv_at hl 4 rfl) ?_
          refine ro_i (D := D) (va_runS (As := [.int (nI j_6), .int (nI j_4), .int (nI j_8)]) (rest := [.ref (a 18)]) ⟨hx, hb, hml, hown, hts⟩ ((m_at l D k st lo j_6 j_4 j_8) H.size) (va_cwS 3 hts (gS tw_1266 tw_1267 tw_87 tw_1268) rfl rfl rfl (by decide +kernel) ⟨Nat.le_of_ble_eq_true rfl, Nat.le_of_ble_eq_true rfl⟩) (pS hS hAlo hlo hP hK (va_Dlo hD hAlo) hZ [] (by decide) rfl) rfl rfl hl.1 rfl (lv_room (Nat.le_of_ble_eq_true rfl)) dX8_goingOn_58 ⟨Nat.le_of_ble_eq_true rfl, Nat.le_of_ble_eq_true rfl⟩) hS hA hP (fun r_10 H locs hw_10 hP hS => ?_)
          try dsimp only at hw_10
          subst hw_10
          refine va_iald hx hb hK hP 5 1 rfl rfl (vp_in_nI (by omega) (by decide)) dX8_goingOn_61 ?_
          refine lv_ti (y := (fons__9 (192 * j_6 + 8 * j_4 + j_8))) (by rw [nI_clamp (by omega)]) ?_
          have hP9 := hP.sub (ws' := [((a 0), .inr (8, (fX8 a (nI tx) fp (nI t0) wd (nI we) nu na (nI rd) ts (nI ru) (nI rw) (nI ca) df db sd))), (aI k (a 1) 3 (nF dn)), (aI k (a 4) 27 (sg se tm gs)), (aI k (a 2) 72 ffrees), (aI k (a 3) 72 fprices), (aI k (a 18) 768 fons__9), (aI k (a 19) 768 fworths__9), (aI k (a 20) 5 fstarts__9), (aI k (a 21) 4 fends__9), (aZ k (a 22) 4 fgoesRound__9), (aI k (a 23) 8 fbegin__9)]) [0, 1, 2, 3, 4, 5, 6, 7, 8, 9, 10] rfl
          have hD9 := hD.sub (ws' := [((a 0), .inr (8, (fX8 a (nI tx) fp (nI t0) wd (nI we) nu na (nI rd) ts (nI ru) (nI rw) (nI ca) df db sd))), (aI k (a 1) 3 (nF dn)), (aI k (a 4) 27 (sg se tm gs)), (aI k (a 2) 72 ffrees), (aI k (a 3) 72 fprices), (aI k (a 18) 768 fons__9), (aI k (a 19) 768 fworths__9), (aI k (a 20) 5 fstarts__9), (aI k (a 21) 4 fends__9), (aZ k (a 22) 4 fgoesRound__9), (aI k (a 23) 8 fbegin__9)]) [0, 1, 2, 3, 4, 5, 6, 7, 8, 9, 10] (by decide +kernel) rfl
          exact W.iret (v := (fons__9 (192 * j_6 + 8 * j_4 + j_8))) hx hb hr (fun t ht hW => ⟨⟨(fons__9 (192 * j_6 + 8 * j_4 + j_8)), (fons__9, fworths__9, fstarts__9, fends__9, fgoesRound__9, fbegin__9), rfl, dq_at (s := j_2) (by omega) (show dn j_2 ≤ 24 by omega) (show j_4 < dn j_2 by omega) (show siA (nI j_6) (nI j_8) goA (sdM dn (sg se tm gs) ffrees fprices j_2) j_4 _ from si_at (by rw [tmM (htm _)]; exact htm _) (by rw [seM (hse _)]; exact hse _) (by rw [tmM (htm _)]; omega) (by rw [seM (hse _)]; exact hj_8) (wmw_of (wm_of (hse _) (htm _) hw_9) (show j_6 ≤ tmD (sdM dn (sg se tm gs) ffrees fprices j_2) by rw [tmM (htm _)]; omega) (show j_4 < dn j_2 by omega) (show j_8 < 2 ^ sqN (seD (sdM dn (sg se tm gs) ffrees fprices j_2)) (dn j_2) j_4 by rw [seM (hse _)]; exact hj_8)).2), by rw [ht]; exact hP9, hD9⟩, hS.F ht⟩) hS.2.2 dX8_goingOn_62
        · refine lv_if_ne (tgt := 45) hx hb dX8_goingOn_38 (by decide) (fun h => absurd (by decide) h) (fun _ => ?_)
          refine lv_sipush (v := (-1002)) hx hb dX8_goingOn_41 (by decide) ?_
          have hP9 := hP.sub (ws' := [((a 0), .inr (8, (fX8 a (nI tx) fp (nI t0) wd (nI we) nu na (nI rd) ts (nI ru) (nI rw) (nI ca) df db sd))), (aI k (a 1) 3 (nF dn)), (aI k (a 4) 27 (sg se tm gs)), (aI k (a 2) 72 ffrees), (aI k (a 3) 72 fprices), (aI k (a 18) 768 fons), (aI k (a 19) 768 fworths), (aI k (a 20) 5 fstarts), (aI k (a 21) 4 fends), (aZ k (a 22) 4 fgoesRound), (aI k (a 23) 8 fbegin)]) [0, 1, 2, 3, 4, 5, 6, 7, 8, 9, 10] rfl
          have hD9 := hD.sub (ws' := [((a 0), .inr (8, (fX8 a (nI tx) fp (nI t0) wd (nI we) nu na (nI rd) ts (nI ru) (nI rw) (nI ca) df db sd))), (aI k (a 1) 3 (nF dn)), (aI k (a 4) 27 (sg se tm gs)), (aI k (a 2) 72 ffrees), (aI k (a 3) 72 fprices), (aI k (a 18) 768 fons), (aI k (a 19) 768 fworths), (aI k (a 20) 5 fstarts), (aI k (a 21) 4 fends), (aZ k (a 22) 4 fgoesRound), (aI k (a 23) 8 fbegin)]) [0, 1, 2, 3, 4, 5, 6, 7, 8, 9, 10] (by decide +kernel) rfl
          exact W.iret (v := (-1002)) hx hb hr (fun t ht hW => ⟨⟨(-1002), (fons, fworths, fstarts, fends, fgoesRound, fbegin), rfl, dq_at (s := j_2) (by omega) (show dn j_2 ≤ 24 by omega) (show j_4 < dn j_2 by omega) (show siA (nI j_6) p3 goA (sdM dn (sg se tm gs) ffrees fprices j_2) j_4 _ from si_no (fun rn g c => hw_7 g c.2.2.1 (by have h9 := c.2.2.2; rw [seM (hse _)] at h9; exact h9))), by rw [ht]; exact hP9, hD9⟩, hS.F ht⟩) hS.2.2 dX8_goingOn_44
      · refine lv_if_eq (tgt := 41) hx hb dX8_goingOn_27 (by decide) (fun _ => ?_) (fun h => absurd (by decide) h)
        refine lv_sipush (v := (-1002)) hx hb dX8_goingOn_41 (by decide) ?_
        have hP9 := hP.sub (ws' := [((a 0), .inr (8, (fX8 a (nI tx) fp (nI t0) wd (nI we) nu na (nI rd) ts (nI ru) (nI rw) (nI ca) df db sd))), (aI k (a 1) 3 (nF dn)), (aI k (a 4) 27 (sg se tm gs)), (aI k (a 2) 72 ffrees), (aI k (a 3) 72 fprices), (aI k (a 18) 768 fons), (aI k (a 19) 768 fworths), (aI k (a 20) 5 fstarts), (aI k (a 21) 4 fends), (aZ k (a 22) 4 fgoesRound), (aI k (a 23) 8 fbegin)]) [0, 1, 2, 3, 4, 5, 6, 7, 8, 9, 10] rfl
        have hD9 := hD.sub (ws' := [((a 0), .inr (8, (fX8 a (nI tx) fp (nI t0) wd (nI we) nu na (nI rd) ts (nI ru) (nI rw) (nI ca) df db sd))), (aI k (a 1) 3 (nF dn)), (aI k (a 4) 27 (sg se tm gs)), (aI k (a 2) 72 ffrees), (aI k (a 3) 72 fprices), (aI k (a 18) 768 fons), (aI k (a 19) 768 fworths), (aI k (a 20) 5 fstarts), (aI k (a 21) 4 fends), (aZ k (a 22) 4 fgoesRound), (aI k (a 23) 8 fbegin)]) [0, 1, 2, 3, 4, 5, 6, 7, 8, 9, 10] (by decide +kernel) rfl
        exact W.iret (v := (-1002)) hx hb hr (fun t ht hW => ⟨⟨(-1002), (fons, fworths, fstarts, fends, fgoesRound, fbegin), rfl, dq_at (s := j_2) (by omega) (show dn j_2 ≤ 24 by omega) (show j_4 < dn j_2 by omega) (show siA p1 p3 goA (sdM dn (sg se tm gs) ffrees fprices j_2) j_4 _ from si_no (fun rn g c => hw_5 (by rw [c.1]; exact inr (by have h9 := c.2.1; rw [tmM (htm _)] at h9; exact h9) (htm _)))), by rw [ht]; exact hP9, hD9⟩, hS.F ht⟩) hS.2.2 dX8_goingOn_44
    · refine lv_if_ne (tgt := 21) hx hb dX8_goingOn_14 (by decide) (fun h => absurd (by decide) h) (fun _ => ?_)
      refine lv_sipush (v := (-1001)) hx hb dX8_goingOn_17 (by decide) ?_
      have hP9 := hP.sub (ws' := [((a 0), .inr (8, (fX8 a (nI tx) fp (nI t0) wd (nI we) nu na (nI rd) ts (nI ru) (nI rw) (nI ca) df db sd))), (aI k (a 1) 3 (nF dn)), (aI k (a 4) 27 (sg se tm gs)), (aI k (a 2) 72 ffrees), (aI k (a 3) 72 fprices), (aI k (a 18) 768 fons), (aI k (a 19) 768 fworths), (aI k (a 20) 5 fstarts), (aI k (a 21) 4 fends), (aZ k (a 22) 4 fgoesRound), (aI k (a 23) 8 fbegin)]) [0, 1, 2, 3, 4, 5, 6, 7, 8, 9, 10] rfl
      have hD9 := hD.sub (ws' := [((a 0), .inr (8, (fX8 a (nI tx) fp (nI t0) wd (nI we) nu na (nI rd) ts (nI ru) (nI rw) (nI ca) df db sd))), (aI k (a 1) 3 (nF dn)), (aI k (a 4) 27 (sg se tm gs)), (aI k (a 2) 72 ffrees), (aI k (a 3) 72 fprices), (aI k (a 18) 768 fons), (aI k (a 19) 768 fworths), (aI k (a 20) 5 fstarts), (aI k (a 21) 4 fends), (aZ k (a 22) 4 fgoesRound), (aI k (a 23) 8 fbegin)]) [0, 1, 2, 3, 4, 5, 6, 7, 8, 9, 10] (by decide +kernel) rfl
      exact W.iret (v := (-1001)) hx hb hr (fun t ht hW => ⟨⟨(-1001), (fons, fworths, fstarts, fends, fgoesRound, fbegin), rfl, dq_no (fun s h1 h2 i h3 h4 => by have h9 := nI_inj (by omega) (by omega) h2; subst h9; exact hw_3 i h3 h4), by rw [ht]; exact hP9, hD9⟩, hS.F ht⟩) hS.2.2 dX8_goingOn_20
  · refine lv_if_eq (tgt := 17) hx hb dX8_goingOn_5 (by decide) (fun _ => ?_) (fun h => absurd (by decide) h)
    refine lv_sipush (v := (-1001)) hx hb dX8_goingOn_17 (by decide) ?_
    have hP9 := hP.sub (ws' := [((a 0), .inr (8, (fX8 a (nI tx) fp (nI t0) wd (nI we) nu na (nI rd) ts (nI ru) (nI rw) (nI ca) df db sd))), (aI k (a 1) 3 (nF dn)), (aI k (a 4) 27 (sg se tm gs)), (aI k (a 2) 72 ffrees), (aI k (a 3) 72 fprices), (aI k (a 18) 768 fons), (aI k (a 19) 768 fworths), (aI k (a 20) 5 fstarts), (aI k (a 21) 4 fends), (aZ k (a 22) 4 fgoesRound), (aI k (a 23) 8 fbegin)]) [0, 1, 2, 3, 4, 5, 6, 7, 8, 9, 10] rfl
    have hD9 := hD.sub (ws' := [((a 0), .inr (8, (fX8 a (nI tx) fp (nI t0) wd (nI we) nu na (nI rd) ts (nI ru) (nI rw) (nI ca) df db sd))), (aI k (a 1) 3 (nF dn)), (aI k (a 4) 27 (sg se tm gs)), (aI k (a 2) 72 ffrees), (aI k (a 3) 72 fprices), (aI k (a 18) 768 fons), (aI k (a 19) 768 fworths), (aI k (a 20) 5 fstarts), (aI k (a 21) 4 fends), (aZ k (a 22) 4 fgoesRound), (aI k (a 23) 8 fbegin)]) [0, 1, 2, 3, 4, 5, 6, 7, 8, 9, 10] (by decide +kernel) rfl
    exact W.iret (v := (-1001)) hx hb hr (fun t ht hW => ⟨⟨(-1001), (fons, fworths, fstarts, fends, fgoesRound, fbegin), rfl, dq_no (fun s h1 h2 i h3 h4 => hw_1 s h1 h2 (by show 0 < dn s; replace h4 : i < dn s := h4; omega)), by rw [ht]; exact hP9, hD9⟩, hS.F ht⟩) hS.2.2 dX8_goingOn_20


set_option maxHeartbeats 4000000 in
set_option maxRecDepth 100000 in
theorem n_isTaking (l : Launch) (D : va_G) (k : Nat → ClassId) (st : Nat → Nat) (lo : Nat) (a : Nat → Nat) (tx : Nat) (t0 : Nat) (we : Nat) (rd : Nat) (ru : Nat) (rw : Nat) (ca : Nat) (fp : Int32) (wd : Int64) (nu : Int32) (na : Int32) (ts : Int32) (df : Int32) (db : Int32) (sd : Int32) (dn : Nat → Nat) (se : Nat → Nat) (tm : Nat → Nat) (gs : Nat → Int32) (fprices : Nat → Int32) (fons : Nat → Int32) (sn : Nat) (rn : Nat) (i : Nat) (g : Nat)  (hs : sn < 3) (hrn : rn ≤ 3) (hi : i < 24) (hg : g < 8) : CRi l D k st lo yX8_isTaking cX8_isTaking 5 (some .boolean) ({ frames := 4, cells := 0, slots := 0, locals := 93 }) [.ref (a 0), .int (nI sn), .int (nI rn), .int (nI i), .int (nI g)] [((a 0), .inr (8, (fX8 a (nI tx) fp (nI t0) wd (nI we) nu na (nI rd) ts (nI ru) (nI rw) (nI ca) df db sd))), (aI k (a 1) 3 (nF dn)), (aI k (a 4) 27 (sg se tm gs)), (aI k (a 3) 72 fprices), (aI k (a 18) 768 fons)] (fun r => (r = 1 ∧ (g % 2 = 1 ∧ fM_taking dn se tm gs fprices sn i (nI rn) ≤ fons (192 * rn + 8 * i + g))) ∨ (r = 0 ∧ ¬ (g % 2 = 1 ∧ fM_taking dn se tm gs fprices sn i (nI rn) ≤ fons (192 * rn + 8 * i + g)))) := by
  intro sz
  refine Met.ofW (cc := cX8_isTaking) (maxL := 5) (ret := (some .boolean)) (by decide) rfl ?_
  intro p e s m args below meth c s₁ B hml hv
  obtain ⟨rfl, hsz, hlo, hP, hK, hDL, hZ⟩ := hv
  have hx := B.exec
  have hb := B.bytes
  have hr := B.returns
  have hts := WS_ts B.pre
  have hown : s.vm.findClass RX8 = some m.cls := findClass_of_methodNamed B.named
  have hlocks := B.notSynchronized
  subst hsz
  have hA : ∀ q : Nat, s.heap.size ≤ q → (fun q : Nat => s.heap.size ≤ q) q := fun _ h => h
  have hAlo : ∀ q : Nat, (fun q : Nat => s.heap.size ≤ q) q → lo ≤ q := fun q h => Nat.le_trans hlo h
  have hS : va_S (fun q : Nat => s.heap.size ≤ q) s.heap s.heap [] := va_S.rf
  have hl := lv_entry ([.ref (a 0), .int (nI sn), .int (nI rn), .int (nI i), .int (nI g)]) (n := 5) (Nat.le_of_ble_eq_true rfl)
  rw [lg_entry_eq]
  generalize (lg_sl ([.ref (a 0), .int (nI sn), .int (nI rn), .int (nI i), .int (nI g)]) ++ List.replicate (5 - (lg_sl ([.ref (a 0), .int (nI sn), .int (nI rn), .int (nI i), .int (nI g)])).length) Slot.unset).toArray = ls at hl ⊢
  have hl : lv_has ls 5 [(0, .ref (a 0)), (1, .int (nI sn)), (2, .int (nI rn)), (3, .int (nI i)), (4, .int (nI g))] := hl
  refine lv_iload hx hb dX8_isTaking_0 (lv_at hl 4 rfl) ?_
  refine lv_iconst (v := 1) hx hb dX8_isTaking_2 (by decide) ?_
  refine lv_iand hx hb dX8_isTaking_3 ?_
  refine lv_topi (fun x_1 ex_1 => ?_)
  refine lv_iconst (v := 1) hx hb dX8_isTaking_4 (by decide) ?_
  refine lv_icmp_ne (tgt := 34) hx hb dX8_isTaking_5 (by decide) (fun c_2 => ?_) (fun c_2 => ?_)
  · rw [ex_1] at c_2
    refine lv_iconst (v := 0) hx hb dX8_isTaking_34 (by decide) ?_
    exact W.zret (v := 0) (ty := .boolean) hx hb hr rfl (fun t ht hW => ⟨⟨0, (), rfl, .inr ⟨rfl, fun h => c_2 (((ev_and g hg).2).mpr h.1)⟩, trivial⟩, hS.F ht⟩) hS.2.2 dX8_isTaking_35
  · rw [ex_1] at c_2
    refine lv_aload_n hx hb dX8_isTaking_8 rfl (lv_at hl 0 rfl) ?_
    refine lv_iload_n hx hb dX8_isTaking_9 rfl (lv_at hl 1 rfl) ?_
    refine lv_iload_n hx hb dX8_isTaking_10 rfl (lv_at hl 2 rfl) ?_
    refine lv_iload_n hx hb dX8_isTaking_11 rfl (lv_at hl 3 rfl) ?_
    refine ro_i (D := D) (va_runV (As := [.int (nI sn), .int (nI rn), .int (nI i)]) (rest := []) ⟨hx, hb, hml, hown, hts⟩ ((n_takingOf l D k st lo a tx t0 we rd ru rw ca fp wd nu na ts df db sd dn se tm gs fprices sn i (nI rn) (by first | assumption | omega) (by first | assumption | omega)) s.heap.size) (cwV 3 hts (gV tw_1222 tw_1224 tw_43 tw_87 tw_1225) rfl rfl rfl (by decide +kernel) ⟨Nat.le_of_ble_eq_true rfl, Nat.le_of_ble_eq_true rfl⟩) (pV hS hAlo hlo hP hK hDL hZ [0, 1, 2, 3] (by decide) rfl (ci := 8) (q := (RX8, TX8, 44)) (q0 := 0) rfl rfl) rfl rfl hl.1 rfl (lv_room (Nat.le_of_ble_eq_true rfl)) dX8_isTaking_12 ⟨Nat.le_of_ble_eq_true rfl, Nat.le_of_ble_eq_true rfl⟩) hS hA hP (fun r_3 H locs hw_3 hP hS => ?_)
    try dsimp only at hw_3
    refine lv_aload_n hx hb dX8_isTaking_15 rfl (lv_at hl 0 rfl) ?_
    refine va_get (D := D) (ci := 8) (v := .ref (a 18)) (C := RX8) (T := TX8) (N := 44) hx hb hts inX8 hown hK hP 0 rfl rfl 17 (by decide) (hts _ tw_990) (fun _ h9 => h9) rfl dX8_isTaking_16 ?_
    refine lv_iload_n hx hb dX8_isTaking_19 rfl (lv_at hl 2 rfl) ?_
    refine lv_iload_n hx hb dX8_isTaking_20 rfl (lv_at hl 3 rfl) ?_
    refine lv_iload hx hb dX8_isTaking_21 (lv_at hl 4 rfl) ?_
    refine ro_i (D := D) (va_runS (As := [.int (nI rn), .int (nI i), .int (nI g)]) (rest := [.ref (a 18), .int r_3]) ⟨hx, hb, hml, hown, hts⟩ ((m_at l D k st lo rn i g) H.size) (va_cwS 3 hts (gS tw_1266 tw_1267 tw_87 tw_1268) rfl rfl rfl (by decide +kernel) ⟨Nat.le_of_ble_eq_true rfl, Nat.le_of_ble_eq_true rfl⟩) (pS hS hAlo hlo hP hK hDL hZ [] (by decide) rfl) rfl rfl hl.1 rfl (lv_room (Nat.le_of_ble_eq_true rfl)) dX8_isTaking_23 ⟨Nat.le_of_ble_eq_true rfl, Nat.le_of_ble_eq_true rfl⟩) hS hA hP (fun r_4 H locs hw_4 hP hS => ?_)
    try dsimp only at hw_4
    subst hw_4
    refine va_iald hx hb hK hP 4 1 rfl rfl (vp_in_nI (by omega) (by decide)) dX8_isTaking_26 ?_
    refine lv_ti (y := (fons (192 * rn + 8 * i + g))) (by rw [nI_clamp (by omega)]) ?_
    refine lv_icmp_gt (tgt := 34) hx hb dX8_isTaking_27 (by decide) (fun c_5 => ?_) (fun c_5 => ?_)
    · refine lv_iconst (v := 0) hx hb dX8_isTaking_34 (by decide) ?_
      exact W.zret (v := 0) (ty := .boolean) hx hb hr rfl (fun t ht hW => ⟨⟨0, (), rfl, .inr ⟨rfl, fun h => absurd c_5 (Int32.not_lt.mpr (by rw [hw_3]; exact h.2))⟩, trivial⟩, hS.F ht⟩) hS.2.2 dX8_isTaking_35
    · refine lv_iconst (v := 1) hx hb dX8_isTaking_30 (by decide) ?_
      refine lv_goto (tgt := 35) hx hb dX8_isTaking_31 (by decide) ?_
      exact W.zret (v := 1) (ty := .boolean) hx hb hr rfl (fun t ht hW => ⟨⟨1, (), rfl, .inl ⟨rfl, ((ev_and g hg).2).mp c_2, (by rw [← hw_3]; exact Int32.not_lt.mp c_5)⟩, trivial⟩, hS.F ht⟩) hS.2.2 dX8_isTaking_35


set_option maxHeartbeats 4000000 in
set_option maxRecDepth 100000 in
theorem n_takes (l : Launch) (D : va_G) (k : Nat → ClassId) (st : Nat → Nat) (lo : Nat) (a : Nat → Nat) (tx : Nat) (t0 : Nat) (we : Nat) (rd : Nat) (ru : Nat) (rw : Nat) (ca : Nat) (fp : Int32) (wd : Int64) (nu : Int32) (na : Int32) (ts : Int32) (df : Int32) (db : Int32) (sd : Int32) (dn : Nat → Nat) (se : Nat → Nat) (tm : Nat → Nat) (gs : Nat → Int32) (ffrees : Nat → Int32) (fprices : Nat → Int32) (fons : Nat → Int32) (fworths : Nat → Int32) (fstarts : Nat → Int32) (fends : Nat → Int32) (fgoesRound : Nat → Int32) (fbegin : Nat → Int32) (p0 : Int32) (p1 : Int32) (p2 : Int32) (p3 : Int32) (hdn : ∀ j, dn j ≤ 24) (hse : ∀ j, se j ≤ 2) (htm : ∀ j, tm j ≤ 3) : CWi l D k st lo yX8_takes cX8_takes 5 (some .int) ({ frames := 6, cells := 0, slots := 0, locals := 144 }) 0 0 [.ref (a 0), .int p0, .int p1, .int p2, .int p3] [((a 0), .inr (8, (fX8 a (nI tx) fp (nI t0) wd (nI we) nu na (nI rd) ts (nI ru) (nI rw) (nI ca) df db sd))), (aI k (a 1) 3 (nF dn)), (aI k (a 4) 27 (sg se tm gs)), (aI k (a 2) 72 ffrees), (aI k (a 3) 72 fprices), (aI k (a 18) 768 fons), (aI k (a 19) 768 fworths), (aI k (a 20) 5 fstarts), (aI k (a 21) 4 fends), (aZ k (a 22) 4 fgoesRound), (aI k (a 23) 8 fbegin)] (fun (r : Int32) (u : (Nat → Int32) × (Nat → Int32) × (Nat → Int32) × (Nat → Int32) × (Nat → Int32) × (Nat → Int32)) => match u with | (fons_, fworths_, fstarts_, fends_, fgoesRound_, fbegin_) => dqP (sdM dn (sg se tm gs) ffrees fprices) p0 p2 (siA p1 p3 tsA) r) (fun (u : (Nat → Int32) × (Nat → Int32) × (Nat → Int32) × (Nat → Int32) × (Nat → Int32) × (Nat → Int32)) => match u with | (fons_, fworths_, fstarts_, fends_, fgoesRound_, fbegin_) => [((a 0), .inr (8, (fX8 a (nI tx) fp (nI t0) wd (nI we) nu na (nI rd) ts (nI ru) (nI rw) (nI ca) df db sd))), (aI k (a 1) 3 (nF dn)), (aI k (a 4) 27 (sg se tm gs)), (aI k (a 2) 72 ffrees), (aI k (a 3) 72 fprices), (aI k (a 18) 768 fons_), (aI k (a 19) 768 fworths_), (aI k (a 20) 5 fstarts_), (aI k (a 21) 4 fends_), (aZ k (a 22) 4 fgoesRound_), (aI k (a 23) 8 fbegin_)]) := by
  intro sz
  refine Met.ofW (cc := cX8_takes) (maxL := 5) (ret := (some .int)) (by decide) rfl ?_
  intro p e s m args below meth c s₁ B hml hv
  obtain ⟨rfl, hsz, hlo, hP, hK, hDL, hZ⟩ := hv
  have hx := B.exec
  have hb := B.bytes
  have hr := B.returns
  have hts := WS_ts B.pre
  have hown : s.vm.findClass RX8 = some m.cls := findClass_of_methodNamed B.named
  have hlocks := B.notSynchronized
  subst hsz
  have hD := hDL.self (sz := s.heap.size)
  have hAlo := A_lo hDL hlo
  generalize hAe : va_A [((a 0), .inr (8, (fX8 a (nI tx) fp (nI t0) wd (nI we) nu na (nI rd) ts (nI ru) (nI rw) (nI ca) df db sd))), (aI k (a 1) 3 (nF dn)), (aI k (a 4) 27 (sg se tm gs)), (aI k (a 2) 72 ffrees), (aI k (a 3) 72 fprices), (aI k (a 18) 768 fons), (aI k (a 19) 768 fworths), (aI k (a 20) 5 fstarts), (aI k (a 21) 4 fends), (aZ k (a 22) 4 fgoesRound), (aI k (a 23) 8 fbegin)] s.heap.size = A at hD hAlo ⊢
  have hA : ∀ q : Nat, s.heap.size ≤ q → A q := fun q h => by rw [← hAe]; exact Or.inr h
  have hS : va_S A s.heap s.heap [] := va_S.rf
  have hl := lv_entry ([.ref (a 0), .int p0, .int p1, .int p2, .int p3]) (n := 5) (Nat.le_of_ble_eq_true rfl)
  rw [lg_entry_eq]
  generalize (lg_sl ([.ref (a 0), .int p0, .int p1, .int p2, .int p3]) ++ List.replicate (5 - (lg_sl ([.ref (a 0), .int p0, .int p1, .int p2, .int p3])).length) Slot.unset).toArray = ls at hl ⊢
  have hl : lv_has ls 5 [(0, .ref (a 0)), (1, .int p0), (2, .int p1), (3, .int p2), (4, .int p3)] := hl
  refine lv_aload_n hx hb dX8_takes_0 rfl (lv_at hl 0 rfl) ?_
  refine lv_iload_n hx hb dX8_takes_1 rfl (lv_at hl 1 rfl) ?_
  refine ro_i (D := D) (va_runV (As := [.int p0]) (rest := []) ⟨hx, hb, hml, hown, hts⟩ ((n_isStreet l D k st lo a tx t0 we rd ru rw ca fp wd nu na ts df db sd dn p0 hdn) s.heap.size) (cwV 1 hts (gV tw_1189 tw_1191 tw_38 tw_87 tw_1192) rfl rfl rfl (by decide +kernel) ⟨Nat.le_of_ble_eq_true rfl, Nat.le_of_ble_eq_true rfl⟩) (pV hS hAlo hlo hP hK (va_Dlo hD hAlo) hZ [0, 1] (by decide) rfl (ci := 8) (q := (RX8, TX8, 44)) (q0 := 0) rfl rfl) rfl rfl hl.1 rfl (lv_room (Nat.le_of_ble_eq_true rfl)) dX8_takes_2 ⟨Nat.le_of_ble_eq_true rfl, Nat.le_of_ble_eq_true rfl⟩) hS hA hP (fun r_1 H locs hw_1 hP hS => ?_)
  try dsimp only at hw_1
  rcases hw_1 with ⟨rfl, j_2, hj_2, rfl, hw_1⟩ | ⟨rfl, hw_1⟩
  · have hdj_2 := hdn j_2
    have htj_2 := htm j_2
    refine lv_if_eq (tgt := 17) hx hb dX8_takes_5 (by decide) (fun h => absurd h (by decide)) (fun _ => ?_)
    refine lv_aload_n hx hb dX8_takes_8 rfl (lv_at hl 0 rfl) ?_
    refine lv_iload_n hx hb dX8_takes_9 rfl (lv_at hl 1 rfl) ?_
    refine lv_iload_n hx hb dX8_takes_10 rfl (lv_at hl 3 rfl) ?_
    refine ro_i (D := D) (va_runV (As := [.int (nI j_2), .int p2]) (rest := []) ⟨hx, hb, hml, hown, hts⟩ ((n_isDoor l D k st lo a tx t0 we rd ru rw ca fp wd nu na ts df db sd dn j_2 p2 hdn (by first | assumption | omega)) H.size) (cwV 2 hts (gV tw_1202 tw_1204 tw_40 tw_87 tw_1205) rfl rfl rfl (by decide +kernel) ⟨Nat.le_of_ble_eq_true rfl, Nat.le_of_ble_eq_true rfl⟩) (pV hS hAlo hlo hP hK (va_Dlo hD hAlo) hZ [0, 1] (by decide) rfl (ci := 8) (q := (RX8, TX8, 44)) (q0 := 0) rfl rfl) rfl rfl hl.1 rfl (lv_room (Nat.le_of_ble_eq_true rfl)) dX8_takes_11 ⟨Nat.le_of_ble_eq_true rfl, Nat.le_of_ble_eq_true rfl⟩) hS hA hP (fun r_3 H locs hw_3 hP hS => ?_)
    try dsimp only at hw_3
    rcases hw_3 with ⟨rfl, j_4, hj_4, rfl, hw_3⟩ | ⟨rfl, hw_3⟩
    · refine lv_if_ne (tgt := 21) hx hb dX8_takes_14 (by decide) (fun _ => ?_) (fun h => absurd h (by decide))
      refine lv_aload_n hx hb dX8_takes_21 rfl (lv_at hl 0 rfl) ?_
      refine lv_iload_n hx hb dX8_takes_22 rfl (lv_at hl 1 rfl) ?_
      refine lv_iload_n hx hb dX8_takes_23 rfl (lv_at hl 2 rfl) ?_
      refine ro_i (D := D) (va_runV (As := [.int (nI j_2), .int p1]) (rest := []) ⟨hx, hb, hml, hown, hts⟩ ((n_isRound l D k st lo a tx t0 we rd ru rw ca fp wd nu na ts df db sd se tm gs j_2 p1 htm (by first | assumption | omega)) H.size) (cwV 2 hts (gV tw_1218 tw_1220 tw_42 tw_87 tw_1221) rfl rfl rfl (by decide +kernel) ⟨Nat.le_of_ble_eq_true rfl, Nat.le_of_ble_eq_true rfl⟩) (pV hS hAlo hlo hP hK (va_Dlo hD hAlo) hZ [0, 2] (by decide) rfl (ci := 8) (q := (RX8, TX8, 44)) (q0 := 0) rfl rfl) rfl rfl hl.1 rfl (lv_room (Nat.le_of_ble_eq_true rfl)) dX8_takes_24 ⟨Nat.le_of_ble_eq_true rfl, Nat.le_of_ble_eq_true rfl⟩) hS hA hP (fun r_5 H locs hw_5 hP hS => ?_)
      try dsimp only at hw_5
      rcases hw_5 with ⟨rfl, j_6, hj_6, rfl, hw_5⟩ | ⟨rfl, hw_5⟩
      · refine lv_if_eq (tgt := 41) hx hb dX8_takes_27 (by decide) (fun h => absurd h (by decide)) (fun _ => ?_)
        refine lv_aload_n hx hb dX8_takes_30 rfl (lv_at hl 0 rfl) ?_
        refine lv_iload_n hx hb dX8_takes_31 rfl (lv_at hl 1 rfl) ?_
        refine lv_iload_n hx hb dX8_takes_32 rfl (lv_at hl 3 rfl) ?_
        refine lv_iload hx hb dX8_takes_33 (lv_at hl 4 rfl) ?_
        refine ro_i (D := D) (va_runV (As := [.int (nI j_2), .int (nI j_4), .int p3]) (rest := []) ⟨hx, hb, hml, hown, hts⟩ ((n_isSight l D k st lo a tx t0 we rd ru rw ca fp wd nu na ts df db sd dn se tm gs j_2 j_4 p3 hdn hse (by first | assumption | omega) (by first | assumption | omega)) H.size) (cwV 3 hts (gV tw_1242 tw_1244 tw_47 tw_87 tw_1245) rfl rfl rfl (by decide +kernel) ⟨Nat.le_of_ble_eq_true rfl, Nat.le_of_ble_eq_true rfl⟩) (pV hS hAlo hlo hP hK (va_Dlo hD hAlo) hZ [0, 1, 2] (by decide) rfl (ci := 8) (q := (RX8, TX8, 44)) (q0 := 0) rfl rfl) rfl rfl hl.1 rfl (lv_room (Nat.le_of_ble_eq_true rfl)) dX8_takes_35 ⟨Nat.le_of_ble_eq_true rfl, Nat.le_of_ble_eq_true rfl⟩) hS hA hP (fun r_7 H locs hw_7 hP hS => ?_)
        try dsimp only at hw_7
        rcases hw_7 with ⟨rfl, j_8, hj_8, rfl, hw_7⟩ | ⟨rfl, hw_7⟩
        · have hg8_8 : j_8 < 8 := by have h8 := (p8 (sq_le (see := se j_2) (n := dn j_2) (i := j_4) (hse _))).2; omega
          refine lv_if_ne (tgt := 45) hx hb dX8_takes_38 (by decide) (fun _ => ?_) (fun h => absurd h (by decide))
          refine lv_iload hx hb dX8_takes_45 (lv_at hl 4 rfl) ?_
          refine lv_iconst (v := 1) hx hb dX8_takes_47 (by decide) ?_
          refine lv_iand hx hb dX8_takes_48 ?_
          refine lv_topi (fun x_9 ex_9 => ?_)
          refine lv_if_ne (tgt := 56) hx hb dX8_takes_49 (by decide) (fun c_10 => ?_) (fun c_10 => ?_)
          · rw [ex_9] at c_10
            refine lv_aload_n hx hb dX8_takes_56 rfl (lv_at hl 0 rfl) ?_
            refine lv_iload_n hx hb dX8_takes_57 rfl (lv_at hl 1 rfl) ?_
            refine rw_v (D := D) (wr := []) (va_runV (As := [.int (nI j_2)]) (rest := []) ⟨hx, hb, hml, hown, hts⟩ ((n_findWay l D k st lo a tx t0 we rd ru rw ca fp wd nu na ts df db sd dn se tm gs ffrees fprices fons fworths fstarts fends fgoesRound fbegin j_2 hdn hse htm (by first | assumption | omega) (by first | assumption | omega)) H.size) (cwV 1 hts (gV tw_1250 tw_1252 tw_49 tw_87 tw_1253) rfl rfl rfl (by decide +kernel) ⟨Nat.le_of_ble_eq_true rfl, Nat.le_of_ble_eq_true rfl⟩) (pV hS hAlo hlo hP hK (va_Dlo hD hAlo) hZ [0, 1, 2, 3, 4, 5, 6, 7, 8, 9, 10] (by decide +kernel) rfl (ci := 8) (q := (RX8, TX8, 44)) (q0 := 0) rfl rfl) rfl rfl hl.1 rfl (lv_room (Nat.le_of_ble_eq_true rfl)) dX8_takes_58 ⟨Nat.le_of_ble_eq_true rfl, Nat.le_of_ble_eq_true rfl⟩) hS hA hP hD [0, 1, 2, 3, 4, 5, 6, 7, 8, 9, 10] [] rfl rfl (by decide +kernel) (by decide +kernel) (fun u H locs hw_11 hP hD hS => ?_)
            obtain ⟨fons__11, fworths__11, fstarts__11, fends__11, fgoesRound__11, fbegin__11⟩ := u
            replace hP : va_P D classes [((a 0), .inr (8, (fX8 a (nI tx) fp (nI t0) wd (nI we) nu na (nI rd) ts (nI ru) (nI rw) (nI ca) df db sd))), (aI k (a 1) 3 (nF dn)), (aI k (a 4) 27 (sg se tm gs)), (aI k (a 2) 72 ffrees), (aI k (a 3) 72 fprices), (aI k (a 18) 768 fons__11), (aI k (a 19) 768 fworths__11), (aI k (a 20) 5 fstarts__11), (aI k (a 21) 4 fends__11), (aZ k (a 22) 4 fgoesRound__11), (aI k (a 23) 8 fbegin__11)] H := hP
            replace hD : va_D A [((a 0), .inr (8, (fX8 a (nI tx) fp (nI t0) wd (nI we) nu na (nI rd) ts (nI ru) (nI rw) (nI ca) df db sd))), (aI k (a 1) 3 (nF dn)), (aI k (a 4) 27 (sg se tm gs)), (aI k (a 2) 72 ffrees), (aI k (a 3) 72 fprices), (aI k (a 18) 768 fons__11), (aI k (a 19) 768 fworths__11), (aI k (a 20) 5 fstarts__11), (aI k (a 21) 4 fends__11), (aZ k (a 22) 4 fgoesRound__11), (aI k (a 23) 8 fbegin__11)] := hD
            try dsimp only at hw_11
            refine lv_aload_n hx hb dX8_takes_61 rfl (lv_at hl 0 rfl) ?_
            refine lv_iload_n hx hb dX8_takes_62 rfl (lv_at hl 1 rfl) ?_
            refine lv_iload_n hx hb dX8_takes_63 rfl (lv_at hl 2 rfl) ?_
            refine lv_iload_n hx hb dX8_takes_64 rfl (lv_at hl 3 rfl) ?_
            refine lv_iload hx hb dX8_takes_65 (lv_at hl 4 rfl) ?_
            refine ro_i (D := D) (va_runV (As := [.int (nI j_2), .int (nI j_6), .int (nI j_4), .int (nI j_8)]) (rest := []) ⟨hx, hb, hml, hown, hts⟩ ((n_isTaking l D k st lo a tx t0 we rd ru rw ca fp wd nu na ts df db sd dn se tm gs fprices fons__11 j_2 j_6 j_4 j_8 (by first | assumption | omega) (by first | assumption | omega) (by first | assumption | omega) (by first | assumption | omega)) H.size) (cwV 4 hts (gV tw_1285 tw_1287 tw_54 tw_87 tw_1288) rfl rfl rfl (by decide +kernel) ⟨Nat.le_of_ble_eq_true rfl, Nat.le_of_ble_eq_true rfl⟩) (pV hS hAlo hlo hP hK (va_Dlo hD hAlo) hZ [0, 1, 2, 4, 5] (by decide) rfl (ci := 8) (q := (RX8, TX8, 44)) (q0 := 0) rfl rfl) rfl rfl hl.1 rfl (lv_room (Nat.le_of_ble_eq_true rfl)) dX8_takes_67 ⟨Nat.le_of_ble_eq_true rfl, Nat.le_of_ble_eq_true rfl⟩) hS hA hP (fun r_12 H locs hw_12 hP hS => ?_)
            try dsimp only at hw_12
            rcases hw_12 with ⟨rfl, hw_12⟩ | ⟨rfl, hw_12⟩
            · refine lv_if_eq (tgt := 77) hx hb dX8_takes_70 (by decide) (fun h => absurd h (by decide)) (fun _ => ?_)
              refine lv_iconst (v := 1) hx hb dX8_takes_73 (by decide) ?_
              refine lv_goto (tgt := 78) hx hb dX8_takes_74 (by decide) ?_
              have hP9 := hP.sub (ws' := [((a 0), .inr (8, (fX8 a (nI tx) fp (nI t0) wd (nI we) nu na (nI rd) ts (nI ru) (nI rw) (nI ca) df db sd))), (aI k (a 1) 3 (nF dn)), (aI k (a 4) 27 (sg se tm gs)), (aI k (a 2) 72 ffrees), (aI k (a 3) 72 fprices), (aI k (a 18) 768 fons__11), (aI k (a 19) 768 fworths__11), (aI k (a 20) 5 fstarts__11), (aI k (a 21) 4 fends__11), (aZ k (a 22) 4 fgoesRound__11), (aI k (a 23) 8 fbegin__11)]) [0, 1, 2, 3, 4, 5, 6, 7, 8, 9, 10] rfl
              have hD9 := hD.sub (ws' := [((a 0), .inr (8, (fX8 a (nI tx) fp (nI t0) wd (nI we) nu na (nI rd) ts (nI ru) (nI rw) (nI ca) df db sd))), (aI k (a 1) 3 (nF dn)), (aI k (a 4) 27 (sg se tm gs)), (aI k (a 2) 72 ffrees), (aI k (a 3) 72 fprices), (aI k (a 18) 768 fons__11), (aI k (a 19) 768 fworths__11), (aI k (a 20) 5 fstarts__11), (aI k (a 21) 4 fends__11), (aZ k (a 22) 4 fgoesRound__11), (aI k (a 23) 8 fbegin__11)]) [0, 1, 2, 3, 4, 5, 6, 7, 8, 9, 10] (by decide +kernel) rfl
              exact W.iret (v := 1) hx hb hr (fun t ht hW => ⟨⟨1, (fons__11, fworths__11, fstarts__11, fends__11, fgoesRound__11, fbegin__11), rfl, dq_at (s := j_2) (by omega) (show dn j_2 ≤ 24 by omega) (show j_4 < dn j_2 by omega) (show siA (nI j_6) (nI j_8) tsA (sdM dn (sg se tm gs) ffrees fprices j_2) j_4 _ from si_at (by rw [tmM (htm _)]; exact htm _) (by rw [seM (hse _)]; exact hse _) (by rw [tmM (htm _)]; omega) (by rw [seM (hse _)]; exact hj_8) ⟨fun h => absurd (Classical.not_not.mp (fun z => c_10 (((ev_and j_8 hg8_8).1).mpr z))) h, fun _ => (by rw [if_pos (show pTake (sdM dn (sg se tm gs) ffrees fprices j_2) j_6 j_4 ≤ wayO (sdM dn (sg se tm gs) ffrees fprices j_2) j_6 j_4 j_8 by rw [← (mTake (dn := dn) (se := se) (tm := tm) (gs := gs) (ffr := ffrees) (fpr := fprices) (r := j_6) (show j_4 < dn j_2 by omega)), ← (wmw_of (wm_of (hse _) (htm _) hw_11) (show j_6 ≤ tmD (sdM dn (sg se tm gs) ffrees fprices j_2) by rw [tmM (htm _)]; omega) (show j_4 < dn j_2 by omega) (show j_8 < 2 ^ sqN (seD (sdM dn (sg se tm gs) ffrees fprices j_2)) (dn j_2) j_4 by rw [seM (hse _)]; exact hj_8)).2]; exact hw_12.2)])⟩), by rw [ht]; exact hP9, hD9⟩, hS.F ht⟩) hS.2.2 dX8_takes_78
            · refine lv_if_eq (tgt := 77) hx hb dX8_takes_70 (by decide) (fun _ => ?_) (fun h => absurd (by decide) h)
              refine lv_iconst (v := 0) hx hb dX8_takes_77 (by decide) ?_
              have hP9 := hP.sub (ws' := [((a 0), .inr (8, (fX8 a (nI tx) fp (nI t0) wd (nI we) nu na (nI rd) ts (nI ru) (nI rw) (nI ca) df db sd))), (aI k (a 1) 3 (nF dn)), (aI k (a 4) 27 (sg se tm gs)), (aI k (a 2) 72 ffrees), (aI k (a 3) 72 fprices), (aI k (a 18) 768 fons__11), (aI k (a 19) 768 fworths__11), (aI k (a 20) 5 fstarts__11), (aI k (a 21) 4 fends__11), (aZ k (a 22) 4 fgoesRound__11), (aI k (a 23) 8 fbegin__11)]) [0, 1, 2, 3, 4, 5, 6, 7, 8, 9, 10] rfl
              have hD9 := hD.sub (ws' := [((a 0), .inr (8, (fX8 a (nI tx) fp (nI t0) wd (nI we) nu na (nI rd) ts (nI ru) (nI rw) (nI ca) df db sd))), (aI k (a 1) 3 (nF dn)), (aI k (a 4) 27 (sg se tm gs)), (aI k (a 2) 72 ffrees), (aI k (a 3) 72 fprices), (aI k (a 18) 768 fons__11), (aI k (a 19) 768 fworths__11), (aI k (a 20) 5 fstarts__11), (aI k (a 21) 4 fends__11), (aZ k (a 22) 4 fgoesRound__11), (aI k (a 23) 8 fbegin__11)]) [0, 1, 2, 3, 4, 5, 6, 7, 8, 9, 10] (by decide +kernel) rfl
              exact W.iret (v := 0) hx hb hr (fun t ht hW => ⟨⟨0, (fons__11, fworths__11, fstarts__11, fends__11, fgoesRound__11, fbegin__11), rfl, dq_at (s := j_2) (by omega) (show dn j_2 ≤ 24 by omega) (show j_4 < dn j_2 by omega) (show siA (nI j_6) (nI j_8) tsA (sdM dn (sg se tm gs) ffrees fprices j_2) j_4 _ from si_at (by rw [tmM (htm _)]; exact htm _) (by rw [seM (hse _)]; exact hse _) (by rw [tmM (htm _)]; omega) (by rw [seM (hse _)]; exact hj_8) ⟨fun h => absurd (Classical.not_not.mp (fun z => c_10 (((ev_and j_8 hg8_8).1).mpr z))) h, fun _ => (by rw [if_neg (show ¬ pTake (sdM dn (sg se tm gs) ffrees fprices j_2) j_6 j_4 ≤ wayO (sdM dn (sg se tm gs) ffrees fprices j_2) j_6 j_4 j_8 by rw [← (mTake (dn := dn) (se := se) (tm := tm) (gs := gs) (ffr := ffrees) (fpr := fprices) (r := j_6) (show j_4 < dn j_2 by omega)), ← (wmw_of (wm_of (hse _) (htm _) hw_11) (show j_6 ≤ tmD (sdM dn (sg se tm gs) ffrees fprices j_2) by rw [tmM (htm _)]; omega) (show j_4 < dn j_2 by omega) (show j_8 < 2 ^ sqN (seD (sdM dn (sg se tm gs) ffrees fprices j_2)) (dn j_2) j_4 by rw [seM (hse _)]; exact hj_8)).2]; exact fun q => hw_12 ⟨Classical.not_not.mp (fun z => c_10 (((ev_and j_8 hg8_8).1).mpr z)), q⟩)])⟩), by rw [ht]; exact hP9, hD9⟩, hS.F ht⟩) hS.2.2 dX8_takes_78
          · rw [ex_9] at c_10
            refine lv_sipush (v := (-1003)) hx hb dX8_takes_52 (by decide) ?_
            have hP9 := hP.sub (ws' := [((a 0), .inr (8, (fX8 a (nI tx) fp (nI t0) wd (nI we) nu na (nI rd) ts (nI ru) (nI rw) (nI ca) df db sd))), (aI k (a 1) 3 (nF dn)), (aI k (a 4) 27 (sg se tm gs)), (aI k (a 2) 72 ffrees), (aI k (a 3) 72 fprices), (aI k (a 18) 768 fons), (aI k (a 19) 768 fworths), (aI k (a 20) 5 fstarts), (aI k (a 21) 4 fends), (aZ k (a 22) 4 fgoesRound), (aI k (a 23) 8 fbegin)]) [0, 1, 2, 3, 4, 5, 6, 7, 8, 9, 10] rfl
            have hD9 := hD.sub (ws' := [((a 0), .inr (8, (fX8 a (nI tx) fp (nI t0) wd (nI we) nu na (nI rd) ts (nI ru) (nI rw) (nI ca) df db sd))), (aI k (a 1) 3 (nF dn)), (aI k (a 4) 27 (sg se tm gs)), (aI k (a 2) 72 ffrees), (aI k (a 3) 72 fprices), (aI k (a 18) 768 fons), (aI k (a 19) 768 fworths), (aI k (a 20) 5 fstarts), (aI k (a 21) 4 fends), (aZ k (a 22) 4 fgoesRound), (aI k (a 23) 8 fbegin)]) [0, 1, 2, 3, 4, 5, 6, 7, 8, 9, 10] (by decide +kernel) rfl
            exact W.iret (v := (-1003)) hx hb hr (fun t ht hW => ⟨⟨(-1003), (fons, fworths, fstarts, fends, fgoesRound, fbegin), rfl, dq_at (s := j_2) (by omega) (show dn j_2 ≤ 24 by omega) (show j_4 < dn j_2 by omega) (show siA (nI j_6) (nI j_8) tsA (sdM dn (sg se tm gs) ffrees fprices j_2) j_4 _ from si_at (by rw [tmM (htm _)]; exact htm _) (by rw [seM (hse _)]; exact hse _) (by rw [tmM (htm _)]; omega) (by rw [seM (hse _)]; exact hj_8) ⟨fun _ => rfl, fun h => absurd h (((ev_and j_8 hg8_8).1).mp c_10)⟩), by rw [ht]; exact hP9, hD9⟩, hS.F ht⟩) hS.2.2 dX8_takes_55
        · refine lv_if_ne (tgt := 45) hx hb dX8_takes_38 (by decide) (fun h => absurd (by decide) h) (fun _ => ?_)
          refine lv_sipush (v := (-1002)) hx hb dX8_takes_41 (by decide) ?_
          have hP9 := hP.sub (ws' := [((a 0), .inr (8, (fX8 a (nI tx) fp (nI t0) wd (nI we) nu na (nI rd) ts (nI ru) (nI rw) (nI ca) df db sd))), (aI k (a 1) 3 (nF dn)), (aI k (a 4) 27 (sg se tm gs)), (aI k (a 2) 72 ffrees), (aI k (a 3) 72 fprices), (aI k (a 18) 768 fons), (aI k (a 19) 768 fworths), (aI k (a 20) 5 fstarts), (aI k (a 21) 4 fends), (aZ k (a 22) 4 fgoesRound), (aI k (a 23) 8 fbegin)]) [0, 1, 2, 3, 4, 5, 6, 7, 8, 9, 10] rfl
          have hD9 := hD.sub (ws' := [((a 0), .inr (8, (fX8 a (nI tx) fp (nI t0) wd (nI we) nu na (nI rd) ts (nI ru) (nI rw) (nI ca) df db sd))), (aI k (a 1) 3 (nF dn)), (aI k (a 4) 27 (sg se tm gs)), (aI k (a 2) 72 ffrees), (aI k (a 3) 72 fprices), (aI k (a 18) 768 fons), (aI k (a 19) 768 fworths), (aI k (a 20) 5 fstarts), (aI k (a 21) 4 fends), (aZ k (a 22) 4 fgoesRound), (aI k (a 23) 8 fbegin)]) [0, 1, 2, 3, 4, 5, 6, 7, 8, 9, 10] (by decide +kernel) rfl
          exact W.iret (v := (-1002)) hx hb hr (fun t ht hW => ⟨⟨(-1002), (fons, fworths, fstarts, fends, fgoesRound, fbegin), rfl, dq_at (s := j_2) (by omega) (show dn j_2 ≤ 24 by omega) (show j_4 < dn j_2 by omega) (show siA (nI j_6) p3 tsA (sdM dn (sg se tm gs) ffrees fprices j_2) j_4 _ from si_no (fun rn g c => hw_7 g c.2.2.1 (by have h9 := c.2.2.2; rw [seM (hse _)] at h9; exact h9))), by rw [ht]; exact hP9, hD9⟩, hS.F ht⟩) hS.2.2 dX8_takes_44
      · refine lv_if_eq (tgt := 41) hx hb dX8_takes_27 (by decide) (fun _ => ?_) (fun h => absurd (by decide) h)
        refine lv_sipush (v := (-1002)) hx hb dX8_takes_41 (by decide) ?_
        have hP9 := hP.sub (ws' := [((a 0), .inr (8, (fX8 a (nI tx) fp (nI t0) wd (nI we) nu na (nI rd) ts (nI ru) (nI rw) (nI ca) df db sd))), (aI k (a 1) 3 (nF dn)), (aI k (a 4) 27 (sg se tm gs)), (aI k (a 2) 72 ffrees), (aI k (a 3) 72 fprices), (aI k (a 18) 768 fons), (aI k (a 19) 768 fworths), (aI k (a 20) 5 fstarts), (aI k (a 21) 4 fends), (aZ k (a 22) 4 fgoesRound), (aI k (a 23) 8 fbegin)]) [0, 1, 2, 3, 4, 5, 6, 7, 8, 9, 10] rfl
        have hD9 := hD.sub (ws' := [((a 0), .inr (8, (fX8 a (nI tx) fp (nI t0) wd (nI we) nu na (nI rd) ts (nI ru) (nI rw) (nI ca) df db sd))), (aI k (a 1) 3 (nF dn)), (aI k (a 4) 27 (sg se tm gs)), (aI k (a 2) 72 ffrees), (aI k (a 3) 72 fprices), (aI k (a 18) 768 fons), (aI k (a 19) 768 fworths), (aI k (a 20) 5 fstarts), (aI k (a 21) 4 fends), (aZ k (a 22) 4 fgoesRound), (aI k (a 23) 8 fbegin)]) [0, 1, 2, 3, 4, 5, 6, 7, 8, 9, 10] (by decide +kernel) rfl
        exact W.iret (v := (-1002)) hx hb hr (fun t ht hW => ⟨⟨(-1002), (fons, fworths, fstarts, fends, fgoesRound, fbegin), rfl, dq_at (s := j_2) (by omega) (show dn j_2 ≤ 24 by omega) (show j_4 < dn j_2 by omega) (show siA p1 p3 tsA (sdM dn (sg se tm gs) ffrees fprices j_2) j_4 _ from si_no (fun rn g c => hw_5 (by rw [c.1]; exact inr (by have h9 := c.2.1; rw [tmM (htm _)] at h9; exact h9) (htm _)))), by rw [ht]; exact hP9, hD9⟩, hS.F ht⟩) hS.2.2 dX8_takes_44
    · refine lv_if_ne (tgt := 21) hx hb dX8_takes_14 (by decide) (fun h => absurd (by decide) h) (fun _ => ?_)
      refine lv_sipush (v := (-1001)) hx hb dX8_takes_17 (by decide) ?_
      have hP9 := hP.sub (ws' := [((a 0), .inr (8, (fX8 a (nI tx) fp (nI t0) wd (nI we) nu na (nI rd) ts (nI ru) (nI rw) (nI ca) df db sd))), (aI k (a 1) 3 (nF dn)), (aI k (a 4) 27 (sg se tm gs)), (aI k (a 2) 72 ffrees), (aI k (a 3) 72 fprices), (aI k (a 18) 768 fons), (aI k (a 19) 768 fworths), (aI k (a 20) 5 fstarts), (aI k (a 21) 4 fends), (aZ k (a 22) 4 fgoesRound), (aI k (a 23) 8 fbegin)]) [0, 1, 2, 3, 4, 5, 6, 7, 8, 9, 10] rfl
      have hD9 := hD.sub (ws' := [((a 0), .inr (8, (fX8 a (nI tx) fp (nI t0) wd (nI we) nu na (nI rd) ts (nI ru) (nI rw) (nI ca) df db sd))), (aI k (a 1) 3 (nF dn)), (aI k (a 4) 27 (sg se tm gs)), (aI k (a 2) 72 ffrees), (aI k (a 3) 72 fprices), (aI k (a 18) 768 fons), (aI k (a 19) 768 fworths), (aI k (a 20) 5 fstarts), (aI k (a 21) 4 fends), (aZ k (a 22) 4 fgoesRound), (aI k (a 23) 8 fbegin)]) [0, 1, 2, 3, 4, 5, 6, 7, 8, 9, 10] (by decide +kernel) rfl
      exact W.iret (v := (-1001)) hx hb hr (fun t ht hW => ⟨⟨(-1001), (fons, fworths, fstarts, fends, fgoesRound, fbegin), rfl, dq_no (fun s h1 h2 i h3 h4 => by have h9 := nI_inj (by omega) (by omega) h2; subst h9; exact hw_3 i h3 h4), by rw [ht]; exact hP9, hD9⟩, hS.F ht⟩) hS.2.2 dX8_takes_20
  · refine lv_if_eq (tgt := 17) hx hb dX8_takes_5 (by decide) (fun _ => ?_) (fun h => absurd (by decide) h)
    refine lv_sipush (v := (-1001)) hx hb dX8_takes_17 (by decide) ?_
    have hP9 := hP.sub (ws' := [((a 0), .inr (8, (fX8 a (nI tx) fp (nI t0) wd (nI we) nu na (nI rd) ts (nI ru) (nI rw) (nI ca) df db sd))), (aI k (a 1) 3 (nF dn)), (aI k (a 4) 27 (sg se tm gs)), (aI k (a 2) 72 ffrees), (aI k (a 3) 72 fprices), (aI k (a 18) 768 fons), (aI k (a 19) 768 fworths), (aI k (a 20) 5 fstarts), (aI k (a 21) 4 fends), (aZ k (a 22) 4 fgoesRound), (aI k (a 23) 8 fbegin)]) [0, 1, 2, 3, 4, 5, 6, 7, 8, 9, 10] rfl
    have hD9 := hD.sub (ws' := [((a 0), .inr (8, (fX8 a (nI tx) fp (nI t0) wd (nI we) nu na (nI rd) ts (nI ru) (nI rw) (nI ca) df db sd))), (aI k (a 1) 3 (nF dn)), (aI k (a 4) 27 (sg se tm gs)), (aI k (a 2) 72 ffrees), (aI k (a 3) 72 fprices), (aI k (a 18) 768 fons), (aI k (a 19) 768 fworths), (aI k (a 20) 5 fstarts), (aI k (a 21) 4 fends), (aZ k (a 22) 4 fgoesRound), (aI k (a 23) 8 fbegin)]) [0, 1, 2, 3, 4, 5, 6, 7, 8, 9, 10] (by decide +kernel) rfl
    exact W.iret (v := (-1001)) hx hb hr (fun t ht hW => ⟨⟨(-1001), (fons, fworths, fstarts, fends, fgoesRound, fbegin), rfl, dq_no (fun s h1 h2 i h3 h4 => hw_1 s h1 h2 (by show 0 < dn s; replace h4 : i < dn s := h4; omega)), by rw [ht]; exact hP9, hD9⟩, hS.F ht⟩) hS.2.2 dX8_takes_20


set_option maxHeartbeats 4000000 in
set_option maxRecDepth 100000 in
theorem n_start (l : Launch) (D : va_G) (k : Nat → ClassId) (st : Nat → Nat) (lo : Nat) (a : Nat → Nat) (tx : Nat) (t0 : Nat) (we : Nat) (rd : Nat) (ru : Nat) (rw : Nat) (ca : Nat) (fp : Int32) (wd : Int64) (nu : Int32) (na : Int32) (ts : Int32) (df : Int32) (db : Int32) (sd : Int32) (dn : Nat → Nat) (se : Nat → Nat) (tm : Nat → Nat) (gs : Nat → Int32) (ffrees : Nat → Int32) (fprices : Nat → Int32) (fons : Nat → Int32) (fworths : Nat → Int32) (fstarts : Nat → Int32) (fends : Nat → Int32) (fgoesRound : Nat → Int32) (fbegin : Nat → Int32) (p0 : Int32) (p1 : Int32) (hdn : ∀ j, dn j ≤ 24) (hse : ∀ j, se j ≤ 2) (htm : ∀ j, tm j ≤ 3) : CWi l D k st lo yX8_start cX8_start 3 (some .int) ({ frames := 6, cells := 0, slots := 0, locals := 144 }) 0 0 [.ref (a 0), .int p0, .int p1] [((a 0), .inr (8, (fX8 a (nI tx) fp (nI t0) wd (nI we) nu na (nI rd) ts (nI ru) (nI rw) (nI ca) df db sd))), (aI k (a 1) 3 (nF dn)), (aI k (a 4) 27 (sg se tm gs)), (aI k (a 2) 72 ffrees), (aI k (a 3) 72 fprices), (aI k (a 18) 768 fons), (aI k (a 19) 768 fworths), (aI k (a 20) 5 fstarts), (aI k (a 21) 4 fends), (aZ k (a 22) 4 fgoesRound), (aI k (a 23) 8 fbegin)] (fun (r : Int32) (u : (Nat → Int32) × (Nat → Int32) × (Nat → Int32) × (Nat → Int32) × (Nat → Int32) × (Nat → Int32)) => match u with | (fons_, fworths_, fstarts_, fends_, fgoesRound_, fbegin_) => tqP (sdM dn (sg se tm gs) ffrees fprices) p0 (stA p1) r) (fun (u : (Nat → Int32) × (Nat → Int32) × (Nat → Int32) × (Nat → Int32) × (Nat → Int32) × (Nat → Int32)) => match u with | (fons_, fworths_, fstarts_, fends_, fgoesRound_, fbegin_) => [((a 0), .inr (8, (fX8 a (nI tx) fp (nI t0) wd (nI we) nu na (nI rd) ts (nI ru) (nI rw) (nI ca) df db sd))), (aI k (a 1) 3 (nF dn)), (aI k (a 4) 27 (sg se tm gs)), (aI k (a 2) 72 ffrees), (aI k (a 3) 72 fprices), (aI k (a 18) 768 fons_), (aI k (a 19) 768 fworths_), (aI k (a 20) 5 fstarts_), (aI k (a 21) 4 fends_), (aZ k (a 22) 4 fgoesRound_), (aI k (a 23) 8 fbegin_)]) := by
  intro sz
  refine Met.ofW (cc := cX8_start) (maxL := 3) (ret := (some .int)) (by decide) rfl ?_
  intro p e s m args below meth c s₁ B hml hv
  obtain ⟨rfl, hsz, hlo, hP, hK, hDL, hZ⟩ := hv
  have hx := B.exec
  have hb := B.bytes
  have hr := B.returns
  have hts := WS_ts B.pre
  have hown : s.vm.findClass RX8 = some m.cls := findClass_of_methodNamed B.named
  have hlocks := B.notSynchronized
  subst hsz
  have hD := hDL.self (sz := s.heap.size)
  have hAlo := A_lo hDL hlo
  generalize hAe : va_A [((a 0), .inr (8, (fX8 a (nI tx) fp (nI t0) wd (nI we) nu na (nI rd) ts (nI ru) (nI rw) (nI ca) df db sd))), (aI k (a 1) 3 (nF dn)), (aI k (a 4) 27 (sg se tm gs)), (aI k (a 2) 72 ffrees), (aI k (a 3) 72 fprices), (aI k (a 18) 768 fons), (aI k (a 19) 768 fworths), (aI k (a 20) 5 fstarts), (aI k (a 21) 4 fends), (aZ k (a 22) 4 fgoesRound), (aI k (a 23) 8 fbegin)] s.heap.size = A at hD hAlo ⊢
  have hA : ∀ q : Nat, s.heap.size ≤ q → A q := fun q h => by rw [← hAe]; exact Or.inr h
  have hS : va_S A s.heap s.heap [] := va_S.rf
  have hl := lv_entry ([.ref (a 0), .int p0, .int p1]) (n := 3) (Nat.le_of_ble_eq_true rfl)
  rw [lg_entry_eq]
  generalize (lg_sl ([.ref (a 0), .int p0, .int p1]) ++ List.replicate (3 - (lg_sl ([.ref (a 0), .int p0, .int p1])).length) Slot.unset).toArray = ls at hl ⊢
  have hl : lv_has ls 3 [(0, .ref (a 0)), (1, .int p0), (2, .int p1)] := hl
  refine lv_aload_n hx hb dX8_start_0 rfl (lv_at hl 0 rfl) ?_
  refine lv_iload_n hx hb dX8_start_1 rfl (lv_at hl 1 rfl) ?_
  refine ro_i (D := D) (va_runV (As := [.int p0]) (rest := []) ⟨hx, hb, hml, hown, hts⟩ ((n_isStreet l D k st lo a tx t0 we rd ru rw ca fp wd nu na ts df db sd dn p0 hdn) s.heap.size) (cwV 1 hts (gV tw_1189 tw_1191 tw_38 tw_87 tw_1192) rfl rfl rfl (by decide +kernel) ⟨Nat.le_of_ble_eq_true rfl, Nat.le_of_ble_eq_true rfl⟩) (pV hS hAlo hlo hP hK (va_Dlo hD hAlo) hZ [0, 1] (by decide) rfl (ci := 8) (q := (RX8, TX8, 44)) (q0 := 0) rfl rfl) rfl rfl hl.1 rfl (lv_room (Nat.le_of_ble_eq_true rfl)) dX8_start_2 ⟨Nat.le_of_ble_eq_true rfl, Nat.le_of_ble_eq_true rfl⟩) hS hA hP (fun r_1 H locs hw_1 hP hS => ?_)
  try dsimp only at hw_1
  rcases hw_1 with ⟨rfl, j_2, hj_2, rfl, hw_1⟩ | ⟨rfl, hw_1⟩
  · have hdj_2 := hdn j_2
    have htj_2 := htm j_2
    refine lv_if_ne (tgt := 12) hx hb dX8_start_5 (by decide) (fun _ => ?_) (fun h => absurd h (by decide))
    refine lv_aload_n hx hb dX8_start_12 rfl (lv_at hl 0 rfl) ?_
    refine lv_iload_n hx hb dX8_start_13 rfl (lv_at hl 1 rfl) ?_
    refine lv_iload_n hx hb dX8_start_14 rfl (lv_at hl 2 rfl) ?_
    refine ro_i (D := D) (va_runV (As := [.int (nI j_2), .int p1]) (rest := []) ⟨hx, hb, hml, hown, hts⟩ ((n_isRound l D k st lo a tx t0 we rd ru rw ca fp wd nu na ts df db sd se tm gs j_2 p1 htm (by first | assumption | omega)) H.size) (cwV 2 hts (gV tw_1218 tw_1220 tw_42 tw_87 tw_1221) rfl rfl rfl (by decide +kernel) ⟨Nat.le_of_ble_eq_true rfl, Nat.le_of_ble_eq_true rfl⟩) (pV hS hAlo hlo hP hK (va_Dlo hD hAlo) hZ [0, 2] (by decide) rfl (ci := 8) (q := (RX8, TX8, 44)) (q0 := 0) rfl rfl) rfl rfl hl.1 rfl (lv_room (Nat.le_of_ble_eq_true rfl)) dX8_start_15 ⟨Nat.le_of_ble_eq_true rfl, Nat.le_of_ble_eq_true rfl⟩) hS hA hP (fun r_3 H locs hw_3 hP hS => ?_)
    try dsimp only at hw_3
    rcases hw_3 with ⟨rfl, j_4, hj_4, rfl, hw_3⟩ | ⟨rfl, hw_3⟩
    · refine lv_if_ne (tgt := 25) hx hb dX8_start_18 (by decide) (fun _ => ?_) (fun h => absurd h (by decide))
      refine lv_aload_n hx hb dX8_start_25 rfl (lv_at hl 0 rfl) ?_
      refine lv_iload_n hx hb dX8_start_26 rfl (lv_at hl 1 rfl) ?_
      refine rw_v (D := D) (wr := []) (va_runV (As := [.int (nI j_2)]) (rest := []) ⟨hx, hb, hml, hown, hts⟩ ((n_findWay l D k st lo a tx t0 we rd ru rw ca fp wd nu na ts df db sd dn se tm gs ffrees fprices fons fworths fstarts fends fgoesRound fbegin j_2 hdn hse htm (by first | assumption | omega) (by first | assumption | omega)) H.size) (cwV 1 hts (gV tw_1250 tw_1252 tw_49 tw_87 tw_1253) rfl rfl rfl (by decide +kernel) ⟨Nat.le_of_ble_eq_true rfl, Nat.le_of_ble_eq_true rfl⟩) (pV hS hAlo hlo hP hK (va_Dlo hD hAlo) hZ [0, 1, 2, 3, 4, 5, 6, 7, 8, 9, 10] (by decide +kernel) rfl (ci := 8) (q := (RX8, TX8, 44)) (q0 := 0) rfl rfl) rfl rfl hl.1 rfl (lv_room (Nat.le_of_ble_eq_true rfl)) dX8_start_27 ⟨Nat.le_of_ble_eq_true rfl, Nat.le_of_ble_eq_true rfl⟩) hS hA hP hD [0, 1, 2, 3, 4, 5, 6, 7, 8, 9, 10] [] rfl rfl (by decide +kernel) (by decide +kernel) (fun u H locs hw_5 hP hD hS => ?_)
      obtain ⟨fons__5, fworths__5, fstarts__5, fends__5, fgoesRound__5, fbegin__5⟩ := u
      replace hP : va_P D classes [((a 0), .inr (8, (fX8 a (nI tx) fp (nI t0) wd (nI we) nu na (nI rd) ts (nI ru) (nI rw) (nI ca) df db sd))), (aI k (a 1) 3 (nF dn)), (aI k (a 4) 27 (sg se tm gs)), (aI k (a 2) 72 ffrees), (aI k (a 3) 72 fprices), (aI k (a 18) 768 fons__5), (aI k (a 19) 768 fworths__5), (aI k (a 20) 5 fstarts__5), (aI k (a 21) 4 fends__5), (aZ k (a 22) 4 fgoesRound__5), (aI k (a 23) 8 fbegin__5)] H := hP
      replace hD : va_D A [((a 0), .inr (8, (fX8 a (nI tx) fp (nI t0) wd (nI we) nu na (nI rd) ts (nI ru) (nI rw) (nI ca) df db sd))), (aI k (a 1) 3 (nF dn)), (aI k (a 4) 27 (sg se tm gs)), (aI k (a 2) 72 ffrees), (aI k (a 3) 72 fprices), (aI k (a 18) 768 fons__5), (aI k (a 19) 768 fworths__5), (aI k (a 20) 5 fstarts__5), (aI k (a 21) 4 fends__5), (aZ k (a 22) 4 fgoesRound__5), (aI k (a 23) 8 fbegin__5)] := hD
      try dsimp only at hw_5
      refine lv_aload_n hx hb dX8_start_30 rfl (lv_at hl 0 rfl) ?_
      refine va_get (D := D) (ci := 8) (v := .ref (a 20)) (C := RX8) (T := TX8) (N := 44) hx hb hts inX8 hown hK hP 0 rfl rfl 19 (by decide) (hts _ tw_992) (fun _ h9 => h9) rfl dX8_start_31 ?_
      refine lv_iload_n hx hb dX8_start_34 rfl (lv_at hl 2 rfl) ?_
      refine va_iald hx hb hK hP 7 1 rfl rfl (vp_in_nI (by omega) (by decide)) dX8_start_35 ?_
      refine lv_ti (y := (fstarts__5 j_4)) (by rw [nI_clamp (by omega)]) ?_
      have hP9 := hP.sub (ws' := [((a 0), .inr (8, (fX8 a (nI tx) fp (nI t0) wd (nI we) nu na (nI rd) ts (nI ru) (nI rw) (nI ca) df db sd))), (aI k (a 1) 3 (nF dn)), (aI k (a 4) 27 (sg se tm gs)), (aI k (a 2) 72 ffrees), (aI k (a 3) 72 fprices), (aI k (a 18) 768 fons__5), (aI k (a 19) 768 fworths__5), (aI k (a 20) 5 fstarts__5), (aI k (a 21) 4 fends__5), (aZ k (a 22) 4 fgoesRound__5), (aI k (a 23) 8 fbegin__5)]) [0, 1, 2, 3, 4, 5, 6, 7, 8, 9, 10] rfl
      have hD9 := hD.sub (ws' := [((a 0), .inr (8, (fX8 a (nI tx) fp (nI t0) wd (nI we) nu na (nI rd) ts (nI ru) (nI rw) (nI ca) df db sd))), (aI k (a 1) 3 (nF dn)), (aI k (a 4) 27 (sg se tm gs)), (aI k (a 2) 72 ffrees), (aI k (a 3) 72 fprices), (aI k (a 18) 768 fons__5), (aI k (a 19) 768 fworths__5), (aI k (a 20) 5 fstarts__5), (aI k (a 21) 4 fends__5), (aZ k (a 22) 4 fgoesRound__5), (aI k (a 23) 8 fbegin__5)]) [0, 1, 2, 3, 4, 5, 6, 7, 8, 9, 10] (by decide +kernel) rfl
      exact W.iret (v := (fstarts__5 j_4)) hx hb hr (fun t ht hW => ⟨⟨(fstarts__5 j_4), (fons__5, fworths__5, fstarts__5, fends__5, fgoesRound__5, fbegin__5), rfl, tq_at (s := j_2) (by omega) (show 0 < dn j_2 by omega) (st_i (by omega) (by rw [rdM]; exact inr (by omega) (htm _)) ((wm_of (hse _) (htm _) hw_5) j_4 (Nat.zero_le _) (show j_4 ≤ tmD (sdM dn (sg se tm gs) ffrees fprices j_2) by rw [tmM (htm _)]; omega)).2.1), by rw [ht]; exact hP9, hD9⟩, hS.F ht⟩) hS.2.2 dX8_start_36
    · refine lv_if_ne (tgt := 25) hx hb dX8_start_18 (by decide) (fun h => absurd (by decide) h) (fun _ => ?_)
      refine lv_sipush (v := (-1002)) hx hb dX8_start_21 (by decide) ?_
      have hP9 := hP.sub (ws' := [((a 0), .inr (8, (fX8 a (nI tx) fp (nI t0) wd (nI we) nu na (nI rd) ts (nI ru) (nI rw) (nI ca) df db sd))), (aI k (a 1) 3 (nF dn)), (aI k (a 4) 27 (sg se tm gs)), (aI k (a 2) 72 ffrees), (aI k (a 3) 72 fprices), (aI k (a 18) 768 fons), (aI k (a 19) 768 fworths), (aI k (a 20) 5 fstarts), (aI k (a 21) 4 fends), (aZ k (a 22) 4 fgoesRound), (aI k (a 23) 8 fbegin)]) [0, 1, 2, 3, 4, 5, 6, 7, 8, 9, 10] rfl
      have hD9 := hD.sub (ws' := [((a 0), .inr (8, (fX8 a (nI tx) fp (nI t0) wd (nI we) nu na (nI rd) ts (nI ru) (nI rw) (nI ca) df db sd))), (aI k (a 1) 3 (nF dn)), (aI k (a 4) 27 (sg se tm gs)), (aI k (a 2) 72 ffrees), (aI k (a 3) 72 fprices), (aI k (a 18) 768 fons), (aI k (a 19) 768 fworths), (aI k (a 20) 5 fstarts), (aI k (a 21) 4 fends), (aZ k (a 22) 4 fgoesRound), (aI k (a 23) 8 fbegin)]) [0, 1, 2, 3, 4, 5, 6, 7, 8, 9, 10] (by decide +kernel) rfl
      exact W.iret (v := (-1002)) hx hb hr (fun t ht hW => ⟨⟨(-1002), (fons, fworths, fstarts, fends, fgoesRound, fbegin), rfl, tq_at (s := j_2) (by omega) (show 0 < dn j_2 by omega) (st_o (by rw [rdM]; exact hw_3)), by rw [ht]; exact hP9, hD9⟩, hS.F ht⟩) hS.2.2 dX8_start_24
  · refine lv_if_ne (tgt := 12) hx hb dX8_start_5 (by decide) (fun h => absurd (by decide) h) (fun _ => ?_)
    refine lv_sipush (v := (-1001)) hx hb dX8_start_8 (by decide) ?_
    have hP9 := hP.sub (ws' := [((a 0), .inr (8, (fX8 a (nI tx) fp (nI t0) wd (nI we) nu na (nI rd) ts (nI ru) (nI rw) (nI ca) df db sd))), (aI k (a 1) 3 (nF dn)), (aI k (a 4) 27 (sg se tm gs)), (aI k (a 2) 72 ffrees), (aI k (a 3) 72 fprices), (aI k (a 18) 768 fons), (aI k (a 19) 768 fworths), (aI k (a 20) 5 fstarts), (aI k (a 21) 4 fends), (aZ k (a 22) 4 fgoesRound), (aI k (a 23) 8 fbegin)]) [0, 1, 2, 3, 4, 5, 6, 7, 8, 9, 10] rfl
    have hD9 := hD.sub (ws' := [((a 0), .inr (8, (fX8 a (nI tx) fp (nI t0) wd (nI we) nu na (nI rd) ts (nI ru) (nI rw) (nI ca) df db sd))), (aI k (a 1) 3 (nF dn)), (aI k (a 4) 27 (sg se tm gs)), (aI k (a 2) 72 ffrees), (aI k (a 3) 72 fprices), (aI k (a 18) 768 fons), (aI k (a 19) 768 fworths), (aI k (a 20) 5 fstarts), (aI k (a 21) 4 fends), (aZ k (a 22) 4 fgoesRound), (aI k (a 23) 8 fbegin)]) [0, 1, 2, 3, 4, 5, 6, 7, 8, 9, 10] (by decide +kernel) rfl
    exact W.iret (v := (-1001)) hx hb hr (fun t ht hW => ⟨⟨(-1001), (fons, fworths, fstarts, fends, fgoesRound, fbegin), rfl, tq_no (fun s h1 h2 h3 => hw_1 s h1 h2 h3), by rw [ht]; exact hP9, hD9⟩, hS.F ht⟩) hS.2.2 dX8_start_11


set_option maxHeartbeats 4000000 in
set_option maxRecDepth 100000 in
theorem n_end (l : Launch) (D : va_G) (k : Nat → ClassId) (st : Nat → Nat) (lo : Nat) (a : Nat → Nat) (tx : Nat) (t0 : Nat) (we : Nat) (rd : Nat) (ru : Nat) (rw : Nat) (ca : Nat) (fp : Int32) (wd : Int64) (nu : Int32) (na : Int32) (ts : Int32) (df : Int32) (db : Int32) (sd : Int32) (dn : Nat → Nat) (se : Nat → Nat) (tm : Nat → Nat) (gs : Nat → Int32) (ffrees : Nat → Int32) (fprices : Nat → Int32) (fons : Nat → Int32) (fworths : Nat → Int32) (fstarts : Nat → Int32) (fends : Nat → Int32) (fgoesRound : Nat → Int32) (fbegin : Nat → Int32) (p0 : Int32) (p1 : Int32) (p2 : Int32) (hdn : ∀ j, dn j ≤ 24) (hse : ∀ j, se j ≤ 2) (htm : ∀ j, tm j ≤ 3) : CWi l D k st lo yX8_end cX8_end 4 (some .int) ({ frames := 6, cells := 0, slots := 0, locals := 144 }) 0 0 [.ref (a 0), .int p0, .int p1, .int p2] [((a 0), .inr (8, (fX8 a (nI tx) fp (nI t0) wd (nI we) nu na (nI rd) ts (nI ru) (nI rw) (nI ca) df db sd))), (aI k (a 1) 3 (nF dn)), (aI k (a 4) 27 (sg se tm gs)), (aI k (a 2) 72 ffrees), (aI k (a 3) 72 fprices), (aI k (a 18) 768 fons), (aI k (a 19) 768 fworths), (aI k (a 20) 5 fstarts), (aI k (a 21) 4 fends), (aZ k (a 22) 4 fgoesRound), (aI k (a 23) 8 fbegin)] (fun (r : Int32) (u : (Nat → Int32) × (Nat → Int32) × (Nat → Int32) × (Nat → Int32) × (Nat → Int32) × (Nat → Int32)) => match u with | (fons_, fworths_, fstarts_, fends_, fgoesRound_, fbegin_) => tqP (sdM dn (sg se tm gs) ffrees fprices) p0 (enA p1 p2) r) (fun (u : (Nat → Int32) × (Nat → Int32) × (Nat → Int32) × (Nat → Int32) × (Nat → Int32) × (Nat → Int32)) => match u with | (fons_, fworths_, fstarts_, fends_, fgoesRound_, fbegin_) => [((a 0), .inr (8, (fX8 a (nI tx) fp (nI t0) wd (nI we) nu na (nI rd) ts (nI ru) (nI rw) (nI ca) df db sd))), (aI k (a 1) 3 (nF dn)), (aI k (a 4) 27 (sg se tm gs)), (aI k (a 2) 72 ffrees), (aI k (a 3) 72 fprices), (aI k (a 18) 768 fons_), (aI k (a 19) 768 fworths_), (aI k (a 20) 5 fstarts_), (aI k (a 21) 4 fends_), (aZ k (a 22) 4 fgoesRound_), (aI k (a 23) 8 fbegin_)]) := by
  intro sz
  refine Met.ofW (cc := cX8_end) (maxL := 4) (ret := (some .int)) (by decide) rfl ?_
  intro p e s m args below meth c s₁ B hml hv
  obtain ⟨rfl, hsz, hlo, hP, hK, hDL, hZ⟩ := hv
  have hx := B.exec
  have hb := B.bytes
  have hr := B.returns
  have hts := WS_ts B.pre
  have hown : s.vm.findClass RX8 = some m.cls := findClass_of_methodNamed B.named
  have hlocks := B.notSynchronized
  subst hsz
  have hD := hDL.self (sz := s.heap.size)
  have hAlo := A_lo hDL hlo
  generalize hAe : va_A [((a 0), .inr (8, (fX8 a (nI tx) fp (nI t0) wd (nI we) nu na (nI rd) ts (nI ru) (nI rw) (nI ca) df db sd))), (aI k (a 1) 3 (nF dn)), (aI k (a 4) 27 (sg se tm gs)), (aI k (a 2) 72 ffrees), (aI k (a 3) 72 fprices), (aI k (a 18) 768 fons), (aI k (a 19) 768 fworths), (aI k (a 20) 5 fstarts), (aI k (a 21) 4 fends), (aZ k (a 22) 4 fgoesRound), (aI k (a 23) 8 fbegin)] s.heap.size = A at hD hAlo ⊢
  have hA : ∀ q : Nat, s.heap.size ≤ q → A q := fun q h => by rw [← hAe]; exact Or.inr h
  have hS : va_S A s.heap s.heap [] := va_S.rf
  have hl := lv_entry ([.ref (a 0), .int p0, .int p1, .int p2]) (n := 4) (Nat.le_of_ble_eq_true rfl)
  rw [lg_entry_eq]
  generalize (lg_sl ([.ref (a 0), .int p0, .int p1, .int p2]) ++ List.replicate (4 - (lg_sl ([.ref (a 0), .int p0, .int p1, .int p2])).length) Slot.unset).toArray = ls at hl ⊢
  have hl : lv_has ls 4 [(0, .ref (a 0)), (1, .int p0), (2, .int p1), (3, .int p2)] := hl
  refine lv_aload_n hx hb dX8_end_0 rfl (lv_at hl 0 rfl) ?_
  refine lv_iload_n hx hb dX8_end_1 rfl (lv_at hl 1 rfl) ?_
  refine ro_i (D := D) (va_runV (As := [.int p0]) (rest := []) ⟨hx, hb, hml, hown, hts⟩ ((n_isStreet l D k st lo a tx t0 we rd ru rw ca fp wd nu na ts df db sd dn p0 hdn) s.heap.size) (cwV 1 hts (gV tw_1189 tw_1191 tw_38 tw_87 tw_1192) rfl rfl rfl (by decide +kernel) ⟨Nat.le_of_ble_eq_true rfl, Nat.le_of_ble_eq_true rfl⟩) (pV hS hAlo hlo hP hK (va_Dlo hD hAlo) hZ [0, 1] (by decide) rfl (ci := 8) (q := (RX8, TX8, 44)) (q0 := 0) rfl rfl) rfl rfl hl.1 rfl (lv_room (Nat.le_of_ble_eq_true rfl)) dX8_end_2 ⟨Nat.le_of_ble_eq_true rfl, Nat.le_of_ble_eq_true rfl⟩) hS hA hP (fun r_1 H locs hw_1 hP hS => ?_)
  try dsimp only at hw_1
  rcases hw_1 with ⟨rfl, j_2, hj_2, rfl, hw_1⟩ | ⟨rfl, hw_1⟩
  · have hdj_2 := hdn j_2
    have htj_2 := htm j_2
    refine lv_if_ne (tgt := 12) hx hb dX8_end_5 (by decide) (fun _ => ?_) (fun h => absurd h (by decide))
    refine lv_aload_n hx hb dX8_end_12 rfl (lv_at hl 0 rfl) ?_
    refine lv_iload_n hx hb dX8_end_13 rfl (lv_at hl 1 rfl) ?_
    refine lv_iload_n hx hb dX8_end_14 rfl (lv_at hl 2 rfl) ?_
    refine ro_i (D := D) (va_runV (As := [.int (nI j_2), .int p1]) (rest := []) ⟨hx, hb, hml, hown, hts⟩ ((n_isRound l D k st lo a tx t0 we rd ru rw ca fp wd nu na ts df db sd se tm gs j_2 p1 htm (by first | assumption | omega)) H.size) (cwV 2 hts (gV tw_1218 tw_1220 tw_42 tw_87 tw_1221) rfl rfl rfl (by decide +kernel) ⟨Nat.le_of_ble_eq_true rfl, Nat.le_of_ble_eq_true rfl⟩) (pV hS hAlo hlo hP hK (va_Dlo hD hAlo) hZ [0, 2] (by decide) rfl (ci := 8) (q := (RX8, TX8, 44)) (q0 := 0) rfl rfl) rfl rfl hl.1 rfl (lv_room (Nat.le_of_ble_eq_true rfl)) dX8_end_15 ⟨Nat.le_of_ble_eq_true rfl, Nat.le_of_ble_eq_true rfl⟩) hS hA hP (fun r_3 H locs hw_3 hP hS => ?_)
    try dsimp only at hw_3
    rcases hw_3 with ⟨rfl, j_4, hj_4, rfl, hw_3⟩ | ⟨rfl, hw_3⟩
    · refine lv_if_eq (tgt := 31) hx hb dX8_end_18 (by decide) (fun h => absurd h (by decide)) (fun _ => ?_)
      refine lv_iload_n hx hb dX8_end_21 rfl (lv_at hl 3 rfl) ?_
      refine lv_i2l (v := p2.toInt64) hx hb dX8_end_22 rfl ?_
      refine lv_lconst (v := (0 : Int32).toInt64) hx hb dX8_end_23 (by decide) ?_
      refine lv_lconst (v := (1 : Int32).toInt64) hx hb dX8_end_24 (by decide) ?_
      refine ro_i (D := D) (va_runS (As := [.long (p2.toInt64), .long ((0 : Int32).toInt64), .long ((1 : Int32).toInt64)]) (rest := []) ⟨hx, hb, hml, hown, hts⟩ ((k_in l D k st lo p2 (0 : Int32) (1 : Int32)) H.size) (va_cwS 3 hts (gS tw_1111 tw_1112 tw_87 tw_1113) rfl rfl rfl (by decide +kernel) ⟨Nat.le_of_ble_eq_true rfl, Nat.le_of_ble_eq_true rfl⟩) (pS hS hAlo hlo hP hK (va_Dlo hD hAlo) hZ [] (by decide) rfl) rfl rfl hl.1 rfl (lv_room (Nat.le_of_ble_eq_true rfl)) dX8_end_25 ⟨Nat.le_of_ble_eq_true rfl, Nat.le_of_ble_eq_true rfl⟩) hS hA hP (fun r_5 H locs hw_5 hP hS => ?_)
      try dsimp only at hw_5
      rcases hw_5 with ⟨rfl, hw_5⟩ | ⟨rfl, hw_5⟩
      · refine lv_if_ne (tgt := 35) hx hb dX8_end_28 (by decide) (fun _ => ?_) (fun h => absurd h (by decide))
        refine lv_aload_n hx hb dX8_end_35 rfl (lv_at hl 0 rfl) ?_
        refine lv_iload_n hx hb dX8_end_36 rfl (lv_at hl 1 rfl) ?_
        refine rw_v (D := D) (wr := []) (va_runV (As := [.int (nI j_2)]) (rest := []) ⟨hx, hb, hml, hown, hts⟩ ((n_findWay l D k st lo a tx t0 we rd ru rw ca fp wd nu na ts df db sd dn se tm gs ffrees fprices fons fworths fstarts fends fgoesRound fbegin j_2 hdn hse htm (by first | assumption | omega) (by first | assumption | omega)) H.size) (cwV 1 hts (gV tw_1250 tw_1252 tw_49 tw_87 tw_1253) rfl rfl rfl (by decide +kernel) ⟨Nat.le_of_ble_eq_true rfl, Nat.le_of_ble_eq_true rfl⟩) (pV hS hAlo hlo hP hK (va_Dlo hD hAlo) hZ [0, 1, 2, 3, 4, 5, 6, 7, 8, 9, 10] (by decide +kernel) rfl (ci := 8) (q := (RX8, TX8, 44)) (q0 := 0) rfl rfl) rfl rfl hl.1 rfl (lv_room (Nat.le_of_ble_eq_true rfl)) dX8_end_37 ⟨Nat.le_of_ble_eq_true rfl, Nat.le_of_ble_eq_true rfl⟩) hS hA hP hD [0, 1, 2, 3, 4, 5, 6, 7, 8, 9, 10] [] rfl rfl (by decide +kernel) (by decide +kernel) (fun u H locs hw_6 hP hD hS => ?_)
        obtain ⟨fons__6, fworths__6, fstarts__6, fends__6, fgoesRound__6, fbegin__6⟩ := u
        replace hP : va_P D classes [((a 0), .inr (8, (fX8 a (nI tx) fp (nI t0) wd (nI we) nu na (nI rd) ts (nI ru) (nI rw) (nI ca) df db sd))), (aI k (a 1) 3 (nF dn)), (aI k (a 4) 27 (sg se tm gs)), (aI k (a 2) 72 ffrees), (aI k (a 3) 72 fprices), (aI k (a 18) 768 fons__6), (aI k (a 19) 768 fworths__6), (aI k (a 20) 5 fstarts__6), (aI k (a 21) 4 fends__6), (aZ k (a 22) 4 fgoesRound__6), (aI k (a 23) 8 fbegin__6)] H := hP
        replace hD : va_D A [((a 0), .inr (8, (fX8 a (nI tx) fp (nI t0) wd (nI we) nu na (nI rd) ts (nI ru) (nI rw) (nI ca) df db sd))), (aI k (a 1) 3 (nF dn)), (aI k (a 4) 27 (sg se tm gs)), (aI k (a 2) 72 ffrees), (aI k (a 3) 72 fprices), (aI k (a 18) 768 fons__6), (aI k (a 19) 768 fworths__6), (aI k (a 20) 5 fstarts__6), (aI k (a 21) 4 fends__6), (aZ k (a 22) 4 fgoesRound__6), (aI k (a 23) 8 fbegin__6)] := hD
        try dsimp only at hw_6
        refine lv_iload_n hx hb dX8_end_40 rfl (lv_at hl 3 rfl) ?_
        refine lv_if_ne (tgt := 53) hx hb dX8_end_41 (by decide) (fun c_7 => ?_) (fun c_7 => ?_)
        · refine lv_aload_n hx hb dX8_end_53 rfl (lv_at hl 0 rfl) ?_
          refine va_get (D := D) (ci := 8) (v := .ref (a 22)) (C := RX8) (T := TX8) (N := 44) hx hb hts inX8 hown hK hP 0 rfl rfl 21 (by decide) (hts _ tw_994) (fun _ h9 => h9) rfl dX8_end_54 ?_
          refine lv_iload_n hx hb dX8_end_57 rfl (lv_at hl 2 rfl) ?_
          refine va_zald hx hb hK hP 9 2 rfl rfl (vp_in_nI (by omega) (by decide)) dX8_end_58 ?_
          refine lv_ti (y := (fgoesRound__6 j_4)) (by rw [nI_clamp (by omega)]) ?_
          refine lv_if_eq (tgt := 66) hx hb dX8_end_59 (by decide) (fun c_8 => ?_) (fun c_8 => ?_)
          · refine lv_iconst (v := 0) hx hb dX8_end_66 (by decide) ?_
            have hP9 := hP.sub (ws' := [((a 0), .inr (8, (fX8 a (nI tx) fp (nI t0) wd (nI we) nu na (nI rd) ts (nI ru) (nI rw) (nI ca) df db sd))), (aI k (a 1) 3 (nF dn)), (aI k (a 4) 27 (sg se tm gs)), (aI k (a 2) 72 ffrees), (aI k (a 3) 72 fprices), (aI k (a 18) 768 fons__6), (aI k (a 19) 768 fworths__6), (aI k (a 20) 5 fstarts__6), (aI k (a 21) 4 fends__6), (aZ k (a 22) 4 fgoesRound__6), (aI k (a 23) 8 fbegin__6)]) [0, 1, 2, 3, 4, 5, 6, 7, 8, 9, 10] rfl
            have hD9 := hD.sub (ws' := [((a 0), .inr (8, (fX8 a (nI tx) fp (nI t0) wd (nI we) nu na (nI rd) ts (nI ru) (nI rw) (nI ca) df db sd))), (aI k (a 1) 3 (nF dn)), (aI k (a 4) 27 (sg se tm gs)), (aI k (a 2) 72 ffrees), (aI k (a 3) 72 fprices), (aI k (a 18) 768 fons__6), (aI k (a 19) 768 fworths__6), (aI k (a 20) 5 fstarts__6), (aI k (a 21) 4 fends__6), (aZ k (a 22) 4 fgoesRound__6), (aI k (a 23) 8 fbegin__6)]) [0, 1, 2, 3, 4, 5, 6, 7, 8, 9, 10] (by decide +kernel) rfl
            exact W.iret (v := 0) hx hb hr (fun t ht hW => ⟨⟨0, (fons__6, fworths__6, fstarts__6, fends__6, fgoesRound__6, fbegin__6), rfl, tq_at (s := j_2) (by omega) (show 0 < dn j_2 by omega) (en_1 (by omega) (by rw [rdM]; exact inr (by omega) (htm _)) (is01 hw_5 c_7) (grd_0 ((wm_of (hse _) (htm _) hw_6) j_4 (Nat.zero_le _) (show j_4 ≤ tmD (sdM dn (sg se tm gs) ffrees fprices j_2) by rw [tmM (htm _)]; omega)).2.2.1 c_8)), by rw [ht]; exact hP9, hD9⟩, hS.F ht⟩) hS.2.2 dX8_end_67
          · refine lv_iconst (v := 1) hx hb dX8_end_62 (by decide) ?_
            refine lv_goto (tgt := 67) hx hb dX8_end_63 (by decide) ?_
            have hP9 := hP.sub (ws' := [((a 0), .inr (8, (fX8 a (nI tx) fp (nI t0) wd (nI we) nu na (nI rd) ts (nI ru) (nI rw) (nI ca) df db sd))), (aI k (a 1) 3 (nF dn)), (aI k (a 4) 27 (sg se tm gs)), (aI k (a 2) 72 ffrees), (aI k (a 3) 72 fprices), (aI k (a 18) 768 fons__6), (aI k (a 19) 768 fworths__6), (aI k (a 20) 5 fstarts__6), (aI k (a 21) 4 fends__6), (aZ k (a 22) 4 fgoesRound__6), (aI k (a 23) 8 fbegin__6)]) [0, 1, 2, 3, 4, 5, 6, 7, 8, 9, 10] rfl
            have hD9 := hD.sub (ws' := [((a 0), .inr (8, (fX8 a (nI tx) fp (nI t0) wd (nI we) nu na (nI rd) ts (nI ru) (nI rw) (nI ca) df db sd))), (aI k (a 1) 3 (nF dn)), (aI k (a 4) 27 (sg se tm gs)), (aI k (a 2) 72 ffrees), (aI k (a 3) 72 fprices), (aI k (a 18) 768 fons__6), (aI k (a 19) 768 fworths__6), (aI k (a 20) 5 fstarts__6), (aI k (a 21) 4 fends__6), (aZ k (a 22) 4 fgoesRound__6), (aI k (a 23) 8 fbegin__6)]) [0, 1, 2, 3, 4, 5, 6, 7, 8, 9, 10] (by decide +kernel) rfl
            exact W.iret (v := 1) hx hb hr (fun t ht hW => ⟨⟨1, (fons__6, fworths__6, fstarts__6, fends__6, fgoesRound__6, fbegin__6), rfl, tq_at (s := j_2) (by omega) (show 0 < dn j_2 by omega) (en_1 (by omega) (by rw [rdM]; exact inr (by omega) (htm _)) (is01 hw_5 c_7) (grd_1 ((wm_of (hse _) (htm _) hw_6) j_4 (Nat.zero_le _) (show j_4 ≤ tmD (sdM dn (sg se tm gs) ffrees fprices j_2) by rw [tmM (htm _)]; omega)).2.2.1 c_8)), by rw [ht]; exact hP9, hD9⟩, hS.F ht⟩) hS.2.2 dX8_end_67
        · refine lv_aload_n hx hb dX8_end_44 rfl (lv_at hl 0 rfl) ?_
          refine va_get (D := D) (ci := 8) (v := .ref (a 21)) (C := RX8) (T := TX8) (N := 44) hx hb hts inX8 hown hK hP 0 rfl rfl 20 (by decide) (hts _ tw_993) (fun _ h9 => h9) rfl dX8_end_45 ?_
          refine lv_iload_n hx hb dX8_end_48 rfl (lv_at hl 2 rfl) ?_
          refine va_iald hx hb hK hP 8 1 rfl rfl (vp_in_nI (by omega) (by decide)) dX8_end_49 ?_
          refine lv_ti (y := (fends__6 j_4)) (by rw [nI_clamp (by omega)]) ?_
          refine lv_goto (tgt := 67) hx hb dX8_end_50 (by decide) ?_
          have hP9 := hP.sub (ws' := [((a 0), .inr (8, (fX8 a (nI tx) fp (nI t0) wd (nI we) nu na (nI rd) ts (nI ru) (nI rw) (nI ca) df db sd))), (aI k (a 1) 3 (nF dn)), (aI k (a 4) 27 (sg se tm gs)), (aI k (a 2) 72 ffrees), (aI k (a 3) 72 fprices), (aI k (a 18) 768 fons__6), (aI k (a 19) 768 fworths__6), (aI k (a 20) 5 fstarts__6), (aI k (a 21) 4 fends__6), (aZ k (a 22) 4 fgoesRound__6), (aI k (a 23) 8 fbegin__6)]) [0, 1, 2, 3, 4, 5, 6, 7, 8, 9, 10] rfl
          have hD9 := hD.sub (ws' := [((a 0), .inr (8, (fX8 a (nI tx) fp (nI t0) wd (nI we) nu na (nI rd) ts (nI ru) (nI rw) (nI ca) df db sd))), (aI k (a 1) 3 (nF dn)), (aI k (a 4) 27 (sg se tm gs)), (aI k (a 2) 72 ffrees), (aI k (a 3) 72 fprices), (aI k (a 18) 768 fons__6), (aI k (a 19) 768 fworths__6), (aI k (a 20) 5 fstarts__6), (aI k (a 21) 4 fends__6), (aZ k (a 22) 4 fgoesRound__6), (aI k (a 23) 8 fbegin__6)]) [0, 1, 2, 3, 4, 5, 6, 7, 8, 9, 10] (by decide +kernel) rfl
          exact W.iret (v := (fends__6 j_4)) hx hb hr (fun t ht hW => ⟨⟨(fends__6 j_4), (fons__6, fworths__6, fstarts__6, fends__6, fgoesRound__6, fbegin__6), rfl, tq_at (s := j_2) (by omega) (show 0 < dn j_2 by omega) (en_0 (by omega) (by rw [rdM]; exact inr (by omega) (htm _)) c_7 ((wm_of (hse _) (htm _) hw_6) j_4 (Nat.zero_le _) (show j_4 ≤ tmD (sdM dn (sg se tm gs) ffrees fprices j_2) by rw [tmM (htm _)]; omega)).1), by rw [ht]; exact hP9, hD9⟩, hS.F ht⟩) hS.2.2 dX8_end_67
      · refine lv_if_ne (tgt := 35) hx hb dX8_end_28 (by decide) (fun h => absurd (by decide) h) (fun _ => ?_)
        refine lv_sipush (v := (-1002)) hx hb dX8_end_31 (by decide) ?_
        have hP9 := hP.sub (ws' := [((a 0), .inr (8, (fX8 a (nI tx) fp (nI t0) wd (nI we) nu na (nI rd) ts (nI ru) (nI rw) (nI ca) df db sd))), (aI k (a 1) 3 (nF dn)), (aI k (a 4) 27 (sg se tm gs)), (aI k (a 2) 72 ffrees), (aI k (a 3) 72 fprices), (aI k (a 18) 768 fons), (aI k (a 19) 768 fworths), (aI k (a 20) 5 fstarts), (aI k (a 21) 4 fends), (aZ k (a 22) 4 fgoesRound), (aI k (a 23) 8 fbegin)]) [0, 1, 2, 3, 4, 5, 6, 7, 8, 9, 10] rfl
        have hD9 := hD.sub (ws' := [((a 0), .inr (8, (fX8 a (nI tx) fp (nI t0) wd (nI we) nu na (nI rd) ts (nI ru) (nI rw) (nI ca) df db sd))), (aI k (a 1) 3 (nF dn)), (aI k (a 4) 27 (sg se tm gs)), (aI k (a 2) 72 ffrees), (aI k (a 3) 72 fprices), (aI k (a 18) 768 fons), (aI k (a 19) 768 fworths), (aI k (a 20) 5 fstarts), (aI k (a 21) 4 fends), (aZ k (a 22) 4 fgoesRound), (aI k (a 23) 8 fbegin)]) [0, 1, 2, 3, 4, 5, 6, 7, 8, 9, 10] (by decide +kernel) rfl
        exact W.iret (v := (-1002)) hx hb hr (fun t ht hW => ⟨⟨(-1002), (fons, fworths, fstarts, fends, fgoesRound, fbegin), rfl, tq_at (s := j_2) (by omega) (show 0 < dn j_2 by omega) (en_o (fun h => absurd h.2 hw_5)), by rw [ht]; exact hP9, hD9⟩, hS.F ht⟩) hS.2.2 dX8_end_34
    · refine lv_if_eq (tgt := 31) hx hb dX8_end_18 (by decide) (fun _ => ?_) (fun h => absurd (by decide) h)
      refine lv_sipush (v := (-1002)) hx hb dX8_end_31 (by decide) ?_
      have hP9 := hP.sub (ws' := [((a 0), .inr (8, (fX8 a (nI tx) fp (nI t0) wd (nI we) nu na (nI rd) ts (nI ru) (nI rw) (nI ca) df db sd))), (aI k (a 1) 3 (nF dn)), (aI k (a 4) 27 (sg se tm gs)), (aI k (a 2) 72 ffrees), (aI k (a 3) 72 fprices), (aI k (a 18) 768 fons), (aI k (a 19) 768 fworths), (aI k (a 20) 5 fstarts), (aI k (a 21) 4 fends), (aZ k (a 22) 4 fgoesRound), (aI k (a 23) 8 fbegin)]) [0, 1, 2, 3, 4, 5, 6, 7, 8, 9, 10] rfl
      have hD9 := hD.sub (ws' := [((a 0), .inr (8, (fX8 a (nI tx) fp (nI t0) wd (nI we) nu na (nI rd) ts (nI ru) (nI rw) (nI ca) df db sd))), (aI k (a 1) 3 (nF dn)), (aI k (a 4) 27 (sg se tm gs)), (aI k (a 2) 72 ffrees), (aI k (a 3) 72 fprices), (aI k (a 18) 768 fons), (aI k (a 19) 768 fworths), (aI k (a 20) 5 fstarts), (aI k (a 21) 4 fends), (aZ k (a 22) 4 fgoesRound), (aI k (a 23) 8 fbegin)]) [0, 1, 2, 3, 4, 5, 6, 7, 8, 9, 10] (by decide +kernel) rfl
      exact W.iret (v := (-1002)) hx hb hr (fun t ht hW => ⟨⟨(-1002), (fons, fworths, fstarts, fends, fgoesRound, fbegin), rfl, tq_at (s := j_2) (by omega) (show 0 < dn j_2 by omega) (en_o (fun h => absurd h.1 (by rw [rdM]; exact hw_3))), by rw [ht]; exact hP9, hD9⟩, hS.F ht⟩) hS.2.2 dX8_end_34
  · refine lv_if_ne (tgt := 12) hx hb dX8_end_5 (by decide) (fun h => absurd (by decide) h) (fun _ => ?_)
    refine lv_sipush (v := (-1001)) hx hb dX8_end_8 (by decide) ?_
    have hP9 := hP.sub (ws' := [((a 0), .inr (8, (fX8 a (nI tx) fp (nI t0) wd (nI we) nu na (nI rd) ts (nI ru) (nI rw) (nI ca) df db sd))), (aI k (a 1) 3 (nF dn)), (aI k (a 4) 27 (sg se tm gs)), (aI k (a 2) 72 ffrees), (aI k (a 3) 72 fprices), (aI k (a 18) 768 fons), (aI k (a 19) 768 fworths), (aI k (a 20) 5 fstarts), (aI k (a 21) 4 fends), (aZ k (a 22) 4 fgoesRound), (aI k (a 23) 8 fbegin)]) [0, 1, 2, 3, 4, 5, 6, 7, 8, 9, 10] rfl
    have hD9 := hD.sub (ws' := [((a 0), .inr (8, (fX8 a (nI tx) fp (nI t0) wd (nI we) nu na (nI rd) ts (nI ru) (nI rw) (nI ca) df db sd))), (aI k (a 1) 3 (nF dn)), (aI k (a 4) 27 (sg se tm gs)), (aI k (a 2) 72 ffrees), (aI k (a 3) 72 fprices), (aI k (a 18) 768 fons), (aI k (a 19) 768 fworths), (aI k (a 20) 5 fstarts), (aI k (a 21) 4 fends), (aZ k (a 22) 4 fgoesRound), (aI k (a 23) 8 fbegin)]) [0, 1, 2, 3, 4, 5, 6, 7, 8, 9, 10] (by decide +kernel) rfl
    exact W.iret (v := (-1001)) hx hb hr (fun t ht hW => ⟨⟨(-1001), (fons, fworths, fstarts, fends, fgoesRound, fbegin), rfl, tq_no (fun s h1 h2 h3 => hw_1 s h1 h2 h3), by rw [ht]; exact hP9, hD9⟩, hS.F ht⟩) hS.2.2 dX8_end_11


set_option maxHeartbeats 4000000 in
set_option maxRecDepth 100000 in
theorem n_which (l : Launch) (D : va_G) (k : Nat → ClassId) (st : Nat → Nat) (lo : Nat) (a : Nat → Nat) (tx : Nat) (t0 : Nat) (we : Nat) (rd : Nat) (ru : Nat) (rw : Nat) (ca : Nat) (fp : Int32) (wd : Int64) (nu : Int32) (na : Int32) (ts : Int32) (df : Int32) (db : Int32) (sd : Int32) (dn : Nat → Nat) (se : Nat → Nat) (tm : Nat → Nat) (gs : Nat → Int32) (ffrees : Nat → Int32) (fprices : Nat → Int32) (fons : Nat → Int32) (fworths : Nat → Int32) (fstarts : Nat → Int32) (fends : Nat → Int32) (fgoesRound : Nat → Int32) (fbegin : Nat → Int32) (p0 : Int32) (p1 : Int32) (hdn : ∀ j, dn j ≤ 24) (hse : ∀ j, se j ≤ 2) (htm : ∀ j, tm j ≤ 3) : CWi l D k st lo yX8_which cX8_which 4 (some .int) ({ frames := 6, cells := 0, slots := 0, locals := 144 }) 0 0 [.ref (a 0), .int p0, .int p1] [((a 0), .inr (8, (fX8 a (nI tx) fp (nI t0) wd (nI we) nu na (nI rd) ts (nI ru) (nI rw) (nI ca) df db sd))), (aI k (a 1) 3 (nF dn)), (aI k (a 4) 27 (sg se tm gs)), (aI k (a 2) 72 ffrees), (aI k (a 3) 72 fprices), (aI k (a 18) 768 fons), (aI k (a 19) 768 fworths), (aI k (a 20) 5 fstarts), (aI k (a 21) 4 fends), (aZ k (a 22) 4 fgoesRound), (aI k (a 23) 8 fbegin)] (fun (r : Int32) (u : (Nat → Int32) × (Nat → Int32) × (Nat → Int32) × (Nat → Int32) × (Nat → Int32) × (Nat → Int32)) => match u with | (fons_, fworths_, fstarts_, fends_, fgoesRound_, fbegin_) => wcP (sdM dn (sg se tm gs) ffrees fprices) p0 p1 r) (fun (u : (Nat → Int32) × (Nat → Int32) × (Nat → Int32) × (Nat → Int32) × (Nat → Int32) × (Nat → Int32)) => match u with | (fons_, fworths_, fstarts_, fends_, fgoesRound_, fbegin_) => [((a 0), .inr (8, (fX8 a (nI tx) fp (nI t0) wd (nI we) nu na (nI rd) ts (nI ru) (nI rw) (nI ca) df db sd))), (aI k (a 1) 3 (nF dn)), (aI k (a 4) 27 (sg se tm gs)), (aI k (a 2) 72 ffrees), (aI k (a 3) 72 fprices), (aI k (a 18) 768 fons_), (aI k (a 19) 768 fworths_), (aI k (a 20) 5 fstarts_), (aI k (a 21) 4 fends_), (aZ k (a 22) 4 fgoesRound_), (aI k (a 23) 8 fbegin_)]) := by
  intro sz
  refine Met.ofW (cc := cX8_which) (maxL := 4) (ret := (some .int)) (by decide) rfl ?_
  intro p e s m args below meth c s₁ B hml hv
  obtain ⟨rfl, hsz, hlo, hP, hK, hDL, hZ⟩ := hv
  have hx := B.exec
  have hb := B.bytes
  have hr := B.returns
  have hts := WS_ts B.pre
  have hown : s.vm.findClass RX8 = some m.cls := findClass_of_methodNamed B.named
  have hlocks := B.notSynchronized
  subst hsz
  have hD := hDL.self (sz := s.heap.size)
  have hAlo := A_lo hDL hlo
  generalize hAe : va_A [((a 0), .inr (8, (fX8 a (nI tx) fp (nI t0) wd (nI we) nu na (nI rd) ts (nI ru) (nI rw) (nI ca) df db sd))), (aI k (a 1) 3 (nF dn)), (aI k (a 4) 27 (sg se tm gs)), (aI k (a 2) 72 ffrees), (aI k (a 3) 72 fprices), (aI k (a 18) 768 fons), (aI k (a 19) 768 fworths), (aI k (a 20) 5 fstarts), (aI k (a 21) 4 fends), (aZ k (a 22) 4 fgoesRound), (aI k (a 23) 8 fbegin)] s.heap.size = A at hD hAlo ⊢
  have hA : ∀ q : Nat, s.heap.size ≤ q → A q := fun q h => by rw [← hAe]; exact Or.inr h
  have hS : va_S A s.heap s.heap [] := va_S.rf
  have hl := lv_entry ([.ref (a 0), .int p0, .int p1]) (n := 4) (Nat.le_of_ble_eq_true rfl)
  rw [lg_entry_eq]
  generalize (lg_sl ([.ref (a 0), .int p0, .int p1]) ++ List.replicate (4 - (lg_sl ([.ref (a 0), .int p0, .int p1])).length) Slot.unset).toArray = ls at hl ⊢
  have hl : lv_has ls 4 [(0, .ref (a 0)), (1, .int p0), (2, .int p1)] := hl
  refine lv_aload_n hx hb dX8_which_0 rfl (lv_at hl 0 rfl) ?_
  refine lv_iload_n hx hb dX8_which_1 rfl (lv_at hl 1 rfl) ?_
  refine ro_i (D := D) (va_runV (As := [.int p0]) (rest := []) ⟨hx, hb, hml, hown, hts⟩ ((n_isStreet l D k st lo a tx t0 we rd ru rw ca fp wd nu na ts df db sd dn p0 hdn) s.heap.size) (cwV 1 hts (gV tw_1189 tw_1191 tw_38 tw_87 tw_1192) rfl rfl rfl (by decide +kernel) ⟨Nat.le_of_ble_eq_true rfl, Nat.le_of_ble_eq_true rfl⟩) (pV hS hAlo hlo hP hK (va_Dlo hD hAlo) hZ [0, 1] (by decide) rfl (ci := 8) (q := (RX8, TX8, 44)) (q0 := 0) rfl rfl) rfl rfl hl.1 rfl (lv_room (Nat.le_of_ble_eq_true rfl)) dX8_which_2 ⟨Nat.le_of_ble_eq_true rfl, Nat.le_of_ble_eq_true rfl⟩) hS hA hP (fun r_1 H locs hw_1 hP hS => ?_)
  try dsimp only at hw_1
  rcases hw_1 with ⟨rfl, j_2, hj_2, rfl, hw_1⟩ | ⟨rfl, hw_1⟩
  · have hdj_2 := hdn j_2
    have htj_2 := htm j_2
    refine lv_if_eq (tgt := 16) hx hb dX8_which_5 (by decide) (fun h => absurd h (by decide)) (fun _ => ?_)
    refine lv_aload_n hx hb dX8_which_8 rfl (lv_at hl 0 rfl) ?_
    refine lv_iload_n hx hb dX8_which_9 rfl (lv_at hl 2 rfl) ?_
    refine ro_i (D := D) (va_runV (As := [.int p1]) (rest := []) ⟨hx, hb, hml, hown, hts⟩ ((n_isStreet l D k st lo a tx t0 we rd ru rw ca fp wd nu na ts df db sd dn p1 hdn) H.size) (cwV 1 hts (gV tw_1189 tw_1191 tw_38 tw_87 tw_1192) rfl rfl rfl (by decide +kernel) ⟨Nat.le_of_ble_eq_true rfl, Nat.le_of_ble_eq_true rfl⟩) (pV hS hAlo hlo hP hK (va_Dlo hD hAlo) hZ [0, 1] (by decide) rfl (ci := 8) (q := (RX8, TX8, 44)) (q0 := 0) rfl rfl) rfl rfl hl.1 rfl (lv_room (Nat.le_of_ble_eq_true rfl)) dX8_which_10 ⟨Nat.le_of_ble_eq_true rfl, Nat.le_of_ble_eq_true rfl⟩) hS hA hP (fun r_3 H locs hw_3 hP hS => ?_)
    try dsimp only at hw_3
    rcases hw_3 with ⟨rfl, j_4, hj_4, rfl, hw_3⟩ | ⟨rfl, hw_3⟩
    · have hdj_4 := hdn j_4
      have htj_4 := htm j_4
      refine lv_if_ne (tgt := 20) hx hb dX8_which_13 (by decide) (fun _ => ?_) (fun h => absurd h (by decide))
      refine lv_aload_n hx hb dX8_which_20 rfl (lv_at hl 0 rfl) ?_
      refine lv_iload_n hx hb dX8_which_21 rfl (lv_at hl 1 rfl) ?_
      refine rw_v (D := D) (wr := []) (va_runV (As := [.int (nI j_2)]) (rest := []) ⟨hx, hb, hml, hown, hts⟩ ((n_findWay l D k st lo a tx t0 we rd ru rw ca fp wd nu na ts df db sd dn se tm gs ffrees fprices fons fworths fstarts fends fgoesRound fbegin j_2 hdn hse htm (by first | assumption | omega) (by first | assumption | omega)) H.size) (cwV 1 hts (gV tw_1250 tw_1252 tw_49 tw_87 tw_1253) rfl rfl rfl (by decide +kernel) ⟨Nat.le_of_ble_eq_true rfl, Nat.le_of_ble_eq_true rfl⟩) (pV hS hAlo hlo hP hK (va_Dlo hD hAlo) hZ [0, 1, 2, 3, 4, 5, 6, 7, 8, 9, 10] (by decide +kernel) rfl (ci := 8) (q := (RX8, TX8, 44)) (q0 := 0) rfl rfl) rfl rfl hl.1 rfl (lv_room (Nat.le_of_ble_eq_true rfl)) dX8_which_22 ⟨Nat.le_of_ble_eq_true rfl, Nat.le_of_ble_eq_true rfl⟩) hS hA hP hD [0, 1, 2, 3, 4, 5, 6, 7, 8, 9, 10] [] rfl rfl (by decide +kernel) (by decide +kernel) (fun u H locs hw_5 hP hD hS => ?_)
      obtain ⟨fons__5, fworths__5, fstarts__5, fends__5, fgoesRound__5, fbegin__5⟩ := u
      replace hP : va_P D classes [((a 0), .inr (8, (fX8 a (nI tx) fp (nI t0) wd (nI we) nu na (nI rd) ts (nI ru) (nI rw) (nI ca) df db sd))), (aI k (a 1) 3 (nF dn)), (aI k (a 4) 27 (sg se tm gs)), (aI k (a 2) 72 ffrees), (aI k (a 3) 72 fprices), (aI k (a 18) 768 fons__5), (aI k (a 19) 768 fworths__5), (aI k (a 20) 5 fstarts__5), (aI k (a 21) 4 fends__5), (aZ k (a 22) 4 fgoesRound__5), (aI k (a 23) 8 fbegin__5)] H := hP
      replace hD : va_D A [((a 0), .inr (8, (fX8 a (nI tx) fp (nI t0) wd (nI we) nu na (nI rd) ts (nI ru) (nI rw) (nI ca) df db sd))), (aI k (a 1) 3 (nF dn)), (aI k (a 4) 27 (sg se tm gs)), (aI k (a 2) 72 ffrees), (aI k (a 3) 72 fprices), (aI k (a 18) 768 fons__5), (aI k (a 19) 768 fworths__5), (aI k (a 20) 5 fstarts__5), (aI k (a 21) 4 fends__5), (aZ k (a 22) 4 fgoesRound__5), (aI k (a 23) 8 fbegin__5)] := hD
      try dsimp only at hw_5
      refine lv_aload_n hx hb dX8_which_25 rfl (lv_at hl 0 rfl) ?_
      refine va_get (D := D) (ci := 8) (v := .ref (a 20)) (C := RX8) (T := TX8) (N := 44) hx hb hts inX8 hown hK hP 0 rfl rfl 19 (by decide) (hts _ tw_992) (fun _ h9 => h9) rfl dX8_which_26 ?_
      refine lv_iconst (v := 0) hx hb dX8_which_29 (by decide) ?_
      refine va_iald hx hb hK hP 7 1 rfl rfl (by unfold vp_in; decide) dX8_which_30 ?_
      refine lv_ti (y := (fstarts__5 0)) (by rfl) ?_
      refine lv_istore_n (lv' := [(3, .int (fstarts__5 0)), (0, .ref (a 0)), (1, .int (nI j_2)), (2, .int (nI j_4))]) hx hb dX8_which_31 rfl hl (by decide) rfl (fun ls hl => ?_)
      refine lv_aload_n hx hb dX8_which_32 rfl (lv_at hl 1 rfl) ?_
      refine lv_iload_n hx hb dX8_which_33 rfl (lv_at hl 3 rfl) ?_
      refine rw_v (D := D) (wr := []) (va_runV (As := [.int (nI j_4)]) (rest := []) ⟨hx, hb, hml, hown, hts⟩ ((n_findWay l D k st lo a tx t0 we rd ru rw ca fp wd nu na ts df db sd dn se tm gs ffrees fprices fons__5 fworths__5 fstarts__5 fends__5 fgoesRound__5 fbegin__5 j_4 hdn hse htm (by first | assumption | omega) (by first | assumption | omega)) H.size) (cwV 1 hts (gV tw_1250 tw_1252 tw_49 tw_87 tw_1253) rfl rfl rfl (by decide +kernel) ⟨Nat.le_of_ble_eq_true rfl, Nat.le_of_ble_eq_true rfl⟩) (pV hS hAlo hlo hP hK (va_Dlo hD hAlo) hZ [0, 1, 2, 3, 4, 5, 6, 7, 8, 9, 10] (by decide +kernel) rfl (ci := 8) (q := (RX8, TX8, 44)) (q0 := 0) rfl rfl) rfl rfl hl.1 rfl (lv_room (Nat.le_of_ble_eq_true rfl)) dX8_which_34 ⟨Nat.le_of_ble_eq_true rfl, Nat.le_of_ble_eq_true rfl⟩) hS hA hP hD [0, 1, 2, 3, 4, 5, 6, 7, 8, 9, 10] [] rfl rfl (by decide +kernel) (by decide +kernel) (fun u H locs hw_6 hP hD hS => ?_)
      obtain ⟨fons__6, fworths__6, fstarts__6, fends__6, fgoesRound__6, fbegin__6⟩ := u
      replace hP : va_P D classes [((a 0), .inr (8, (fX8 a (nI tx) fp (nI t0) wd (nI we) nu na (nI rd) ts (nI ru) (nI rw) (nI ca) df db sd))), (aI k (a 1) 3 (nF dn)), (aI k (a 4) 27 (sg se tm gs)), (aI k (a 2) 72 ffrees), (aI k (a 3) 72 fprices), (aI k (a 18) 768 fons__6), (aI k (a 19) 768 fworths__6), (aI k (a 20) 5 fstarts__6), (aI k (a 21) 4 fends__6), (aZ k (a 22) 4 fgoesRound__6), (aI k (a 23) 8 fbegin__6)] H := hP
      replace hD : va_D A [((a 0), .inr (8, (fX8 a (nI tx) fp (nI t0) wd (nI we) nu na (nI rd) ts (nI ru) (nI rw) (nI ca) df db sd))), (aI k (a 1) 3 (nF dn)), (aI k (a 4) 27 (sg se tm gs)), (aI k (a 2) 72 ffrees), (aI k (a 3) 72 fprices), (aI k (a 18) 768 fons__6), (aI k (a 19) 768 fworths__6), (aI k (a 20) 5 fstarts__6), (aI k (a 21) 4 fends__6), (aZ k (a 22) 4 fgoesRound__6), (aI k (a 23) 8 fbegin__6)] := hD
      try dsimp only at hw_6
      refine lv_aload_n hx hb dX8_which_37 rfl (lv_at hl 1 rfl) ?_
      refine va_get (D := D) (ci := 8) (v := .ref (a 20)) (C := RX8) (T := TX8) (N := 44) hx hb hts inX8 hown hK hP 0 rfl rfl 19 (by decide) (hts _ tw_992) (fun _ h9 => h9) rfl dX8_which_38 ?_
      refine lv_iconst (v := 0) hx hb dX8_which_41 (by decide) ?_
      refine va_iald hx hb hK hP 7 1 rfl rfl (by unfold vp_in; decide) dX8_which_42 ?_
      refine lv_ti (y := (fstarts__6 0)) (by rfl) ?_
      refine lv_iload_n hx hb dX8_which_43 rfl (lv_at hl 0 rfl) ?_
      refine lv_icmp_ge (tgt := 51) hx hb dX8_which_44 (by decide) (fun c_7 => ?_) (fun c_7 => ?_)
      · refine lv_iload_n hx hb dX8_which_51 rfl (lv_at hl 2 rfl) ?_
        have hP9 := hP.sub (ws' := [((a 0), .inr (8, (fX8 a (nI tx) fp (nI t0) wd (nI we) nu na (nI rd) ts (nI ru) (nI rw) (nI ca) df db sd))), (aI k (a 1) 3 (nF dn)), (aI k (a 4) 27 (sg se tm gs)), (aI k (a 2) 72 ffrees), (aI k (a 3) 72 fprices), (aI k (a 18) 768 fons__6), (aI k (a 19) 768 fworths__6), (aI k (a 20) 5 fstarts__6), (aI k (a 21) 4 fends__6), (aZ k (a 22) 4 fgoesRound__6), (aI k (a 23) 8 fbegin__6)]) [0, 1, 2, 3, 4, 5, 6, 7, 8, 9, 10] rfl
        have hD9 := hD.sub (ws' := [((a 0), .inr (8, (fX8 a (nI tx) fp (nI t0) wd (nI we) nu na (nI rd) ts (nI ru) (nI rw) (nI ca) df db sd))), (aI k (a 1) 3 (nF dn)), (aI k (a 4) 27 (sg se tm gs)), (aI k (a 2) 72 ffrees), (aI k (a 3) 72 fprices), (aI k (a 18) 768 fons__6), (aI k (a 19) 768 fworths__6), (aI k (a 20) 5 fstarts__6), (aI k (a 21) 4 fends__6), (aZ k (a 22) 4 fgoesRound__6), (aI k (a 23) 8 fbegin__6)]) [0, 1, 2, 3, 4, 5, 6, 7, 8, 9, 10] (by decide +kernel) rfl
        exact W.iret (v := (nI j_2)) hx hb hr (fun t ht hW => ⟨⟨(nI j_2), (fons__6, fworths__6, fstarts__6, fends__6, fgoesRound__6, fbegin__6), rfl, wc_at (s := j_2) (t := j_4) (by omega) (by omega) (show 0 < dn j_2 by omega) (show 0 < dn j_4 by omega) (by have h8 : _ = wayS (sdM dn (sg se tm gs) ffrees fprices j_2) 0 := ((wm_of (hse _) (htm _) hw_5) 0 (Nat.zero_le _) (Nat.zero_le _)).2.1; have h9 : _ = wayS (sdM dn (sg se tm gs) ffrees fprices j_4) 0 := ((wm_of (hse _) (htm _) hw_6) 0 (Nat.zero_le _) (Nat.zero_le _)).2.1; rw [if_neg (show ¬ wayS (sdM dn (sg se tm gs) ffrees fprices j_4) 0 < wayS (sdM dn (sg se tm gs) ffrees fprices j_2) 0 by rw [← h8, ← h9]; exact Int32.not_lt.mpr c_7)]), by rw [ht]; exact hP9, hD9⟩, hS.F ht⟩) hS.2.2 dX8_which_52
      · refine lv_iload_n hx hb dX8_which_47 rfl (lv_at hl 3 rfl) ?_
        refine lv_goto (tgt := 52) hx hb dX8_which_48 (by decide) ?_
        have hP9 := hP.sub (ws' := [((a 0), .inr (8, (fX8 a (nI tx) fp (nI t0) wd (nI we) nu na (nI rd) ts (nI ru) (nI rw) (nI ca) df db sd))), (aI k (a 1) 3 (nF dn)), (aI k (a 4) 27 (sg se tm gs)), (aI k (a 2) 72 ffrees), (aI k (a 3) 72 fprices), (aI k (a 18) 768 fons__6), (aI k (a 19) 768 fworths__6), (aI k (a 20) 5 fstarts__6), (aI k (a 21) 4 fends__6), (aZ k (a 22) 4 fgoesRound__6), (aI k (a 23) 8 fbegin__6)]) [0, 1, 2, 3, 4, 5, 6, 7, 8, 9, 10] rfl
        have hD9 := hD.sub (ws' := [((a 0), .inr (8, (fX8 a (nI tx) fp (nI t0) wd (nI we) nu na (nI rd) ts (nI ru) (nI rw) (nI ca) df db sd))), (aI k (a 1) 3 (nF dn)), (aI k (a 4) 27 (sg se tm gs)), (aI k (a 2) 72 ffrees), (aI k (a 3) 72 fprices), (aI k (a 18) 768 fons__6), (aI k (a 19) 768 fworths__6), (aI k (a 20) 5 fstarts__6), (aI k (a 21) 4 fends__6), (aZ k (a 22) 4 fgoesRound__6), (aI k (a 23) 8 fbegin__6)]) [0, 1, 2, 3, 4, 5, 6, 7, 8, 9, 10] (by decide +kernel) rfl
        exact W.iret (v := (nI j_4)) hx hb hr (fun t ht hW => ⟨⟨(nI j_4), (fons__6, fworths__6, fstarts__6, fends__6, fgoesRound__6, fbegin__6), rfl, wc_at (s := j_2) (t := j_4) (by omega) (by omega) (show 0 < dn j_2 by omega) (show 0 < dn j_4 by omega) (by have h8 : _ = wayS (sdM dn (sg se tm gs) ffrees fprices j_2) 0 := ((wm_of (hse _) (htm _) hw_5) 0 (Nat.zero_le _) (Nat.zero_le _)).2.1; have h9 : _ = wayS (sdM dn (sg se tm gs) ffrees fprices j_4) 0 := ((wm_of (hse _) (htm _) hw_6) 0 (Nat.zero_le _) (Nat.zero_le _)).2.1; rw [if_pos (show wayS (sdM dn (sg se tm gs) ffrees fprices j_4) 0 < wayS (sdM dn (sg se tm gs) ffrees fprices j_2) 0 by rw [← h8, ← h9]; exact Int32.not_le.mp c_7)]), by rw [ht]; exact hP9, hD9⟩, hS.F ht⟩) hS.2.2 dX8_which_52
    · refine lv_if_ne (tgt := 20) hx hb dX8_which_13 (by decide) (fun h => absurd (by decide) h) (fun _ => ?_)
      refine lv_sipush (v := (-1001)) hx hb dX8_which_16 (by decide) ?_
      have hP9 := hP.sub (ws' := [((a 0), .inr (8, (fX8 a (nI tx) fp (nI t0) wd (nI we) nu na (nI rd) ts (nI ru) (nI rw) (nI ca) df db sd))), (aI k (a 1) 3 (nF dn)), (aI k (a 4) 27 (sg se tm gs)), (aI k (a 2) 72 ffrees), (aI k (a 3) 72 fprices), (aI k (a 18) 768 fons), (aI k (a 19) 768 fworths), (aI k (a 20) 5 fstarts), (aI k (a 21) 4 fends), (aZ k (a 22) 4 fgoesRound), (aI k (a 23) 8 fbegin)]) [0, 1, 2, 3, 4, 5, 6, 7, 8, 9, 10] rfl
      have hD9 := hD.sub (ws' := [((a 0), .inr (8, (fX8 a (nI tx) fp (nI t0) wd (nI we) nu na (nI rd) ts (nI ru) (nI rw) (nI ca) df db sd))), (aI k (a 1) 3 (nF dn)), (aI k (a 4) 27 (sg se tm gs)), (aI k (a 2) 72 ffrees), (aI k (a 3) 72 fprices), (aI k (a 18) 768 fons), (aI k (a 19) 768 fworths), (aI k (a 20) 5 fstarts), (aI k (a 21) 4 fends), (aZ k (a 22) 4 fgoesRound), (aI k (a 23) 8 fbegin)]) [0, 1, 2, 3, 4, 5, 6, 7, 8, 9, 10] (by decide +kernel) rfl
      exact W.iret (v := (-1001)) hx hb hr (fun t ht hW => ⟨⟨(-1001), (fons, fworths, fstarts, fends, fgoesRound, fbegin), rfl, wc_no1 (fun s h1 h2 h3 => hw_3 s h1 h2 h3), by rw [ht]; exact hP9, hD9⟩, hS.F ht⟩) hS.2.2 dX8_which_19
  · refine lv_if_eq (tgt := 16) hx hb dX8_which_5 (by decide) (fun _ => ?_) (fun h => absurd (by decide) h)
    refine lv_sipush (v := (-1001)) hx hb dX8_which_16 (by decide) ?_
    have hP9 := hP.sub (ws' := [((a 0), .inr (8, (fX8 a (nI tx) fp (nI t0) wd (nI we) nu na (nI rd) ts (nI ru) (nI rw) (nI ca) df db sd))), (aI k (a 1) 3 (nF dn)), (aI k (a 4) 27 (sg se tm gs)), (aI k (a 2) 72 ffrees), (aI k (a 3) 72 fprices), (aI k (a 18) 768 fons), (aI k (a 19) 768 fworths), (aI k (a 20) 5 fstarts), (aI k (a 21) 4 fends), (aZ k (a 22) 4 fgoesRound), (aI k (a 23) 8 fbegin)]) [0, 1, 2, 3, 4, 5, 6, 7, 8, 9, 10] rfl
    have hD9 := hD.sub (ws' := [((a 0), .inr (8, (fX8 a (nI tx) fp (nI t0) wd (nI we) nu na (nI rd) ts (nI ru) (nI rw) (nI ca) df db sd))), (aI k (a 1) 3 (nF dn)), (aI k (a 4) 27 (sg se tm gs)), (aI k (a 2) 72 ffrees), (aI k (a 3) 72 fprices), (aI k (a 18) 768 fons), (aI k (a 19) 768 fworths), (aI k (a 20) 5 fstarts), (aI k (a 21) 4 fends), (aZ k (a 22) 4 fgoesRound), (aI k (a 23) 8 fbegin)]) [0, 1, 2, 3, 4, 5, 6, 7, 8, 9, 10] (by decide +kernel) rfl
    exact W.iret (v := (-1001)) hx hb hr (fun t ht hW => ⟨⟨(-1001), (fons, fworths, fstarts, fends, fgoesRound, fbegin), rfl, wc_no0 (fun s h1 h2 h3 => hw_1 s h1 h2 h3), by rw [ht]; exact hP9, hD9⟩, hS.F ht⟩) hS.2.2 dX8_which_19


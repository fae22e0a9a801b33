theorem f_glueP7 : True := trivial
theorem nuS_in {b : Nat → Int32} {n a f p t q : Nat} {mi : Bool} {lo hi v : Int32} (h : nuS b n mi lo hi a f = (0, p, t, v, q)) : inB v lo hi ∧ f < t := by
  unfold nuS at h
  by_cases h1 : figA b n f = []
  · rw [if_pos h1] at h
    exact absurd (show (1 : Nat) = 0 from congrArg Prod.fst h) (by decide)
  · rw [if_neg h1] at h
    by_cases h2 : 3 < (figA b n f).length ∨ ¬ (lo ≤ vS mi (figA b n f) ∧ vS mi (figA b n f) ≤ hi)
    · rw [if_pos h2] at h
      exact absurd (show (2 : Nat) = 0 from congrArg Prod.fst h) (by decide)
    · rw [if_neg h2] at h
      have e1 : f + (figA b n f).length = t := congrArg (fun z => z.2.2.1) h
      have e2 : vS mi (figA b n f) = v := congrArg (fun z => z.2.2.2.1) h
      have h3 : (figA b n f).length ≠ 0 := fun q => h1 (List.eq_nil_of_length_eq_zero q)
      refine ⟨?_, by omega⟩
      rw [← e2]
      exact Classical.not_not.mp (fun q => h2 (.inr q))
theorem nuR_in {b : Nat → Int32} {n p t t1 q : Nat} {sg : Bool} {lo hi v : Int32} (h : nuR b n sg lo hi t = (0, p, t1, v, q)) : inB v lo hi ∧ t < t1 := by
  have h0 := skA_ge b n t
  unfold nuR at h
  by_cases h1 : sg = true ∧ byF b n (skA b n t) = 45
  · rw [if_pos h1] at h
    have h2 := nuS_in h
    exact ⟨h2.1, by omega⟩
  · rw [if_neg h1] at h
    have h2 := nuS_in h
    exact ⟨h2.1, by omega⟩
theorem doC_0 {b : Nat → Int32} {n rd t t1 t6 m : Nat} {v3 v5 : Int32} (h : doF b n rd t = (0, 0, t1, m, v3, v5)) (hs : smR b n t1 = (0, 0, t6)) : doC b n rd t = (0, 0, t6, m, v3, v5) := by
  simp [doC, h, hs]
theorem doC_s {b : Nat → Int32} {n rd t t1 t6 m p : Nat} {v3 v5 : Int32} (h : doF b n rd t = (0, 0, t1, m, v3, v5)) (hs : smR b n t1 = (1, p, t6)) : (doC b n rd t).1 = 1 ∧ (doC b n rd t).2.1 = p := by
  simp [doC, h, hs]
theorem doC_e {b : Nat → Int32} {n rd t e p : Nat} (h : (doF b n rd t).1 = e) (h1 : 1 ≤ e) (hp : (doF b n rd t).2.1 = p) : (doC b n rd t).1 = e ∧ (doC b n rd t).2.1 = p := by
  rcases hd : doF b n rd t with ⟨e2, p2, t2, m, v3, v5⟩
  rw [hd] at h hp
  have he2 : e2 = e := h
  have hp2 : p2 = p := hp
  have h0 : ¬ e = 0 := by omega
  simp [doC, hd, h0, he2, hp2]
theorem siC_0 {b : Nat → Int32} {n k t t1 t6 : Nat} {v v2 : Int32} (h : siF b n k t = (0, 0, t1, v, v2)) (hs : smR b n t1 = (0, 0, t6)) : siC b n k t = (0, 0, t6, v, v2) := by
  simp [siC, h, hs]
theorem siC_s {b : Nat → Int32} {n k t t1 t6 p : Nat} {v v2 : Int32} (h : siF b n k t = (0, 0, t1, v, v2)) (hs : smR b n t1 = (1, p, t6)) : (siC b n k t).1 = 1 ∧ (siC b n k t).2.1 = p := by
  simp [siC, h, hs]
theorem siC_e {b : Nat → Int32} {n k t e p : Nat} (h : (siF b n k t).1 = e) (h1 : 1 ≤ e) (hp : (siF b n k t).2.1 = p) : (siC b n k t).1 = e ∧ (siC b n k t).2.1 = p := by
  rcases hd : siF b n k t with ⟨e2, p2, t2, v, v2⟩
  rw [hd] at h hp
  have he2 : e2 = e := h
  have hp2 : p2 = p := hp
  have h0 : ¬ e = 0 := by omega
  simp [siC, hd, h0, he2, hp2]
theorem kwsp {L : List Int32} {r : Int32} (h : r = clM (kwN L)) : (kwN L = 10 ∧ r = -1) ∨ (kwN L = 0 ∧ r = 9) ∨ ∃ c : Nat, c ≤ 8 ∧ c ≠ 7 ∧ kwN L = c + 1 ∧ r = nI c := by
  have hk := kwN_le L
  unfold clM at h
  by_cases h1 : kwN L = 10
  · rw [if_pos h1] at h
    exact .inl ⟨h1, h⟩
  · rw [if_neg h1] at h
    by_cases h2 : kwN L = 0
    · rw [if_pos h2] at h
      exact .inr (.inl ⟨h2, h⟩)
    · rw [if_neg h2] at h
      exact .inr (.inr ⟨kwN L - 1, by omega, by omega, by omega, h⟩)
theorem stM_do {rd m : Nat} {fs ff fp ff2 fp2 : Nat → Int32} {to : Int32} {v3 v5 : Int32} (h1 : ∀ j, ff2 j = if rd ≤ j ∧ j < rd + m then v3 else ff j) (h2 : ∀ j, fp2 j = if rd ≤ j ∧ j < rd + m then v5 else fp j) : stM (rd + m) fs ff2 fp2 (to ||| ((1 : Int32) <<< (nI 9 &&& 31))) = (rd + m, gM fs, filF (clp rd ff) rd m v3, filF (clp rd fp) rd m v5, toM to) := by
  unfold stM
  rw [clp_fil h1, clp_fil h2, toM_or9]
theorem stM_si {rd k : Nat} {fs fs2 ff fp : Nat → Int32} {to : Int32} {v v2 : Int32} (hk : k ≤ 8) (h : fs2 = if k = 6 then upd (upd fs 6 v) 7 v2 else upd fs k v) : stM rd fs2 ff fp (to ||| ((1 : Int32) <<< (nI k &&& 31))) = (rd, (if k + 1 = 7 then upd (upd (gM fs) 7 v) 8 v2 else upd (gM fs) (k + 1) v), clp rd ff, clp rd fp, setB (toM to) (k + 1)) := by
  unfold stM
  rw [toM_or hk, h]
  by_cases h6 : k = 6
  · rw [if_pos h6, if_pos (by omega), gM_upd (by omega), gM_upd (by omega)]
  · rw [if_neg h6, if_neg (by omega), gM_upd hk]


set_option maxHeartbeats 4000000 in
set_option maxRecDepth 100000 in
theorem n_takeDoors (l : Launch) (D : va_G) (k : Nat → ClassId) (st : Nat → Nat) (lo : Nat) (a : Nat → Nat) (tx : Nat) (t0 : Nat) (we : Nat) (rd : Nat) (ru : Nat) (rw : Nat) (ca : Nat) (fp : Int32) (wd : Int64) (nu : Int32) (na : Int32) (ts : Int32) (df : Int32) (db : Int32) (sd : Int32) (ftext : Nat → Int32) (freadFree : Nat → Int32) (freadPrice : Nat → Int32) (ht : t0 ≤ tx) (htx : tx ≤ 240) (hrd : rd ≤ 24) : CWi l D k st lo yX8_takeDoors cX8_takeDoors 5 (some .int) ({ frames := 3, cells := 0, slots := 0, locals := 74 }) 0 0 [.ref (a 0)] [((a 0), .inr (8, (fX8 a (nI tx) fp (nI t0) wd (nI we) nu na (nI rd) ts (nI ru) (nI rw) (nI ca) df db sd))), (aI k (a 5) 240 ftext), (aI k (a 14) 24 freadFree), (aI k (a 15) 24 freadPrice)] (fun (r : Int32) (u : Nat × Int64 × Nat × Int32 × Int32 × Int32 × Nat × (Nat → Int32) × (Nat → Int32)) => match u with | (t0_, wd_, we_, fp_, nu_, na_, rd_, freadFree_, freadPrice_) => ((r = 0 ∧ ∃ (m : Nat) (v3 v5 : Int32), doF ftext tx rd t0 = (0, 0, t0_, m, v3, v5) ∧ rd_ = rd + m ∧ (∀ j, freadFree_ j = if rd ≤ j ∧ j < rd + m then v3 else freadFree j) ∧ (∀ j, freadPrice_ j = if rd ≤ j ∧ j < rd + m then v5 else freadPrice j) ∧ fp_ = fp) ∨ (∃ e pl : Nat, r = nI e ∧ 1 ≤ e ∧ e ≤ 4 ∧ (doF ftext tx rd t0).1 = e ∧ (doF ftext tx rd t0).2.1 = pl ∧ fp_ = nI pl)) ∧ t0 ≤ t0_ ∧ t0_ ≤ tx ∧ rd_ ≤ 24 ∧ (r = 0 → t0 < t0_)) (fun (u : Nat × Int64 × Nat × Int32 × Int32 × Int32 × Nat × (Nat → Int32) × (Nat → Int32)) => match u with | (t0_, wd_, we_, fp_, nu_, na_, rd_, freadFree_, freadPrice_) => [((a 0), .inr (8, (fX8 a (nI tx) fp_ (nI t0_) wd_ (nI we_) nu_ na_ (nI rd_) ts (nI ru) (nI rw) (nI ca) df db sd))), (aI k (a 5) 240 ftext), (aI k (a 14) 24 freadFree_), (aI k (a 15) 24 freadPrice_)]) := by
  intro sz
  refine Met.ofW (cc := cX8_takeDoors) (maxL := 5) (ret := (some .int)) (by decide) rfl ?_
  intro p e s m args below meth c s₁ B hml hv
  obtain ⟨rfl, hsz, hlo, hP, hK, hDL, hZ⟩ := hv
  have hx := B.exec
  have hb := B.bytes
  have hr := B.returns
  have hts := WS_ts B.pre
  have hown : s.vm.findClass RX8 = some m.cls := findClass_of_methodNamed B.named
  have hlocks := B.notSynchronized
  subst hsz
  have hD := hDL.self (sz := s.heap.size)
  have hAlo := A_lo hDL hlo
  generalize hAe : va_A [((a 0), .inr (8, (fX8 a (nI tx) fp (nI t0) wd (nI we) nu na (nI rd) ts (nI ru) (nI rw) (nI ca) df db sd))), (aI k (a 5) 240 ftext), (aI k (a 14) 24 freadFree), (aI k (a 15) 24 freadPrice)] s.heap.size = A at hD hAlo ⊢
  have hA : ∀ q : Nat, s.heap.size ≤ q → A q := fun q h => by rw [← hAe]; exact Or.inr h
  have hS : va_S A s.heap s.heap [] := va_S.rf
  have hl := lv_entry ([.ref (a 0)]) (n := 5) (Nat.le_of_ble_eq_true rfl)
  rw [lg_entry_eq]
  generalize (lg_sl ([.ref (a 0)]) ++ List.replicate (5 - (lg_sl ([.ref (a 0)])).length) Slot.unset).toArray = ls at hl ⊢
  have hl : lv_has ls 5 [(0, .ref (a 0))] := hl
  refine lv_aload_n hx hb dX8_takeDoors_0 rfl (lv_at hl 0 rfl) ?_
  refine lv_iconst (v := 1) hx hb dX8_takeDoors_1 (by decide) ?_
  refine lv_bipush (v := 24) hx hb dX8_takeDoors_2 (by decide) ?_
  refine rw_i (D := D) (wr := [(aI k (a 14) 24 freadFree), (aI k (a 15) 24 freadPrice)]) (va_runV (As := [.int 1, .int 24]) (rest := []) ⟨hx, hb, hml, hown, hts⟩ ((n_takeNumber l D k st lo a tx t0 we rd ru rw ca fp wd nu na ts df db sd ftext 1 24 (by first | assumption | omega) (by first | assumption | omega)) s.heap.size) (cwV 2 hts (gV tw_1159 tw_1161 tw_33 tw_87 tw_1162) rfl rfl rfl (by decide +kernel) ⟨Nat.le_of_ble_eq_true rfl, Nat.le_of_ble_eq_true rfl⟩) (pV hS hAlo hlo hP hK (va_Dlo hD hAlo) hZ [0, 1] (by decide) rfl (ci := 8) (q := (RX8, TX8, 44)) (q0 := 0) rfl rfl) rfl rfl hl.1 rfl (lv_room (Nat.le_of_ble_eq_true rfl)) dX8_takeDoors_4 ⟨Nat.le_of_ble_eq_true rfl, Nat.le_of_ble_eq_true rfl⟩) hS hA hP hD [0, 1] [2, 3] rfl rfl (by decide) (by decide) (fun r_1 u H locs hw_1 hP hD hS => ?_)
  obtain ⟨t0__1, nu__1, na__1, fp__1⟩ := u
  replace hP : va_P D classes [(aI k (a 14) 24 freadFree), (aI k (a 15) 24 freadPrice), ((a 0), .inr (8, (fX8 a (nI tx) fp__1 (nI t0__1) wd (nI we) nu__1 na__1 (nI rd) ts (nI ru) (nI rw) (nI ca) df db sd))), (aI k (a 5) 240 ftext)] H := hP
  replace hD : va_D A [(aI k (a 14) 24 freadFree), (aI k (a 15) 24 freadPrice), ((a 0), .inr (8, (fX8 a (nI tx) fp__1 (nI t0__1) wd (nI we) nu__1 na__1 (nI rd) ts (nI ru) (nI rw) (nI ca) df db sd))), (aI k (a 5) 240 ftext)] := hD
  try dsimp only at hw_1
  obtain ⟨nq_2, rfl, hq_2, hw_1⟩ := hw_1
  rcases hq_2 with ⟨rfl, hq_2, hfp_2⟩ | ⟨rfl, pl_2, hq_2, rfl⟩ | ⟨rfl, pl_2, hq_2, rfl⟩
  · replace hfp_2 := hfp_2.symm
    subst hfp_2
    refine lv_istore_n (lv' := [(1, .int 0), (0, .ref (a 0))]) hx hb dX8_takeDoors_7 rfl hl (by decide) rfl (fun ls hl => ?_)
    refine lv_aload_n hx hb dX8_takeDoors_8 rfl (lv_at hl 1 rfl) ?_
    refine va_get (D := D) (ci := 8) (v := .int nu__1) (C := RX8) (T := TX8) (N := 44) hx hb hts inX8 hown hK hP 2 rfl rfl 10 (by decide) (hts _ tw_983) (fun _ h9 => h9) rfl dX8_takeDoors_9 ?_
    refine lv_istore_n (lv' := [(2, .int nu__1), (1, .int 0), (0, .ref (a 0))]) hx hb dX8_takeDoors_12 rfl hl (by decide) rfl (fun ls hl => ?_)
    refine lv_iload_n hx hb dX8_takeDoors_13 rfl (lv_at hl 1 rfl) ?_
    refine lv_if_ne (tgt := 38) hx hb dX8_takeDoors_14 (by decide) (fun h => absurd (by decide) h) (fun _ => ?_)
    obtain ⟨nb_3, hnl_3, hnh_3, rfl⟩ := inB_ofc (a := 1) (b := 24) (by omega) (by omega) (nuR_in hq_2).1
    refine lv_aload_n hx hb dX8_takeDoors_17 rfl (lv_at hl 2 rfl) ?_
    refine va_get (D := D) (ci := 8) (v := .int (nI rd)) (C := RX8) (T := TX8) (N := 44) hx hb hts inX8 hown hK hP 2 rfl rfl 12 (by decide) (hts _ tw_985) (fun _ h9 => h9) rfl dX8_takeDoors_18 ?_
    refine lv_iload_n hx hb dX8_takeDoors_21 rfl (lv_at hl 0 rfl) ?_
    refine lv_iadd hx hb dX8_takeDoors_22 ?_
    refine lv_ti (y := (nI (rd + nb_3))) (nI_add rd nb_3) ?_
    refine lv_bipush (v := 24) hx hb dX8_takeDoors_23 (by decide) ?_
    refine lv_icmp_le (tgt := 38) hx hb dX8_takeDoors_25 (by decide) (fun c_4 => ?_) (fun c_4 => ?_)
    · have c_4 := (nI_leI (a := (rd + nb_3)) (b := 24) (by omega) (by omega)).mp c_4
      refine lv_iload_n hx hb dX8_takeDoors_38 rfl (lv_at hl 1 rfl) ?_
      refine lv_if_le (tgt := 46) hx hb dX8_takeDoors_39 (by decide) (fun _ => ?_) (fun h => absurd (by decide) h)
      refine lv_aload_n hx hb dX8_takeDoors_46 rfl (lv_at hl 2 rfl) ?_
      refine lv_bipush (v := 102) hx hb dX8_takeDoors_47 (by decide) ?_
      refine lv_bipush (v := 114) hx hb dX8_takeDoors_49 (by decide) ?_
      refine lv_bipush (v := 101) hx hb dX8_takeDoors_51 (by decide) ?_
      refine ro_l (D := D) (va_runS (As := [.int 102, .int 114, .int 101]) (rest := [.ref (a 0)]) ⟨hx, hb, hml, hown, hts⟩ ((n_code l D k st lo 102 114 101) H.size) (va_cwS 3 hts (gS tw_1142 tw_1143 tw_87 tw_1144) rfl rfl rfl (by decide +kernel) ⟨Nat.le_of_ble_eq_true rfl, Nat.le_of_ble_eq_true rfl⟩) (pS hS hAlo hlo hP hK (va_Dlo hD hAlo) hZ [] (by decide) rfl) rfl rfl hl.1 rfl (lv_room (Nat.le_of_ble_eq_true rfl)) dX8_takeDoors_53 ⟨Nat.le_of_ble_eq_true rfl, Nat.le_of_ble_eq_true rfl⟩) hS hA hP (fun r_5 H locs hw_5 hP hS => ?_)
      try dsimp only at hw_5
      obtain rfl : r_5 = 4865 := hw_5.trans (by decide)
      refine lv_bipush (v := 101) hx hb dX8_takeDoors_56 (by decide) ?_
      refine ro_l (D := D) (va_runS (As := [.long 4865, .int 101]) (rest := [.ref (a 0)]) ⟨hx, hb, hml, hown, hts⟩ ((n_longer l D k st lo 4865 101) H.size) (va_cwS 2 hts (gS tw_1148 tw_1149 tw_87 tw_1150) rfl rfl rfl (by decide +kernel) ⟨Nat.le_of_ble_eq_true rfl, Nat.le_of_ble_eq_true rfl⟩) (pS hS hAlo hlo hP hK (va_Dlo hD hAlo) hZ [] (by decide) rfl) rfl rfl hl.1 rfl (lv_room (Nat.le_of_ble_eq_true rfl)) dX8_takeDoors_58 ⟨Nat.le_of_ble_eq_true rfl, Nat.le_of_ble_eq_true rfl⟩) hS hA hP (fun r_6 H locs hw_6 hP hS => ?_)
      try dsimp only at hw_6
      obtain rfl : r_6 = 131360 := hw_6.trans (by decide)
      refine rw_i (D := D) (wr := [(aI k (a 14) 24 freadFree), (aI k (a 15) 24 freadPrice)]) (va_runV (As := [.long 131360]) (rest := []) ⟨hx, hb, hml, hown, hts⟩ ((n_needs l D k st lo a tx t0__1 we rd ru rw ca fp wd (nI nb_3) (nI nq_2) ts df db sd ftext 131360 10 (by first | assumption | omega) (by first | assumption | omega) (by decide) (by decide +kernel)) H.size) (cwV 1 hts (gV tw_1169 tw_1171 tw_35 tw_87 tw_1172) rfl rfl rfl (by decide +kernel) ⟨Nat.le_of_ble_eq_true rfl, Nat.le_of_ble_eq_true rfl⟩) (pV hS hAlo hlo hP hK (va_Dlo hD hAlo) hZ [2, 3] (by decide) rfl (ci := 8) (q := (RX8, TX8, 44)) (q0 := 0) rfl rfl) rfl rfl hl.1 rfl (lv_room (Nat.le_of_ble_eq_true rfl)) dX8_takeDoors_61 ⟨Nat.le_of_ble_eq_true rfl, Nat.le_of_ble_eq_true rfl⟩) hS hA hP hD [2, 3] [0, 1] rfl rfl (by decide) (by decide) (fun r_7 u H locs hw_7 hP hD hS => ?_)
      obtain ⟨t0__7, wd__7, we__7, fp__7⟩ := u
      replace hP : va_P D classes [(aI k (a 14) 24 freadFree), (aI k (a 15) 24 freadPrice), ((a 0), .inr (8, (fX8 a (nI tx) fp__7 (nI t0__7) wd__7 (nI we__7) (nI nb_3) (nI nq_2) (nI rd) ts (nI ru) (nI rw) (nI ca) df db sd))), (aI k (a 5) 240 ftext)] H := hP
      replace hD : va_D A [(aI k (a 14) 24 freadFree), (aI k (a 15) 24 freadPrice), ((a 0), .inr (8, (fX8 a (nI tx) fp__7 (nI t0__7) wd__7 (nI we__7) (nI nb_3) (nI nq_2) (nI rd) ts (nI ru) (nI rw) (nI ca) df db sd))), (aI k (a 5) 240 ftext)] := hD
      try dsimp only at hw_7
      rcases hw_7 with ⟨⟨rfl, hq_8, hfp_8⟩ | ⟨rfl, pl_8, hq_8, rfl⟩, hw_7⟩
      · replace hfp_8 := hfp_8.symm
        subst hfp_8
        refine lv_istore_n (lv' := [(1, .int 0), (2, .int (nI nb_3)), (0, .ref (a 0))]) hx hb dX8_takeDoors_64 rfl hl (by decide) rfl (fun ls hl => ?_)
        refine lv_iload_n hx hb dX8_takeDoors_65 rfl (lv_at hl 0 rfl) ?_
        refine lv_if_le (tgt := 73) hx hb dX8_takeDoors_66 (by decide) (fun _ => ?_) (fun h => absurd (by decide) h)
        refine lv_aload_n hx hb dX8_takeDoors_73 rfl (lv_at hl 2 rfl) ?_
        refine lv_iconst (v := 0) hx hb dX8_takeDoors_74 (by decide) ?_
        refine lv_bipush (v := 100) hx hb dX8_takeDoors_75 (by decide) ?_
        refine rw_i (D := D) (wr := [(aI k (a 14) 24 freadFree), (aI k (a 15) 24 freadPrice)]) (va_runV (As := [.int 0, .int 100]) (rest := []) ⟨hx, hb, hml, hown, hts⟩ ((n_takeNumber l D k st lo a tx t0__7 we__7 rd ru rw ca fp wd__7 (nI nb_3) (nI nq_2) ts df db sd ftext 0 100 (by first | assumption | omega) (by first | assumption | omega)) H.size) (cwV 2 hts (gV tw_1159 tw_1161 tw_33 tw_87 tw_1162) rfl rfl rfl (by decide +kernel) ⟨Nat.le_of_ble_eq_true rfl, Nat.le_of_ble_eq_true rfl⟩) (pV hS hAlo hlo hP hK (va_Dlo hD hAlo) hZ [2, 3] (by decide) rfl (ci := 8) (q := (RX8, TX8, 44)) (q0 := 0) rfl rfl) rfl rfl hl.1 rfl (lv_room (Nat.le_of_ble_eq_true rfl)) dX8_takeDoors_77 ⟨Nat.le_of_ble_eq_true rfl, Nat.le_of_ble_eq_true rfl⟩) hS hA hP hD [2, 3] [0, 1] rfl rfl (by decide) (by decide) (fun r_9 u H locs hw_9 hP hD hS => ?_)
        obtain ⟨t0__9, nu__9, na__9, fp__9⟩ := u
        replace hP : va_P D classes [(aI k (a 14) 24 freadFree), (aI k (a 15) 24 freadPrice), ((a 0), .inr (8, (fX8 a (nI tx) fp__9 (nI t0__9) wd__7 (nI we__7) nu__9 na__9 (nI rd) ts (nI ru) (nI rw) (nI ca) df db sd))), (aI k (a 5) 240 ftext)] H := hP
        replace hD : va_D A [(aI k (a 14) 24 freadFree), (aI k (a 15) 24 freadPrice), ((a 0), .inr (8, (fX8 a (nI tx) fp__9 (nI t0__9) wd__7 (nI we__7) nu__9 na__9 (nI rd) ts (nI ru) (nI rw) (nI ca) df db sd))), (aI k (a 5) 240 ftext)] := hD
        try dsimp only at hw_9
        obtain ⟨nq_10, rfl, hq_10, hw_9⟩ := hw_9
        rcases hq_10 with ⟨rfl, hq_10, hfp_10⟩ | ⟨rfl, pl_10, hq_10, rfl⟩ | ⟨rfl, pl_10, hq_10, rfl⟩
        · replace hfp_10 := hfp_10.symm
          subst hfp_10
          refine lv_istore_n (lv' := [(1, .int 0), (2, .int (nI nb_3)), (0, .ref (a 0))]) hx hb dX8_takeDoors_80 rfl hl (by decide) rfl (fun ls hl => ?_)
          refine lv_aload_n hx hb dX8_takeDoors_81 rfl (lv_at hl 2 rfl) ?_
          refine va_get (D := D) (ci := 8) (v := .int nu__9) (C := RX8) (T := TX8) (N := 44) hx hb hts inX8 hown hK hP 2 rfl rfl 10 (by decide) (hts _ tw_983) (fun _ h9 => h9) rfl dX8_takeDoors_82 ?_
          refine lv_istore_n (lv' := [(3, .int nu__9), (1, .int 0), (2, .int (nI nb_3)), (0, .ref (a 0))]) hx hb dX8_takeDoors_85 rfl hl (by decide) rfl (fun ls hl => ?_)
          refine lv_iload_n hx hb dX8_takeDoors_86 rfl (lv_at hl 1 rfl) ?_
          refine lv_if_le (tgt := 94) hx hb dX8_takeDoors_87 (by decide) (fun _ => ?_) (fun h => absurd (by decide) h)
          refine lv_aload_n hx hb dX8_takeDoors_94 rfl (lv_at hl 3 rfl) ?_
          refine lv_bipush (v := 112) hx hb dX8_takeDoors_95 (by decide) ?_
          refine lv_bipush (v := 114) hx hb dX8_takeDoors_97 (by decide) ?_
          refine lv_bipush (v := 105) hx hb dX8_takeDoors_99 (by decide) ?_
          refine ro_l (D := D) (va_runS (As := [.int 112, .int 114, .int 105]) (rest := [.ref (a 0)]) ⟨hx, hb, hml, hown, hts⟩ ((n_code l D k st lo 112 114 105) H.size) (va_cwS 3 hts (gS tw_1142 tw_1143 tw_87 tw_1144) rfl rfl rfl (by decide +kernel) ⟨Nat.le_of_ble_eq_true rfl, Nat.le_of_ble_eq_true rfl⟩) (pS hS hAlo hlo hP hK (va_Dlo hD hAlo) hZ [] (by decide) rfl) rfl rfl hl.1 rfl (lv_room (Nat.le_of_ble_eq_true rfl)) dX8_takeDoors_101 ⟨Nat.le_of_ble_eq_true rfl, Nat.le_of_ble_eq_true rfl⟩) hS hA hP (fun r_11 H locs hw_11 hP hS => ?_)
          try dsimp only at hw_11
          obtain rfl : r_11 = 12159 := hw_11.trans (by decide)
          refine lv_bipush (v := 99) hx hb dX8_takeDoors_104 (by decide) ?_
          refine lv_bipush (v := 101) hx hb dX8_takeDoors_106 (by decide) ?_
          refine ro_l (D := D) (va_runS (As := [.long 12159, .int 99, .int 101]) (rest := [.ref (a 0)]) ⟨hx, hb, hml, hown, hts⟩ ((n_longest l D k st lo 12159 99 101) H.size) (va_cwS 3 hts (gS tw_1145 tw_1146 tw_87 tw_1147) rfl rfl rfl (by decide +kernel) ⟨Nat.le_of_ble_eq_true rfl, Nat.le_of_ble_eq_true rfl⟩) (pS hS hAlo hlo hP hK (va_Dlo hD hAlo) hZ [] (by decide) rfl) rfl rfl hl.1 rfl (lv_room (Nat.le_of_ble_eq_true rfl)) dX8_takeDoors_108 ⟨Nat.le_of_ble_eq_true rfl, Nat.le_of_ble_eq_true rfl⟩) hS hA hP (fun r_12 H locs hw_12 hP hS => ?_)
          try dsimp only at hw_12
          obtain rfl : r_12 = 8863997 := hw_12.trans (by decide)
          refine rw_i (D := D) (wr := [(aI k (a 14) 24 freadFree), (aI k (a 15) 24 freadPrice)]) (va_runV (As := [.long 8863997]) (rest := []) ⟨hx, hb, hml, hown, hts⟩ ((n_needs l D k st lo a tx t0__9 we__7 rd ru rw ca fp wd__7 nu__9 (nI nq_10) ts df db sd ftext 8863997 11 (by first | assumption | omega) (by first | assumption | omega) (by decide) (by decide +kernel)) H.size) (cwV 1 hts (gV tw_1169 tw_1171 tw_35 tw_87 tw_1172) rfl rfl rfl (by decide +kernel) ⟨Nat.le_of_ble_eq_true rfl, Nat.le_of_ble_eq_true rfl⟩) (pV hS hAlo hlo hP hK (va_Dlo hD hAlo) hZ [2, 3] (by decide) rfl (ci := 8) (q := (RX8, TX8, 44)) (q0 := 0) rfl rfl) rfl rfl hl.1 rfl (lv_room (Nat.le_of_ble_eq_true rfl)) dX8_takeDoors_111 ⟨Nat.le_of_ble_eq_true rfl, Nat.le_of_ble_eq_true rfl⟩) hS hA hP hD [2, 3] [0, 1] rfl rfl (by decide) (by decide) (fun r_13 u H locs hw_13 hP hD hS => ?_)
          obtain ⟨t0__13, wd__13, we__13, fp__13⟩ := u
          replace hP : va_P D classes [(aI k (a 14) 24 freadFree), (aI k (a 15) 24 freadPrice), ((a 0), .inr (8, (fX8 a (nI tx) fp__13 (nI t0__13) wd__13 (nI we__13) nu__9 (nI nq_10) (nI rd) ts (nI ru) (nI rw) (nI ca) df db sd))), (aI k (a 5) 240 ftext)] H := hP
          replace hD : va_D A [(aI k (a 14) 24 freadFree), (aI k (a 15) 24 freadPrice), ((a 0), .inr (8, (fX8 a (nI tx) fp__13 (nI t0__13) wd__13 (nI we__13) nu__9 (nI nq_10) (nI rd) ts (nI ru) (nI rw) (nI ca) df db sd))), (aI k (a 5) 240 ftext)] := hD
          try dsimp only at hw_13
          rcases hw_13 with ⟨⟨rfl, hq_14, hfp_14⟩ | ⟨rfl, pl_14, hq_14, rfl⟩, hw_13⟩
          · replace hfp_14 := hfp_14.symm
            subst hfp_14
            refine lv_istore_n (lv' := [(1, .int 0), (3, .int nu__9), (2, .int (nI nb_3)), (0, .ref (a 0))]) hx hb dX8_takeDoors_114 rfl hl (by decide) rfl (fun ls hl => ?_)
            refine lv_iload_n hx hb dX8_takeDoors_115 rfl (lv_at hl 0 rfl) ?_
            refine lv_if_le (tgt := 123) hx hb dX8_takeDoors_116 (by decide) (fun _ => ?_) (fun h => absurd (by decide) h)
            refine lv_aload_n hx hb dX8_takeDoors_123 rfl (lv_at hl 3 rfl) ?_
            refine lv_iconst (v := 0) hx hb dX8_takeDoors_124 (by decide) ?_
            refine lv_sipush (v := 999) hx hb dX8_takeDoors_125 (by decide) ?_
            refine rw_i (D := D) (wr := [(aI k (a 14) 24 freadFree), (aI k (a 15) 24 freadPrice)]) (va_runV (As := [.int 0, .int 999]) (rest := []) ⟨hx, hb, hml, hown, hts⟩ ((n_takeNumber l D k st lo a tx t0__13 we__13 rd ru rw ca fp wd__13 nu__9 (nI nq_10) ts df db sd ftext 0 999 (by first | assumption | omega) (by first | assumption | omega)) H.size) (cwV 2 hts (gV tw_1159 tw_1161 tw_33 tw_87 tw_1162) rfl rfl rfl (by decide +kernel) ⟨Nat.le_of_ble_eq_true rfl, Nat.le_of_ble_eq_true rfl⟩) (pV hS hAlo hlo hP hK (va_Dlo hD hAlo) hZ [2, 3] (by decide) rfl (ci := 8) (q := (RX8, TX8, 44)) (q0 := 0) rfl rfl) rfl rfl hl.1 rfl (lv_room (Nat.le_of_ble_eq_true rfl)) dX8_takeDoors_128 ⟨Nat.le_of_ble_eq_true rfl, Nat.le_of_ble_eq_true rfl⟩) hS hA hP hD [2, 3] [0, 1] rfl rfl (by decide) (by decide) (fun r_15 u H locs hw_15 hP hD hS => ?_)
            obtain ⟨t0__15, nu__15, na__15, fp__15⟩ := u
            replace hP : va_P D classes [(aI k (a 14) 24 freadFree), (aI k (a 15) 24 freadPrice), ((a 0), .inr (8, (fX8 a (nI tx) fp__15 (nI t0__15) wd__13 (nI we__13) nu__15 na__15 (nI rd) ts (nI ru) (nI rw) (nI ca) df db sd))), (aI k (a 5) 240 ftext)] H := hP
            replace hD : va_D A [(aI k (a 14) 24 freadFree), (aI k (a 15) 24 freadPrice), ((a 0), .inr (8, (fX8 a (nI tx) fp__15 (nI t0__15) wd__13 (nI we__13) nu__15 na__15 (nI rd) ts (nI ru) (nI rw) (nI ca) df db sd))), (aI k (a 5) 240 ftext)] := hD
            try dsimp only at hw_15
            obtain ⟨nq_16, rfl, hq_16, hw_15⟩ := hw_15
            rcases hq_16 with ⟨rfl, hq_16, hfp_16⟩ | ⟨rfl, pl_16, hq_16, rfl⟩ | ⟨rfl, pl_16, hq_16, rfl⟩
            · replace hfp_16 := hfp_16.symm
              subst hfp_16
              refine lv_istore_n (lv' := [(1, .int 0), (3, .int nu__9), (2, .int (nI nb_3)), (0, .ref (a 0))]) hx hb dX8_takeDoors_131 rfl hl (by decide) rfl (fun ls hl => ?_)
              refine lv_iconst (v := 0) hx hb dX8_takeDoors_132 (by decide) ?_
              refine lv_istore (lv' := [(4, .int 0), (1, .int 0), (3, .int nu__9), (2, .int (nI nb_3)), (0, .ref (a 0))]) hx hb dX8_takeDoors_133 hl (by decide) rfl (fun ls hl => ?_)
              refine W_loop (σ := Nat × Nat × (Nat → Int32) × (Nat → Int32)) (fun (n_ : Nat) (x_ : Nat × Nat × (Nat → Int32) × (Nat → Int32)) (H : Heap) (locs : List Loc) (ls : Array Slot) => match x_ with | (kk_17, rd2_17, fa_17, fb_17) => n_ = nb_3 - kk_17 ∧ (rd2_17 = rd + kk_17 ∧ kk_17 ≤ nb_3 ∧ (∀ j, fa_17 j = if rd ≤ j ∧ j < rd2_17 then nu__9 else freadFree j) ∧ (∀ j, fb_17 j = if rd ≤ j ∧ j < rd2_17 then nu__15 else freadPrice j)) ∧ va_P D classes [(aI k (a 14) 24 fa_17), (aI k (a 15) 24 fb_17), ((a 0), .inr (8, (fX8 a (nI tx) fp (nI t0__15) wd__13 (nI we__13) nu__15 (nI nq_16) (nI rd2_17) ts (nI ru) (nI rw) (nI ca) df db sd))), (aI k (a 5) 240 ftext)] H ∧ va_D A [(aI k (a 14) 24 fa_17), (aI k (a 15) 24 fb_17), ((a 0), .inr (8, (fX8 a (nI tx) fp (nI t0__15) wd__13 (nI we__13) nu__15 (nI nq_16) (nI rd2_17) ts (nI ru) (nI rw) (nI ca) df db sd))), (aI k (a 5) 240 ftext)] ∧ va_S A s.heap H locs ∧ lv_has ls 5 [(4, .int (nI kk_17)), (1, .int 0), (3, .int nu__9), (2, .int (nI nb_3)), (0, .ref (a 0))]) (fun n_17 x_17 H locs ls hI ih_17 => ?_) _ (0, rd, freadFree, freadPrice) ⟨rfl, ⟨by omega, by omega, fun j => by rw [if_neg (by omega)], fun j => by rw [if_neg (by omega)]⟩, hP, hD, hS, (lv_sub hl [0, 1, 2, 3, 4] rfl)⟩
              obtain ⟨kk_17, rd2_17, fa_17, fb_17⟩ := x_17
              obtain ⟨hm_17, hv_17, hP, hD, hS, hl⟩ := hI
              subst hm_17
              refine lv_iload hx hb dX8_takeDoors_135 (lv_at hl 0 rfl) ?_
              refine lv_iload_n hx hb dX8_takeDoors_137 rfl (lv_at hl 3 rfl) ?_
              refine lv_icmp_ge (tgt := 184) hx hb dX8_takeDoors_138 (by decide) (fun c_18 => ?_) (fun c_18 => ?_)
              · have c_18 := (nI_leI (a := nb_3) (b := kk_17) (by omega) (by omega)).mp c_18
                refine lv_iload_n hx hb dX8_takeDoors_184 rfl (lv_at hl 1 rfl) ?_
                have hg1_17 := (nuR_in hq_2).2
                have hP9 := hP.sub (ws' := [((a 0), .inr (8, (fX8 a (nI tx) fp (nI t0__15) wd__13 (nI we__13) nu__15 (nI nq_16) (nI rd2_17) ts (nI ru) (nI rw) (nI ca) df db sd))), (aI k (a 5) 240 ftext), (aI k (a 14) 24 fa_17), (aI k (a 15) 24 fb_17)]) [2, 3, 0, 1] rfl
                have hD9 := hD.sub (ws' := [((a 0), .inr (8, (fX8 a (nI tx) fp (nI t0__15) wd__13 (nI we__13) nu__15 (nI nq_16) (nI rd2_17) ts (nI ru) (nI rw) (nI ca) df db sd))), (aI k (a 5) 240 ftext), (aI k (a 14) 24 fa_17), (aI k (a 15) 24 fb_17)]) [2, 3, 0, 1] (by decide) rfl
                exact W.iret (v := 0) hx hb hr (fun t ht hW => ⟨⟨0, (t0__15, wd__13, we__13, fp, nu__15, (nI nq_16), rd2_17, fa_17, fb_17), rfl, ⟨.inl ⟨rfl, nb_3, nu__9, nu__15, by simp [doF, hq_2, hq_8, hq_10, hq_14, hq_16, nI_clamp (show nb_3 < 2 ^ 31 by omega), c_4, -List.getD_eq_getElem?_getD], by omega, (fun j => (hv_17.2.2.1 j).trans (by rw [show rd2_17 = rd + nb_3 by omega])), (fun j => (hv_17.2.2.2 j).trans (by rw [show rd2_17 = rd + nb_3 by omega])), rfl⟩, by omega, by omega, by omega, fun _ => by omega⟩, by rw [ht]; exact hP9, hD9⟩, hS.F ht⟩) hS.2.2 dX8_takeDoors_185
              · have c_18 : ¬ (nb_3 ≤ kk_17) := fun h => c_18 ((nI_leI (a := nb_3) (b := kk_17) (by omega) (by omega)).mpr h)
                refine lv_iload_n hx hb dX8_takeDoors_141 rfl (lv_at hl 1 rfl) ?_
                refine lv_if_ne (tgt := 184) hx hb dX8_takeDoors_142 (by decide) (fun h => absurd (by decide) h) (fun _ => ?_)
                refine lv_aload_n hx hb dX8_takeDoors_145 rfl (lv_at hl 4 rfl) ?_
                refine va_get (D := D) (ci := 8) (v := .ref (a 14)) (C := RX8) (T := TX8) (N := 44) hx hb hts inX8 hown hK hP 2 rfl rfl 13 (by decide) (hts _ tw_986) (fun _ h9 => h9) rfl dX8_takeDoors_146 ?_
                refine lv_aload_n hx hb dX8_takeDoors_149 rfl (lv_at hl 4 rfl) ?_
                refine va_get (D := D) (ci := 8) (v := .int (nI rd2_17)) (C := RX8) (T := TX8) (N := 44) hx hb hts inX8 hown hK hP 2 rfl rfl 12 (by decide) (hts _ tw_985) (fun _ h9 => h9) rfl dX8_takeDoors_150 ?_
                refine lv_iload_n hx hb dX8_takeDoors_153 rfl (lv_at hl 2 rfl) ?_
                refine va_iast hx hb hK hP hD hS 0 1 rfl rfl (vp_in_nI (by omega) (by decide)) dX8_takeDoors_154 (fun H locs hP hD hS => ?_)
                replace hP : va_P D classes [(aI k (a 14) 24 (upd fa_17 (Int32.toNatClampNeg (nI rd2_17)) nu__9)), (aI k (a 15) 24 fb_17), ((a 0), .inr (8, (fX8 a (nI tx) fp (nI t0__15) wd__13 (nI we__13) nu__15 (nI nq_16) (nI rd2_17) ts (nI ru) (nI rw) (nI ca) df db sd))), (aI k (a 5) 240 ftext)] H := hP
                replace hD : va_D A [(aI k (a 14) 24 (upd fa_17 (Int32.toNatClampNeg (nI rd2_17)) nu__9)), (aI k (a 15) 24 fb_17), ((a 0), .inr (8, (fX8 a (nI tx) fp (nI t0__15) wd__13 (nI we__13) nu__15 (nI nq_16) (nI rd2_17) ts (nI ru) (nI rw) (nI ca) df db sd))), (aI k (a 5) 240 ftext)] := hD
                rw [nI_clamp (n := rd2_17) (by omega)] at hP hD
                replace hP : va_P D classes [(aI k (a 14) 24 (upd fa_17 rd2_17 nu__9)), (aI k (a 15) 24 fb_17), ((a 0), .inr (8, (fX8 a (nI tx) fp (nI t0__15) wd__13 (nI we__13) nu__15 (nI nq_16) (nI rd2_17) ts (nI ru) (nI rw) (nI ca) df db sd))), (aI k (a 5) 240 ftext)] H := hP
                replace hD : va_D A [(aI k (a 14) 24 (upd fa_17 rd2_17 nu__9)), (aI k (a 15) 24 fb_17), ((a 0), .inr (8, (fX8 a (nI tx) fp (nI t0__15) wd__13 (nI we__13) nu__15 (nI nq_16) (nI rd2_17) ts (nI ru) (nI rw) (nI ca) df db sd))), (aI k (a 5) 240 ftext)] := hD
                refine lv_aload_n hx hb dX8_takeDoors_155 rfl (lv_at hl 4 rfl) ?_
                refine va_get (D := D) (ci := 8) (v := .ref (a 15)) (C := RX8) (T := TX8) (N := 44) hx hb hts inX8 hown hK hP 2 rfl rfl 14 (by decide) (hts _ tw_987) (fun _ h9 => h9) rfl dX8_takeDoors_156 ?_
                refine lv_aload_n hx hb dX8_takeDoors_159 rfl (lv_at hl 4 rfl) ?_
                refine va_get (D := D) (ci := 8) (v := .int (nI rd2_17)) (C := RX8) (T := TX8) (N := 44) hx hb hts inX8 hown hK hP 2 rfl rfl 12 (by decide) (hts _ tw_985) (fun _ h9 => h9) rfl dX8_takeDoors_160 ?_
                refine lv_aload_n hx hb dX8_takeDoors_163 rfl (lv_at hl 4 rfl) ?_
                refine va_get (D := D) (ci := 8) (v := .int nu__15) (C := RX8) (T := TX8) (N := 44) hx hb hts inX8 hown hK hP 2 rfl rfl 10 (by decide) (hts _ tw_983) (fun _ h9 => h9) rfl dX8_takeDoors_164 ?_
                refine va_iast hx hb hK hP hD hS 1 1 rfl rfl (vp_in_nI (by omega) (by decide)) dX8_takeDoors_167 (fun H locs hP hD hS => ?_)
                replace hP : va_P D classes [(aI k (a 14) 24 (upd fa_17 rd2_17 nu__9)), (aI k (a 15) 24 (upd fb_17 (Int32.toNatClampNeg (nI rd2_17)) nu__15)), ((a 0), .inr (8, (fX8 a (nI tx) fp (nI t0__15) wd__13 (nI we__13) nu__15 (nI nq_16) (nI rd2_17) ts (nI ru) (nI rw) (nI ca) df db sd))), (aI k (a 5) 240 ftext)] H := hP
                replace hD : va_D A [(aI k (a 14) 24 (upd fa_17 rd2_17 nu__9)), (aI k (a 15) 24 (upd fb_17 (Int32.toNatClampNeg (nI rd2_17)) nu__15)), ((a 0), .inr (8, (fX8 a (nI tx) fp (nI t0__15) wd__13 (nI we__13) nu__15 (nI nq_16) (nI rd2_17) ts (nI ru) (nI rw) (nI ca) df db sd))), (aI k (a 5) 240 ftext)] := hD
                rw [nI_clamp (n := rd2_17) (by omega)] at hP hD
                replace hP : va_P D classes [(aI k (a 14) 24 (upd fa_17 rd2_17 nu__9)), (aI k (a 15) 24 (upd fb_17 rd2_17 nu__15)), ((a 0), .inr (8, (fX8 a (nI tx) fp (nI t0__15) wd__13 (nI we__13) nu__15 (nI nq_16) (nI rd2_17) ts (nI ru) (nI rw) (nI ca) df db sd))), (aI k (a 5) 240 ftext)] H := hP
                replace hD : va_D A [(aI k (a 14) 24 (upd fa_17 rd2_17 nu__9)), (aI k (a 15) 24 (upd fb_17 rd2_17 nu__15)), ((a 0), .inr (8, (fX8 a (nI tx) fp (nI t0__15) wd__13 (nI we__13) nu__15 (nI nq_16) (nI rd2_17) ts (nI ru) (nI rw) (nI ca) df db sd))), (aI k (a 5) 240 ftext)] := hD
                refine lv_aload_n hx hb dX8_takeDoors_168 rfl (lv_at hl 4 rfl) ?_
                refine lv_dup hx hb dX8_takeDoors_169 rfl ?_
                refine va_get (D := D) (ci := 8) (v := .int (nI rd2_17)) (C := RX8) (T := TX8) (N := 44) hx hb hts inX8 hown hK hP 2 rfl rfl 12 (by decide) (hts _ tw_985) (fun _ h9 => h9) rfl dX8_takeDoors_170 ?_
                refine lv_iconst (v := 1) hx hb dX8_takeDoors_173 (by decide) ?_
                refine lv_iadd hx hb dX8_takeDoors_174 ?_
                refine lv_ti (y := (nI (rd2_17 + 1))) (nI_add rd2_17 1) ?_
                refine va_put (D := D) (ci := 8) (v := .int (nI (rd2_17 + 1))) (ty := .int) (C := RX8) (T := TX8) (N := 44) hx hb hts inX8 tyX8 tyX8_ok nmX8 hown hK hP hD hS 2 rfl rfl 12 (by decide) (hts _ tw_985) (fun _ h9 => h9) rfl (by decide +kernel) rfl rfl (Nat.le_of_ble_eq_true rfl) dX8_takeDoors_175 (fun H locs hP hD hS => ?_)
                replace hP : va_P D classes [(aI k (a 14) 24 (upd fa_17 rd2_17 nu__9)), (aI k (a 15) 24 (upd fb_17 rd2_17 nu__15)), ((a 0), .inr (8, (fX8 a (nI tx) fp (nI t0__15) wd__13 (nI we__13) nu__15 (nI nq_16) (nI (rd2_17 + 1)) ts (nI ru) (nI rw) (nI ca) df db sd))), (aI k (a 5) 240 ftext)] H := hP
                replace hD : va_D A [(aI k (a 14) 24 (upd fa_17 rd2_17 nu__9)), (aI k (a 15) 24 (upd fb_17 rd2_17 nu__15)), ((a 0), .inr (8, (fX8 a (nI tx) fp (nI t0__15) wd__13 (nI we__13) nu__15 (nI nq_16) (nI (rd2_17 + 1)) ts (nI ru) (nI rw) (nI ca) df db sd))), (aI k (a 5) 240 ftext)] := hD
                refine lv_iinc (v := (nI (kk_17 + 1))) (lv' := [(4, .int (nI (kk_17 + 1))), (1, .int 0), (3, .int nu__9), (2, .int (nI nb_3)), (0, .ref (a 0))]) hx hb dX8_takeDoors_178 hl (k := 0) rfl (nI_add kk_17 1) (by decide) rfl (fun ls hl => ?_)
                refine lv_goto (tgt := 135) hx hb dX8_takeDoors_181 (by decide) ?_
                exact ih_17 _ (kk_17 + 1, rd2_17 + 1, (upd fa_17 rd2_17 nu__9), (upd fb_17 rd2_17 nu__15)) _ _ _ (by omega) ⟨rfl, ⟨by omega, by omega, fill_step (by omega) hv_17.2.2.1, fill_step (by omega) hv_17.2.2.2⟩, hP, hD, hS, (lv_sub hl [0, 1, 2, 3, 4] rfl)⟩
            · refine lv_istore_n (lv' := [(1, .int 1), (3, .int nu__9), (2, .int (nI nb_3)), (0, .ref (a 0))]) hx hb dX8_takeDoors_131 rfl hl (by decide) rfl (fun ls hl => ?_)
              refine lv_iconst (v := 0) hx hb dX8_takeDoors_132 (by decide) ?_
              refine lv_istore (lv' := [(4, .int 0), (1, .int 1), (3, .int nu__9), (2, .int (nI nb_3)), (0, .ref (a 0))]) hx hb dX8_takeDoors_133 hl (by decide) rfl (fun ls hl => ?_)
              refine lv_iload hx hb dX8_takeDoors_135 (lv_at hl 0 rfl) ?_
              refine lv_iload_n hx hb dX8_takeDoors_137 rfl (lv_at hl 3 rfl) ?_
              refine lv_icmp_ge (tgt := 184) hx hb dX8_takeDoors_138 (by decide) (fun c_21 => ?_) (fun c_21 => ?_)
              · have c_21 := (nI_leI (a := nb_3) (b := 0) (by omega) (by omega)).mp c_21
                refine lv_iload_n hx hb dX8_takeDoors_184 rfl (lv_at hl 1 rfl) ?_
                have hP9 := hP.sub (ws' := [((a 0), .inr (8, (fX8 a (nI tx) (nI pl_16) (nI t0__15) wd__13 (nI we__13) nu__15 (nI nq_16) (nI rd) ts (nI ru) (nI rw) (nI ca) df db sd))), (aI k (a 5) 240 ftext), (aI k (a 14) 24 freadFree), (aI k (a 15) 24 freadPrice)]) [2, 3, 0, 1] rfl
                have hD9 := hD.sub (ws' := [((a 0), .inr (8, (fX8 a (nI tx) (nI pl_16) (nI t0__15) wd__13 (nI we__13) nu__15 (nI nq_16) (nI rd) ts (nI ru) (nI rw) (nI ca) df db sd))), (aI k (a 5) 240 ftext), (aI k (a 14) 24 freadFree), (aI k (a 15) 24 freadPrice)]) [2, 3, 0, 1] (by decide) rfl
                exact W.iret (v := 1) hx hb hr (fun t ht hW => ⟨⟨1, (t0__15, wd__13, we__13, (nI pl_16), nu__15, (nI nq_16), rd, freadFree, freadPrice), rfl, ⟨.inr ⟨1, pl_16, rfl, by decide, by decide, by simp [doF, hq_2, hq_8, hq_10, hq_14, hq_16, nI_clamp (show nb_3 < 2 ^ 31 by omega), c_4, -List.getD_eq_getElem?_getD], by simp [doF, hq_2, hq_8, hq_10, hq_14, hq_16, nI_clamp (show nb_3 < 2 ^ 31 by omega), c_4, -List.getD_eq_getElem?_getD], rfl⟩, by omega, by omega, by omega, fun h => absurd h (by decide)⟩, by rw [ht]; exact hP9, hD9⟩, hS.F ht⟩) hS.2.2 dX8_takeDoors_185
              · have c_21 : ¬ (nb_3 ≤ 0) := fun h => c_21 ((nI_leI (a := nb_3) (b := 0) (by omega) (by omega)).mpr h)
                refine lv_iload_n hx hb dX8_takeDoors_141 rfl (lv_at hl 1 rfl) ?_
                refine lv_if_ne (tgt := 184) hx hb dX8_takeDoors_142 (by decide) (fun _ => ?_) (fun h => absurd h (by decide))
                refine lv_iload_n hx hb dX8_takeDoors_184 rfl (lv_at hl 1 rfl) ?_
                have hP9 := hP.sub (ws' := [((a 0), .inr (8, (fX8 a (nI tx) (nI pl_16) (nI t0__15) wd__13 (nI we__13) nu__15 (nI nq_16) (nI rd) ts (nI ru) (nI rw) (nI ca) df db sd))), (aI k (a 5) 240 ftext), (aI k (a 14) 24 freadFree), (aI k (a 15) 24 freadPrice)]) [2, 3, 0, 1] rfl
                have hD9 := hD.sub (ws' := [((a 0), .inr (8, (fX8 a (nI tx) (nI pl_16) (nI t0__15) wd__13 (nI we__13) nu__15 (nI nq_16) (nI rd) ts (nI ru) (nI rw) (nI ca) df db sd))), (aI k (a 5) 240 ftext), (aI k (a 14) 24 freadFree), (aI k (a 15) 24 freadPrice)]) [2, 3, 0, 1] (by decide) rfl
                exact W.iret (v := 1) hx hb hr (fun t ht hW => ⟨⟨1, (t0__15, wd__13, we__13, (nI pl_16), nu__15, (nI nq_16), rd, freadFree, freadPrice), rfl, ⟨.inr ⟨1, pl_16, rfl, by decide, by decide, by simp [doF, hq_2, hq_8, hq_10, hq_14, hq_16, nI_clamp (show nb_3 < 2 ^ 31 by omega), c_4, -List.getD_eq_getElem?_getD], by simp [doF, hq_2, hq_8, hq_10, hq_14, hq_16, nI_clamp (show nb_3 < 2 ^ 31 by omega), c_4, -List.getD_eq_getElem?_getD], rfl⟩, by omega, by omega, by omega, fun h => absurd h (by decide)⟩, by rw [ht]; exact hP9, hD9⟩, hS.F ht⟩) hS.2.2 dX8_takeDoors_185
            · refine lv_istore_n (lv' := [(1, .int 2), (3, .int nu__9), (2, .int (nI nb_3)), (0, .ref (a 0))]) hx hb dX8_takeDoors_131 rfl hl (by decide) rfl (fun ls hl => ?_)
              refine lv_iconst (v := 0) hx hb dX8_takeDoors_132 (by decide) ?_
              refine lv_istore (lv' := [(4, .int 0), (1, .int 2), (3, .int nu__9), (2, .int (nI nb_3)), (0, .ref (a 0))]) hx hb dX8_takeDoors_133 hl (by decide) rfl (fun ls hl => ?_)
              refine lv_iload hx hb dX8_takeDoors_135 (lv_at hl 0 rfl) ?_
              refine lv_iload_n hx hb dX8_takeDoors_137 rfl (lv_at hl 3 rfl) ?_
              refine lv_icmp_ge (tgt := 184) hx hb dX8_takeDoors_138 (by decide) (fun c_22 => ?_) (fun c_22 => ?_)
              · have c_22 := (nI_leI (a := nb_3) (b := 0) (by omega) (by omega)).mp c_22
                refine lv_iload_n hx hb dX8_takeDoors_184 rfl (lv_at hl 1 rfl) ?_
                have hP9 := hP.sub (ws' := [((a 0), .inr (8, (fX8 a (nI tx) (nI pl_16) (nI t0__15) wd__13 (nI we__13) nu__15 (nI nq_16) (nI rd) ts (nI ru) (nI rw) (nI ca) df db sd))), (aI k (a 5) 240 ftext), (aI k (a 14) 24 freadFree), (aI k (a 15) 24 freadPrice)]) [2, 3, 0, 1] rfl
                have hD9 := hD.sub (ws' := [((a 0), .inr (8, (fX8 a (nI tx) (nI pl_16) (nI t0__15) wd__13 (nI we__13) nu__15 (nI nq_16) (nI rd) ts (nI ru) (nI rw) (nI ca) df db sd))), (aI k (a 5) 240 ftext), (aI k (a 14) 24 freadFree), (aI k (a 15) 24 freadPrice)]) [2, 3, 0, 1] (by decide) rfl
                exact W.iret (v := 2) hx hb hr (fun t ht hW => ⟨⟨2, (t0__15, wd__13, we__13, (nI pl_16), nu__15, (nI nq_16), rd, freadFree, freadPrice), rfl, ⟨.inr ⟨2, pl_16, rfl, by decide, by decide, by simp [doF, hq_2, hq_8, hq_10, hq_14, hq_16, nI_clamp (show nb_3 < 2 ^ 31 by omega), c_4, -List.getD_eq_getElem?_getD], by simp [doF, hq_2, hq_8, hq_10, hq_14, hq_16, nI_clamp (show nb_3 < 2 ^ 31 by omega), c_4, -List.getD_eq_getElem?_getD], rfl⟩, by omega, by omega, by omega, fun h => absurd h (by decide)⟩, by rw [ht]; exact hP9, hD9⟩, hS.F ht⟩) hS.2.2 dX8_takeDoors_185
              · have c_22 : ¬ (nb_3 ≤ 0) := fun h => c_22 ((nI_leI (a := nb_3) (b := 0) (by omega) (by omega)).mpr h)
                refine lv_iload_n hx hb dX8_takeDoors_141 rfl (lv_at hl 1 rfl) ?_
                refine lv_if_ne (tgt := 184) hx hb dX8_takeDoors_142 (by decide) (fun _ => ?_) (fun h => absurd h (by decide))
                refine lv_iload_n hx hb dX8_takeDoors_184 rfl (lv_at hl 1 rfl) ?_
                have hP9 := hP.sub (ws' := [((a 0), .inr (8, (fX8 a (nI tx) (nI pl_16) (nI t0__15) wd__13 (nI we__13) nu__15 (nI nq_16) (nI rd) ts (nI ru) (nI rw) (nI ca) df db sd))), (aI k (a 5) 240 ftext), (aI k (a 14) 24 freadFree), (aI k (a 15) 24 freadPrice)]) [2, 3, 0, 1] rfl
                have hD9 := hD.sub (ws' := [((a 0), .inr (8, (fX8 a (nI tx) (nI pl_16) (nI t0__15) wd__13 (nI we__13) nu__15 (nI nq_16) (nI rd) ts (nI ru) (nI rw) (nI ca) df db sd))), (aI k (a 5) 240 ftext), (aI k (a 14) 24 freadFree), (aI k (a 15) 24 freadPrice)]) [2, 3, 0, 1] (by decide) rfl
                exact W.iret (v := 2) hx hb hr (fun t ht hW => ⟨⟨2, (t0__15, wd__13, we__13, (nI pl_16), nu__15, (nI nq_16), rd, freadFree, freadPrice), rfl, ⟨.inr ⟨2, pl_16, rfl, by decide, by decide, by simp [doF, hq_2, hq_8, hq_10, hq_14, hq_16, nI_clamp (show nb_3 < 2 ^ 31 by omega), c_4, -List.getD_eq_getElem?_getD], by simp [doF, hq_2, hq_8, hq_10, hq_14, hq_16, nI_clamp (show nb_3 < 2 ^ 31 by omega), c_4, -List.getD_eq_getElem?_getD], rfl⟩, by omega, by omega, by omega, fun h => absurd h (by decide)⟩, by rw [ht]; exact hP9, hD9⟩, hS.F ht⟩) hS.2.2 dX8_takeDoors_185
          · refine lv_istore_n (lv' := [(1, .int 1), (3, .int nu__9), (2, .int (nI nb_3)), (0, .ref (a 0))]) hx hb dX8_takeDoors_114 rfl hl (by decide) rfl (fun ls hl => ?_)
            refine lv_iload_n hx hb dX8_takeDoors_115 rfl (lv_at hl 0 rfl) ?_
            refine lv_if_le (tgt := 123) hx hb dX8_takeDoors_116 (by decide) (fun h => absurd h (by decide)) (fun _ => ?_)
            refine lv_iload_n hx hb dX8_takeDoors_119 rfl (lv_at hl 0 rfl) ?_
            refine lv_goto (tgt := 131) hx hb dX8_takeDoors_120 (by decide) ?_
            refine lv_istore_n (lv' := [(1, .int 1), (3, .int nu__9), (2, .int (nI nb_3)), (0, .ref (a 0))]) hx hb dX8_takeDoors_131 rfl hl (by decide) rfl (fun ls hl => ?_)
            refine lv_iconst (v := 0) hx hb dX8_takeDoors_132 (by decide) ?_
            refine lv_istore (lv' := [(4, .int 0), (1, .int 1), (3, .int nu__9), (2, .int (nI nb_3)), (0, .ref (a 0))]) hx hb dX8_takeDoors_133 hl (by decide) rfl (fun ls hl => ?_)
            refine lv_iload hx hb dX8_takeDoors_135 (lv_at hl 0 rfl) ?_
            refine lv_iload_n hx hb dX8_takeDoors_137 rfl (lv_at hl 3 rfl) ?_
            refine lv_icmp_ge (tgt := 184) hx hb dX8_takeDoors_138 (by decide) (fun c_23 => ?_) (fun c_23 => ?_)
            · have c_23 := (nI_leI (a := nb_3) (b := 0) (by omega) (by omega)).mp c_23
              refine lv_iload_n hx hb dX8_takeDoors_184 rfl (lv_at hl 1 rfl) ?_
              have hP9 := hP.sub (ws' := [((a 0), .inr (8, (fX8 a (nI tx) (nI pl_14) (nI t0__13) wd__13 (nI we__13) nu__9 (nI nq_10) (nI rd) ts (nI ru) (nI rw) (nI ca) df db sd))), (aI k (a 5) 240 ftext), (aI k (a 14) 24 freadFree), (aI k (a 15) 24 freadPrice)]) [2, 3, 0, 1] rfl
              have hD9 := hD.sub (ws' := [((a 0), .inr (8, (fX8 a (nI tx) (nI pl_14) (nI t0__13) wd__13 (nI we__13) nu__9 (nI nq_10) (nI rd) ts (nI ru) (nI rw) (nI ca) df db sd))), (aI k (a 5) 240 ftext), (aI k (a 14) 24 freadFree), (aI k (a 15) 24 freadPrice)]) [2, 3, 0, 1] (by decide) rfl
              exact W.iret (v := 1) hx hb hr (fun t ht hW => ⟨⟨1, (t0__13, wd__13, we__13, (nI pl_14), nu__9, (nI nq_10), rd, freadFree, freadPrice), rfl, ⟨.inr ⟨1, pl_14, rfl, by decide, by decide, by simp [doF, hq_2, hq_8, hq_10, hq_14, nI_clamp (show nb_3 < 2 ^ 31 by omega), c_4, -List.getD_eq_getElem?_getD], by simp [doF, hq_2, hq_8, hq_10, hq_14, nI_clamp (show nb_3 < 2 ^ 31 by omega), c_4, -List.getD_eq_getElem?_getD], rfl⟩, by omega, by omega, by omega, fun h => absurd h (by decide)⟩, by rw [ht]; exact hP9, hD9⟩, hS.F ht⟩) hS.2.2 dX8_takeDoors_185
            · have c_23 : ¬ (nb_3 ≤ 0) := fun h => c_23 ((nI_leI (a := nb_3) (b := 0) (by omega) (by omega)).mpr h)
              refine lv_iload_n hx hb dX8_takeDoors_141 rfl (lv_at hl 1 rfl) ?_
              refine lv_if_ne (tgt := 184) hx hb dX8_takeDoors_142 (by decide) (fun _ => ?_) (fun h => absurd h (by decide))
              refine lv_iload_n hx hb dX8_takeDoors_184 rfl (lv_at hl 1 rfl) ?_
              have hP9 := hP.sub (ws' := [((a 0), .inr (8, (fX8 a (nI tx) (nI pl_14) (nI t0__13) wd__13 (nI we__13) nu__9 (nI nq_10) (nI rd) ts (nI ru) (nI rw) (nI ca) df db sd))), (aI k (a 5) 240 ftext), (aI k (a 14) 24 freadFree), (aI k (a 15) 24 freadPrice)]) [2, 3, 0, 1] rfl
              have hD9 := hD.sub (ws' := [((a 0), .inr (8, (fX8 a (nI tx) (nI pl_14) (nI t0__13) wd__13 (nI we__13) nu__9 (nI nq_10) (nI rd) ts (nI ru) (nI rw) (nI ca) df db sd))), (aI k (a 5) 240 ftext), (aI k (a 14) 24 freadFree), (aI k (a 15) 24 freadPrice)]) [2, 3, 0, 1] (by decide) rfl
              exact W.iret (v := 1) hx hb hr (fun t ht hW => ⟨⟨1, (t0__13, wd__13, we__13, (nI pl_14), nu__9, (nI nq_10), rd, freadFree, freadPrice), rfl, ⟨.inr ⟨1, pl_14, rfl, by decide, by decide, by simp [doF, hq_2, hq_8, hq_10, hq_14, nI_clamp (show nb_3 < 2 ^ 31 by omega), c_4, -List.getD_eq_getElem?_getD], by simp [doF, hq_2, hq_8, hq_10, hq_14, nI_clamp (show nb_3 < 2 ^ 31 by omega), c_4, -List.getD_eq_getElem?_getD], rfl⟩, by omega, by omega, by omega, fun h => absurd h (by decide)⟩, by rw [ht]; exact hP9, hD9⟩, hS.F ht⟩) hS.2.2 dX8_takeDoors_185
        · refine lv_istore_n (lv' := [(1, .int 1), (2, .int (nI nb_3)), (0, .ref (a 0))]) hx hb dX8_takeDoors_80 rfl hl (by decide) rfl (fun ls hl => ?_)
          refine lv_aload_n hx hb dX8_takeDoors_81 rfl (lv_at hl 2 rfl) ?_
          refine va_get (D := D) (ci := 8) (v := .int nu__9) (C := RX8) (T := TX8) (N := 44) hx hb hts inX8 hown hK hP 2 rfl rfl 10 (by decide) (hts _ tw_983) (fun _ h9 => h9) rfl dX8_takeDoors_82 ?_
          refine lv_istore_n (lv' := [(3, .int nu__9), (1, .int 1), (2, .int (nI nb_3)), (0, .ref (a 0))]) hx hb dX8_takeDoors_85 rfl hl (by decide) rfl (fun ls hl => ?_)
          refine lv_iload_n hx hb dX8_takeDoors_86 rfl (lv_at hl 1 rfl) ?_
          refine lv_if_le (tgt := 94) hx hb dX8_takeDoors_87 (by decide) (fun h => absurd h (by decide)) (fun _ => ?_)
          refine lv_iload_n hx hb dX8_takeDoors_90 rfl (lv_at hl 1 rfl) ?_
          refine lv_goto (tgt := 114) hx hb dX8_takeDoors_91 (by decide) ?_
          refine lv_istore_n (lv' := [(1, .int 1), (3, .int nu__9), (2, .int (nI nb_3)), (0, .ref (a 0))]) hx hb dX8_takeDoors_114 rfl hl (by decide) rfl (fun ls hl => ?_)
          refine lv_iload_n hx hb dX8_takeDoors_115 rfl (lv_at hl 0 rfl) ?_
          refine lv_if_le (tgt := 123) hx hb dX8_takeDoors_116 (by decide) (fun h => absurd h (by decide)) (fun _ => ?_)
          refine lv_iload_n hx hb dX8_takeDoors_119 rfl (lv_at hl 0 rfl) ?_
          refine lv_goto (tgt := 131) hx hb dX8_takeDoors_120 (by decide) ?_
          refine lv_istore_n (lv' := [(1, .int 1), (3, .int nu__9), (2, .int (nI nb_3)), (0, .ref (a 0))]) hx hb dX8_takeDoors_131 rfl hl (by decide) rfl (fun ls hl => ?_)
          refine lv_iconst (v := 0) hx hb dX8_takeDoors_132 (by decide) ?_
          refine lv_istore (lv' := [(4, .int 0), (1, .int 1), (3, .int nu__9), (2, .int (nI nb_3)), (0, .ref (a 0))]) hx hb dX8_takeDoors_133 hl (by decide) rfl (fun ls hl => ?_)
          refine lv_iload hx hb dX8_takeDoors_135 (lv_at hl 0 rfl) ?_
          refine lv_iload_n hx hb dX8_takeDoors_137 rfl (lv_at hl 3 rfl) ?_
          refine lv_icmp_ge (tgt := 184) hx hb dX8_takeDoors_138 (by decide) (fun c_24 => ?_) (fun c_24 => ?_)
          · have c_24 := (nI_leI (a := nb_3) (b := 0) (by omega) (by omega)).mp c_24
            refine lv_iload_n hx hb dX8_takeDoors_184 rfl (lv_at hl 1 rfl) ?_
            have hP9 := hP.sub (ws' := [((a 0), .inr (8, (fX8 a (nI tx) (nI pl_10) (nI t0__9) wd__7 (nI we__7) nu__9 (nI nq_10) (nI rd) ts (nI ru) (nI rw) (nI ca) df db sd))), (aI k (a 5) 240 ftext), (aI k (a 14) 24 freadFree), (aI k (a 15) 24 freadPrice)]) [2, 3, 0, 1] rfl
            have hD9 := hD.sub (ws' := [((a 0), .inr (8, (fX8 a (nI tx) (nI pl_10) (nI t0__9) wd__7 (nI we__7) nu__9 (nI nq_10) (nI rd) ts (nI ru) (nI rw) (nI ca) df db sd))), (aI k (a 5) 240 ftext), (aI k (a 14) 24 freadFree), (aI k (a 15) 24 freadPrice)]) [2, 3, 0, 1] (by decide) rfl
            exact W.iret (v := 1) hx hb hr (fun t ht hW => ⟨⟨1, (t0__9, wd__7, we__7, (nI pl_10), nu__9, (nI nq_10), rd, freadFree, freadPrice), rfl, ⟨.inr ⟨1, pl_10, rfl, by decide, by decide, by simp [doF, hq_2, hq_8, hq_10, nI_clamp (show nb_3 < 2 ^ 31 by omega), c_4, -List.getD_eq_getElem?_getD], by simp [doF, hq_2, hq_8, hq_10, nI_clamp (show nb_3 < 2 ^ 31 by omega), c_4, -List.getD_eq_getElem?_getD], rfl⟩, by omega, by omega, by omega, fun h => absurd h (by decide)⟩, by rw [ht]; exact hP9, hD9⟩, hS.F ht⟩) hS.2.2 dX8_takeDoors_185
          · have c_24 : ¬ (nb_3 ≤ 0) := fun h => c_24 ((nI_leI (a := nb_3) (b := 0) (by omega) (by omega)).mpr h)
            refine lv_iload_n hx hb dX8_takeDoors_141 rfl (lv_at hl 1 rfl) ?_
            refine lv_if_ne (tgt := 184) hx hb dX8_takeDoors_142 (by decide) (fun _ => ?_) (fun h => absurd h (by decide))
            refine lv_iload_n hx hb dX8_takeDoors_184 rfl (lv_at hl 1 rfl) ?_
            have hP9 := hP.sub (ws' := [((a 0), .inr (8, (fX8 a (nI tx) (nI pl_10) (nI t0__9) wd__7 (nI we__7) nu__9 (nI nq_10) (nI rd) ts (nI ru) (nI rw) (nI ca) df db sd))), (aI k (a 5) 240 ftext), (aI k (a 14) 24 freadFree), (aI k (a 15) 24 freadPrice)]) [2, 3, 0, 1] rfl
            have hD9 := hD.sub (ws' := [((a 0), .inr (8, (fX8 a (nI tx) (nI pl_10) (nI t0__9) wd__7 (nI we__7) nu__9 (nI nq_10) (nI rd) ts (nI ru) (nI rw) (nI ca) df db sd))), (aI k (a 5) 240 ftext), (aI k (a 14) 24 freadFree), (aI k (a 15) 24 freadPrice)]) [2, 3, 0, 1] (by decide) rfl
            exact W.iret (v := 1) hx hb hr (fun t ht hW => ⟨⟨1, (t0__9, wd__7, we__7, (nI pl_10), nu__9, (nI nq_10), rd, freadFree, freadPrice), rfl, ⟨.inr ⟨1, pl_10, rfl, by decide, by decide, by simp [doF, hq_2, hq_8, hq_10, nI_clamp (show nb_3 < 2 ^ 31 by omega), c_4, -List.getD_eq_getElem?_getD], by simp [doF, hq_2, hq_8, hq_10, nI_clamp (show nb_3 < 2 ^ 31 by omega), c_4, -List.getD_eq_getElem?_getD], rfl⟩, by omega, by omega, by omega, fun h => absurd h (by decide)⟩, by rw [ht]; exact hP9, hD9⟩, hS.F ht⟩) hS.2.2 dX8_takeDoors_185
        · refine lv_istore_n (lv' := [(1, .int 2), (2, .int (nI nb_3)), (0, .ref (a 0))]) hx hb dX8_takeDoors_80 rfl hl (by decide) rfl (fun ls hl => ?_)
          refine lv_aload_n hx hb dX8_takeDoors_81 rfl (lv_at hl 2 rfl) ?_
          refine va_get (D := D) (ci := 8) (v := .int nu__9) (C := RX8) (T := TX8) (N := 44) hx hb hts inX8 hown hK hP 2 rfl rfl 10 (by decide) (hts _ tw_983) (fun _ h9 => h9) rfl dX8_takeDoors_82 ?_
          refine lv_istore_n (lv' := [(3, .int nu__9), (1, .int 2), (2, .int (nI nb_3)), (0, .ref (a 0))]) hx hb dX8_takeDoors_85 rfl hl (by decide) rfl (fun ls hl => ?_)
          refine lv_iload_n hx hb dX8_takeDoors_86 rfl (lv_at hl 1 rfl) ?_
          refine lv_if_le (tgt := 94) hx hb dX8_takeDoors_87 (by decide) (fun h => absurd h (by decide)) (fun _ => ?_)
          refine lv_iload_n hx hb dX8_takeDoors_90 rfl (lv_at hl 1 rfl) ?_
          refine lv_goto (tgt := 114) hx hb dX8_takeDoors_91 (by decide) ?_
          refine lv_istore_n (lv' := [(1, .int 2), (3, .int nu__9), (2, .int (nI nb_3)), (0, .ref (a 0))]) hx hb dX8_takeDoors_114 rfl hl (by decide) rfl (fun ls hl => ?_)
          refine lv_iload_n hx hb dX8_takeDoors_115 rfl (lv_at hl 0 rfl) ?_
          refine lv_if_le (tgt := 123) hx hb dX8_takeDoors_116 (by decide) (fun h => absurd h (by decide)) (fun _ => ?_)
          refine lv_iload_n hx hb dX8_takeDoors_119 rfl (lv_at hl 0 rfl) ?_
          refine lv_goto (tgt := 131) hx hb dX8_takeDoors_120 (by decide) ?_
          refine lv_istore_n (lv' := [(1, .int 2), (3, .int nu__9), (2, .int (nI nb_3)), (0, .ref (a 0))]) hx hb dX8_takeDoors_131 rfl hl (by decide) rfl (fun ls hl => ?_)
          refine lv_iconst (v := 0) hx hb dX8_takeDoors_132 (by decide) ?_
          refine lv_istore (lv' := [(4, .int 0), (1, .int 2), (3, .int nu__9), (2, .int (nI nb_3)), (0, .ref (a 0))]) hx hb dX8_takeDoors_133 hl (by decide) rfl (fun ls hl => ?_)
          refine lv_iload hx hb dX8_takeDoors_135 (lv_at hl 0 rfl) ?_
          refine lv_iload_n hx hb dX8_takeDoors_137 rfl (lv_at hl 3 rfl) ?_
          refine lv_icmp_ge (tgt := 184) hx hb dX8_takeDoors_138 (by decide) (fun c_25 => ?_) (fun c_25 => ?_)
          · have c_25 := (nI_leI (a := nb_3) (b := 0) (by omega) (by omega)).mp c_25
            refine lv_iload_n hx hb dX8_takeDoors_184 rfl (lv_at hl 1 rfl) ?_
            have hP9 := hP.sub (ws' := [((a 0), .inr (8, (fX8 a (nI tx) (nI pl_10) (nI t0__9) wd__7 (nI we__7) nu__9 (nI nq_10) (nI rd) ts (nI ru) (nI rw) (nI ca) df db sd))), (aI k (a 5) 240 ftext), (aI k (a 14) 24 freadFree), (aI k (a 15) 24 freadPrice)]) [2, 3, 0, 1] rfl
            have hD9 := hD.sub (ws' := [((a 0), .inr (8, (fX8 a (nI tx) (nI pl_10) (nI t0__9) wd__7 (nI we__7) nu__9 (nI nq_10) (nI rd) ts (nI ru) (nI rw) (nI ca) df db sd))), (aI k (a 5) 240 ftext), (aI k (a 14) 24 freadFree), (aI k (a 15) 24 freadPrice)]) [2, 3, 0, 1] (by decide) rfl
            exact W.iret (v := 2) hx hb hr (fun t ht hW => ⟨⟨2, (t0__9, wd__7, we__7, (nI pl_10), nu__9, (nI nq_10), rd, freadFree, freadPrice), rfl, ⟨.inr ⟨2, pl_10, rfl, by decide, by decide, by simp [doF, hq_2, hq_8, hq_10, nI_clamp (show nb_3 < 2 ^ 31 by omega), c_4, -List.getD_eq_getElem?_getD], by simp [doF, hq_2, hq_8, hq_10, nI_clamp (show nb_3 < 2 ^ 31 by omega), c_4, -List.getD_eq_getElem?_getD], rfl⟩, by omega, by omega, by omega, fun h => absurd h (by decide)⟩, by rw [ht]; exact hP9, hD9⟩, hS.F ht⟩) hS.2.2 dX8_takeDoors_185
          · have c_25 : ¬ (nb_3 ≤ 0) := fun h => c_25 ((nI_leI (a := nb_3) (b := 0) (by omega) (by omega)).mpr h)
            refine lv_iload_n hx hb dX8_takeDoors_141 rfl (lv_at hl 1 rfl) ?_
            refine lv_if_ne (tgt := 184) hx hb dX8_takeDoors_142 (by decide) (fun _ => ?_) (fun h => absurd h (by decide))
            refine lv_iload_n hx hb dX8_takeDoors_184 rfl (lv_at hl 1 rfl) ?_
            have hP9 := hP.sub (ws' := [((a 0), .inr (8, (fX8 a (nI tx) (nI pl_10) (nI t0__9) wd__7 (nI we__7) nu__9 (nI nq_10) (nI rd) ts (nI ru) (nI rw) (nI ca) df db sd))), (aI k (a 5) 240 ftext), (aI k (a 14) 24 freadFree), (aI k (a 15) 24 freadPrice)]) [2, 3, 0, 1] rfl
            have hD9 := hD.sub (ws' := [((a 0), .inr (8, (fX8 a (nI tx) (nI pl_10) (nI t0__9) wd__7 (nI we__7) nu__9 (nI nq_10) (nI rd) ts (nI ru) (nI rw) (nI ca) df db sd))), (aI k (a 5) 240 ftext), (aI k (a 14) 24 freadFree), (aI k (a 15) 24 freadPrice)]) [2, 3, 0, 1] (by decide) rfl
            exact W.iret (v := 2) hx hb hr (fun t ht hW => ⟨⟨2, (t0__9, wd__7, we__7, (nI pl_10), nu__9, (nI nq_10), rd, freadFree, freadPrice), rfl, ⟨.inr ⟨2, pl_10, rfl, by decide, by decide, by simp [doF, hq_2, hq_8, hq_10, nI_clamp (show nb_3 < 2 ^ 31 by omega), c_4, -List.getD_eq_getElem?_getD], by simp [doF, hq_2, hq_8, hq_10, nI_clamp (show nb_3 < 2 ^ 31 by omega), c_4, -List.getD_eq_getElem?_getD], rfl⟩, by omega, by omega, by omega, fun h => absurd h (by decide)⟩, by rw [ht]; exact hP9, hD9⟩, hS.F ht⟩) hS.2.2 dX8_takeDoors_185
      · refine lv_istore_n (lv' := [(1, .int 1), (2, .int (nI nb_3)), (0, .ref (a 0))]) hx hb dX8_takeDoors_64 rfl hl (by decide) rfl (fun ls hl => ?_)
        refine lv_iload_n hx hb dX8_takeDoors_65 rfl (lv_at hl 0 rfl) ?_
        refine lv_if_le (tgt := 73) hx hb dX8_takeDoors_66 (by decide) (fun h => absurd h (by decide)) (fun _ => ?_)
        refine lv_iload_n hx hb dX8_takeDoors_69 rfl (lv_at hl 0 rfl) ?_
        refine lv_goto (tgt := 80) hx hb dX8_takeDoors_70 (by decide) ?_
        refine lv_istore_n (lv' := [(1, .int 1), (2, .int (nI nb_3)), (0, .ref (a 0))]) hx hb dX8_takeDoors_80 rfl hl (by decide) rfl (fun ls hl => ?_)
        refine lv_aload_n hx hb dX8_takeDoors_81 rfl (lv_at hl 2 rfl) ?_
        refine va_get (D := D) (ci := 8) (v := .int (nI nb_3)) (C := RX8) (T := TX8) (N := 44) hx hb hts inX8 hown hK hP 2 rfl rfl 10 (by decide) (hts _ tw_983) (fun _ h9 => h9) rfl dX8_takeDoors_82 ?_
        refine lv_istore_n (lv' := [(3, .int (nI nb_3)), (1, .int 1), (2, .int (nI nb_3)), (0, .ref (a 0))]) hx hb dX8_takeDoors_85 rfl hl (by decide) rfl (fun ls hl => ?_)
        refine lv_iload_n hx hb dX8_takeDoors_86 rfl (lv_at hl 1 rfl) ?_
        refine lv_if_le (tgt := 94) hx hb dX8_takeDoors_87 (by decide) (fun h => absurd h (by decide)) (fun _ => ?_)
        refine lv_iload_n hx hb dX8_takeDoors_90 rfl (lv_at hl 1 rfl) ?_
        refine lv_goto (tgt := 114) hx hb dX8_takeDoors_91 (by decide) ?_
        refine lv_istore_n (lv' := [(1, .int 1), (3, .int (nI nb_3)), (2, .int (nI nb_3)), (0, .ref (a 0))]) hx hb dX8_takeDoors_114 rfl hl (by decide) rfl (fun ls hl => ?_)
        refine lv_iload_n hx hb dX8_takeDoors_115 rfl (lv_at hl 0 rfl) ?_
        refine lv_if_le (tgt := 123) hx hb dX8_takeDoors_116 (by decide) (fun h => absurd h (by decide)) (fun _ => ?_)
        refine lv_iload_n hx hb dX8_takeDoors_119 rfl (lv_at hl 0 rfl) ?_
        refine lv_goto (tgt := 131) hx hb dX8_takeDoors_120 (by decide) ?_
        refine lv_istore_n (lv' := [(1, .int 1), (3, .int (nI nb_3)), (2, .int (nI nb_3)), (0, .ref (a 0))]) hx hb dX8_takeDoors_131 rfl hl (by decide) rfl (fun ls hl => ?_)
        refine lv_iconst (v := 0) hx hb dX8_takeDoors_132 (by decide) ?_
        refine lv_istore (lv' := [(4, .int 0), (1, .int 1), (3, .int (nI nb_3)), (2, .int (nI nb_3)), (0, .ref (a 0))]) hx hb dX8_takeDoors_133 hl (by decide) rfl (fun ls hl => ?_)
        refine lv_iload hx hb dX8_takeDoors_135 (lv_at hl 0 rfl) ?_
        refine lv_iload_n hx hb dX8_takeDoors_137 rfl (lv_at hl 3 rfl) ?_
        refine lv_icmp_ge (tgt := 184) hx hb dX8_takeDoors_138 (by decide) (fun c_26 => ?_) (fun c_26 => ?_)
        · have c_26 := (nI_leI (a := nb_3) (b := 0) (by omega) (by omega)).mp c_26
          refine lv_iload_n hx hb dX8_takeDoors_184 rfl (lv_at hl 1 rfl) ?_
          have hP9 := hP.sub (ws' := [((a 0), .inr (8, (fX8 a (nI tx) (nI pl_8) (nI t0__7) wd__7 (nI we__7) (nI nb_3) (nI nq_2) (nI rd) ts (nI ru) (nI rw) (nI ca) df db sd))), (aI k (a 5) 240 ftext), (aI k (a 14) 24 freadFree), (aI k (a 15) 24 freadPrice)]) [2, 3, 0, 1] rfl
          have hD9 := hD.sub (ws' := [((a 0), .inr (8, (fX8 a (nI tx) (nI pl_8) (nI t0__7) wd__7 (nI we__7) (nI nb_3) (nI nq_2) (nI rd) ts (nI ru) (nI rw) (nI ca) df db sd))), (aI k (a 5) 240 ftext), (aI k (a 14) 24 freadFree), (aI k (a 15) 24 freadPrice)]) [2, 3, 0, 1] (by decide) rfl
          exact W.iret (v := 1) hx hb hr (fun t ht hW => ⟨⟨1, (t0__7, wd__7, we__7, (nI pl_8), (nI nb_3), (nI nq_2), rd, freadFree, freadPrice), rfl, ⟨.inr ⟨1, pl_8, rfl, by decide, by decide, by simp [doF, hq_2, hq_8, nI_clamp (show nb_3 < 2 ^ 31 by omega), c_4, -List.getD_eq_getElem?_getD], by simp [doF, hq_2, hq_8, nI_clamp (show nb_3 < 2 ^ 31 by omega), c_4, -List.getD_eq_getElem?_getD], rfl⟩, by omega, by omega, by omega, fun h => absurd h (by decide)⟩, by rw [ht]; exact hP9, hD9⟩, hS.F ht⟩) hS.2.2 dX8_takeDoors_185
        · have c_26 : ¬ (nb_3 ≤ 0) := fun h => c_26 ((nI_leI (a := nb_3) (b := 0) (by omega) (by omega)).mpr h)
          refine lv_iload_n hx hb dX8_takeDoors_141 rfl (lv_at hl 1 rfl) ?_
          refine lv_if_ne (tgt := 184) hx hb dX8_takeDoors_142 (by decide) (fun _ => ?_) (fun h => absurd h (by decide))
          refine lv_iload_n hx hb dX8_takeDoors_184 rfl (lv_at hl 1 rfl) ?_
          have hP9 := hP.sub (ws' := [((a 0), .inr (8, (fX8 a (nI tx) (nI pl_8) (nI t0__7) wd__7 (nI we__7) (nI nb_3) (nI nq_2) (nI rd) ts (nI ru) (nI rw) (nI ca) df db sd))), (aI k (a 5) 240 ftext), (aI k (a 14) 24 freadFree), (aI k (a 15) 24 freadPrice)]) [2, 3, 0, 1] rfl
          have hD9 := hD.sub (ws' := [((a 0), .inr (8, (fX8 a (nI tx) (nI pl_8) (nI t0__7) wd__7 (nI we__7) (nI nb_3) (nI nq_2) (nI rd) ts (nI ru) (nI rw) (nI ca) df db sd))), (aI k (a 5) 240 ftext), (aI k (a 14) 24 freadFree), (aI k (a 15) 24 freadPrice)]) [2, 3, 0, 1] (by decide) rfl
          exact W.iret (v := 1) hx hb hr (fun t ht hW => ⟨⟨1, (t0__7, wd__7, we__7, (nI pl_8), (nI nb_3), (nI nq_2), rd, freadFree, freadPrice), rfl, ⟨.inr ⟨1, pl_8, rfl, by decide, by decide, by simp [doF, hq_2, hq_8, nI_clamp (show nb_3 < 2 ^ 31 by omega), c_4, -List.getD_eq_getElem?_getD], by simp [doF, hq_2, hq_8, nI_clamp (show nb_3 < 2 ^ 31 by omega), c_4, -List.getD_eq_getElem?_getD], rfl⟩, by omega, by omega, by omega, fun h => absurd h (by decide)⟩, by rw [ht]; exact hP9, hD9⟩, hS.F ht⟩) hS.2.2 dX8_takeDoors_185
    · have c_4 : ¬ ((rd + nb_3) ≤ 24) := fun h => c_4 ((nI_leI (a := (rd + nb_3)) (b := 24) (by omega) (by omega)).mpr h)
      refine lv_aload_n hx hb dX8_takeDoors_28 rfl (lv_at hl 2 rfl) ?_
      refine lv_iconst (v := 4) hx hb dX8_takeDoors_29 (by decide) ?_
      refine lv_aload_n hx hb dX8_takeDoors_30 rfl (lv_at hl 2 rfl) ?_
      refine va_get (D := D) (ci := 8) (v := .int (nI nq_2)) (C := RX8) (T := TX8) (N := 44) hx hb hts inX8 hown hK hP 2 rfl rfl 11 (by decide) (hts _ tw_984) (fun _ h9 => h9) rfl dX8_takeDoors_31 ?_
      refine rw_i (D := D) (wr := [(aI k (a 14) 24 freadFree), (aI k (a 15) 24 freadPrice), (aI k (a 5) 240 ftext)]) (va_runV (As := [.int 4, .int (nI nq_2)]) (rest := []) ⟨hx, hb, hml, hown, hts⟩ ((n_fails l D k st lo a tx t0__1 we rd ru rw ca fp wd (nI nb_3) (nI nq_2) ts df db sd 4 (nI nq_2)) H.size) (cwV 2 hts (gV tw_1151 tw_1153 tw_31 tw_87 tw_1154) rfl rfl rfl (by decide +kernel) ⟨Nat.le_of_ble_eq_true rfl, Nat.le_of_ble_eq_true rfl⟩) (pV hS hAlo hlo hP hK (va_Dlo hD hAlo) hZ [2] (by decide) rfl (ci := 8) (q := (RX8, TX8, 44)) (q0 := 0) rfl rfl) rfl rfl hl.1 rfl (lv_room (Nat.le_of_ble_eq_true rfl)) dX8_takeDoors_34 ⟨Nat.le_of_ble_eq_true rfl, Nat.le_of_ble_eq_true rfl⟩) hS hA hP hD [2] [0, 1, 3] rfl rfl (by decide) (by decide) (fun r_27 u H locs hw_27 hP hD hS => ?_)
      obtain ⟨fp__27, rfl⟩ : ∃ z, z = u := ⟨_, rfl⟩
      replace hP : va_P D classes [(aI k (a 14) 24 freadFree), (aI k (a 15) 24 freadPrice), (aI k (a 5) 240 ftext), ((a 0), .inr (8, (fX8 a (nI tx) fp__27 (nI t0__1) wd (nI we) (nI nb_3) (nI nq_2) (nI rd) ts (nI ru) (nI rw) (nI ca) df db sd)))] H := hP
      replace hD : va_D A [(aI k (a 14) 24 freadFree), (aI k (a 15) 24 freadPrice), (aI k (a 5) 240 ftext), ((a 0), .inr (8, (fX8 a (nI tx) fp__27 (nI t0__1) wd (nI we) (nI nb_3) (nI nq_2) (nI rd) ts (nI ru) (nI rw) (nI ca) df db sd)))] := hD
      try dsimp only at hw_27
      obtain ⟨hs0_28, hs1_28⟩ := hw_27
      replace hs0_28 := hs0_28.symm
      subst hs0_28
      replace hs1_28 := hs1_28.symm
      subst hs1_28
      refine lv_istore_n (lv' := [(1, .int 4), (2, .int (nI nb_3)), (0, .ref (a 0))]) hx hb dX8_takeDoors_37 rfl hl (by decide) rfl (fun ls hl => ?_)
      refine lv_iload_n hx hb dX8_takeDoors_38 rfl (lv_at hl 0 rfl) ?_
      refine lv_if_le (tgt := 46) hx hb dX8_takeDoors_39 (by decide) (fun h => absurd h (by decide)) (fun _ => ?_)
      refine lv_iload_n hx hb dX8_takeDoors_42 rfl (lv_at hl 0 rfl) ?_
      refine lv_goto (tgt := 64) hx hb dX8_takeDoors_43 (by decide) ?_
      refine lv_istore_n (lv' := [(1, .int 4), (2, .int (nI nb_3)), (0, .ref (a 0))]) hx hb dX8_takeDoors_64 rfl hl (by decide) rfl (fun ls hl => ?_)
      refine lv_iload_n hx hb dX8_takeDoors_65 rfl (lv_at hl 0 rfl) ?_
      refine lv_if_le (tgt := 73) hx hb dX8_takeDoors_66 (by decide) (fun h => absurd h (by decide)) (fun _ => ?_)
      refine lv_iload_n hx hb dX8_takeDoors_69 rfl (lv_at hl 0 rfl) ?_
      refine lv_goto (tgt := 80) hx hb dX8_takeDoors_70 (by decide) ?_
      refine lv_istore_n (lv' := [(1, .int 4), (2, .int (nI nb_3)), (0, .ref (a 0))]) hx hb dX8_takeDoors_80 rfl hl (by decide) rfl (fun ls hl => ?_)
      refine lv_aload_n hx hb dX8_takeDoors_81 rfl (lv_at hl 2 rfl) ?_
      refine va_get (D := D) (ci := 8) (v := .int (nI nb_3)) (C := RX8) (T := TX8) (N := 44) hx hb hts inX8 hown hK hP 3 rfl rfl 10 (by decide) (hts _ tw_983) (fun _ h9 => h9) rfl dX8_takeDoors_82 ?_
      refine lv_istore_n (lv' := [(3, .int (nI nb_3)), (1, .int 4), (2, .int (nI nb_3)), (0, .ref (a 0))]) hx hb dX8_takeDoors_85 rfl hl (by decide) rfl (fun ls hl => ?_)
      refine lv_iload_n hx hb dX8_takeDoors_86 rfl (lv_at hl 1 rfl) ?_
      refine lv_if_le (tgt := 94) hx hb dX8_takeDoors_87 (by decide) (fun h => absurd h (by decide)) (fun _ => ?_)
      refine lv_iload_n hx hb dX8_takeDoors_90 rfl (lv_at hl 1 rfl) ?_
      refine lv_goto (tgt := 114) hx hb dX8_takeDoors_91 (by decide) ?_
      refine lv_istore_n (lv' := [(1, .int 4), (3, .int (nI nb_3)), (2, .int (nI nb_3)), (0, .ref (a 0))]) hx hb dX8_takeDoors_114 rfl hl (by decide) rfl (fun ls hl => ?_)
      refine lv_iload_n hx hb dX8_takeDoors_115 rfl (lv_at hl 0 rfl) ?_
      refine lv_if_le (tgt := 123) hx hb dX8_takeDoors_116 (by decide) (fun h => absurd h (by decide)) (fun _ => ?_)
      refine lv_iload_n hx hb dX8_takeDoors_119 rfl (lv_at hl 0 rfl) ?_
      refine lv_goto (tgt := 131) hx hb dX8_takeDoors_120 (by decide) ?_
      refine lv_istore_n (lv' := [(1, .int 4), (3, .int (nI nb_3)), (2, .int (nI nb_3)), (0, .ref (a 0))]) hx hb dX8_takeDoors_131 rfl hl (by decide) rfl (fun ls hl => ?_)
      refine lv_iconst (v := 0) hx hb dX8_takeDoors_132 (by decide) ?_
      refine lv_istore (lv' := [(4, .int 0), (1, .int 4), (3, .int (nI nb_3)), (2, .int (nI nb_3)), (0, .ref (a 0))]) hx hb dX8_takeDoors_133 hl (by decide) rfl (fun ls hl => ?_)
      refine lv_iload hx hb dX8_takeDoors_135 (lv_at hl 0 rfl) ?_
      refine lv_iload_n hx hb dX8_takeDoors_137 rfl (lv_at hl 3 rfl) ?_
      refine lv_icmp_ge (tgt := 184) hx hb dX8_takeDoors_138 (by decide) (fun c_29 => ?_) (fun c_29 => ?_)
      · have c_29 := (nI_leI (a := nb_3) (b := 0) (by omega) (by omega)).mp c_29
        refine lv_iload_n hx hb dX8_takeDoors_184 rfl (lv_at hl 1 rfl) ?_
        have hP9 := hP.sub (ws' := [((a 0), .inr (8, (fX8 a (nI tx) (nI nq_2) (nI t0__1) wd (nI we) (nI nb_3) (nI nq_2) (nI rd) ts (nI ru) (nI rw) (nI ca) df db sd))), (aI k (a 5) 240 ftext), (aI k (a 14) 24 freadFree), (aI k (a 15) 24 freadPrice)]) [3, 2, 0, 1] rfl
        have hD9 := hD.sub (ws' := [((a 0), .inr (8, (fX8 a (nI tx) (nI nq_2) (nI t0__1) wd (nI we) (nI nb_3) (nI nq_2) (nI rd) ts (nI ru) (nI rw) (nI ca) df db sd))), (aI k (a 5) 240 ftext), (aI k (a 14) 24 freadFree), (aI k (a 15) 24 freadPrice)]) [3, 2, 0, 1] (by decide) rfl
        exact W.iret (v := 4) hx hb hr (fun t ht hW => ⟨⟨4, (t0__1, wd, we, (nI nq_2), (nI nb_3), (nI nq_2), rd, freadFree, freadPrice), rfl, ⟨.inr ⟨4, nq_2, rfl, by decide, by decide, by simp [doF, hq_2, nI_clamp (show nb_3 < 2 ^ 31 by omega), c_4, -List.getD_eq_getElem?_getD], by simp [doF, hq_2, nI_clamp (show nb_3 < 2 ^ 31 by omega), c_4, -List.getD_eq_getElem?_getD], rfl⟩, by omega, by omega, by omega, fun h => absurd h (by decide)⟩, by rw [ht]; exact hP9, hD9⟩, hS.F ht⟩) hS.2.2 dX8_takeDoors_185
      · have c_29 : ¬ (nb_3 ≤ 0) := fun h => c_29 ((nI_leI (a := nb_3) (b := 0) (by omega) (by omega)).mpr h)
        refine lv_iload_n hx hb dX8_takeDoors_141 rfl (lv_at hl 1 rfl) ?_
        refine lv_if_ne (tgt := 184) hx hb dX8_takeDoors_142 (by decide) (fun _ => ?_) (fun h => absurd h (by decide))
        refine lv_iload_n hx hb dX8_takeDoors_184 rfl (lv_at hl 1 rfl) ?_
        have hP9 := hP.sub (ws' := [((a 0), .inr (8, (fX8 a (nI tx) (nI nq_2) (nI t0__1) wd (nI we) (nI nb_3) (nI nq_2) (nI rd) ts (nI ru) (nI rw) (nI ca) df db sd))), (aI k (a 5) 240 ftext), (aI k (a 14) 24 freadFree), (aI k (a 15) 24 freadPrice)]) [3, 2, 0, 1] rfl
        have hD9 := hD.sub (ws' := [((a 0), .inr (8, (fX8 a (nI tx) (nI nq_2) (nI t0__1) wd (nI we) (nI nb_3) (nI nq_2) (nI rd) ts (nI ru) (nI rw) (nI ca) df db sd))), (aI k (a 5) 240 ftext), (aI k (a 14) 24 freadFree), (aI k (a 15) 24 freadPrice)]) [3, 2, 0, 1] (by decide) rfl
        exact W.iret (v := 4) hx hb hr (fun t ht hW => ⟨⟨4, (t0__1, wd, we, (nI nq_2), (nI nb_3), (nI nq_2), rd, freadFree, freadPrice), rfl, ⟨.inr ⟨4, nq_2, rfl, by decide, by decide, by simp [doF, hq_2, nI_clamp (show nb_3 < 2 ^ 31 by omega), c_4, -List.getD_eq_getElem?_getD], by simp [doF, hq_2, nI_clamp (show nb_3 < 2 ^ 31 by omega), c_4, -List.getD_eq_getElem?_getD], rfl⟩, by omega, by omega, by omega, fun h => absurd h (by decide)⟩, by rw [ht]; exact hP9, hD9⟩, hS.F ht⟩) hS.2.2 dX8_takeDoors_185
  · refine lv_istore_n (lv' := [(1, .int 1), (0, .ref (a 0))]) hx hb dX8_takeDoors_7 rfl hl (by decide) rfl (fun ls hl => ?_)
    refine lv_aload_n hx hb dX8_takeDoors_8 rfl (lv_at hl 1 rfl) ?_
    refine va_get (D := D) (ci := 8) (v := .int nu__1) (C := RX8) (T := TX8) (N := 44) hx hb hts inX8 hown hK hP 2 rfl rfl 10 (by decide) (hts _ tw_983) (fun _ h9 => h9) rfl dX8_takeDoors_9 ?_
    refine lv_istore_n (lv' := [(2, .int nu__1), (1, .int 1), (0, .ref (a 0))]) hx hb dX8_takeDoors_12 rfl hl (by decide) rfl (fun ls hl => ?_)
    refine lv_iload_n hx hb dX8_takeDoors_13 rfl (lv_at hl 1 rfl) ?_
    refine lv_if_ne (tgt := 38) hx hb dX8_takeDoors_14 (by decide) (fun _ => ?_) (fun h => absurd h (by decide))
    refine lv_iload_n hx hb dX8_takeDoors_38 rfl (lv_at hl 1 rfl) ?_
    refine lv_if_le (tgt := 46) hx hb dX8_takeDoors_39 (by decide) (fun h => absurd h (by decide)) (fun _ => ?_)
    refine lv_iload_n hx hb dX8_takeDoors_42 rfl (lv_at hl 1 rfl) ?_
    refine lv_goto (tgt := 64) hx hb dX8_takeDoors_43 (by decide) ?_
    refine lv_istore_n (lv' := [(1, .int 1), (2, .int nu__1), (0, .ref (a 0))]) hx hb dX8_takeDoors_64 rfl hl (by decide) rfl (fun ls hl => ?_)
    refine lv_iload_n hx hb dX8_takeDoors_65 rfl (lv_at hl 0 rfl) ?_
    refine lv_if_le (tgt := 73) hx hb dX8_takeDoors_66 (by decide) (fun h => absurd h (by decide)) (fun _ => ?_)
    refine lv_iload_n hx hb dX8_takeDoors_69 rfl (lv_at hl 0 rfl) ?_
    refine lv_goto (tgt := 80) hx hb dX8_takeDoors_70 (by decide) ?_
    refine lv_istore_n (lv' := [(1, .int 1), (2, .int nu__1), (0, .ref (a 0))]) hx hb dX8_takeDoors_80 rfl hl (by decide) rfl (fun ls hl => ?_)
    refine lv_aload_n hx hb dX8_takeDoors_81 rfl (lv_at hl 2 rfl) ?_
    refine va_get (D := D) (ci := 8) (v := .int nu__1) (C := RX8) (T := TX8) (N := 44) hx hb hts inX8 hown hK hP 2 rfl rfl 10 (by decide) (hts _ tw_983) (fun _ h9 => h9) rfl dX8_takeDoors_82 ?_
    refine lv_istore_n (lv' := [(3, .int nu__1), (1, .int 1), (2, .int nu__1), (0, .ref (a 0))]) hx hb dX8_takeDoors_85 rfl hl (by decide) rfl (fun ls hl => ?_)
    refine lv_iload_n hx hb dX8_takeDoors_86 rfl (lv_at hl 1 rfl) ?_
    refine lv_if_le (tgt := 94) hx hb dX8_takeDoors_87 (by decide) (fun h => absurd h (by decide)) (fun _ => ?_)
    refine lv_iload_n hx hb dX8_takeDoors_90 rfl (lv_at hl 1 rfl) ?_
    refine lv_goto (tgt := 114) hx hb dX8_takeDoors_91 (by decide) ?_
    refine lv_istore_n (lv' := [(1, .int 1), (3, .int nu__1), (2, .int nu__1), (0, .ref (a 0))]) hx hb dX8_takeDoors_114 rfl hl (by decide) rfl (fun ls hl => ?_)
    refine lv_iload_n hx hb dX8_takeDoors_115 rfl (lv_at hl 0 rfl) ?_
    refine lv_if_le (tgt := 123) hx hb dX8_takeDoors_116 (by decide) (fun h => absurd h (by decide)) (fun _ => ?_)
    refine lv_iload_n hx hb dX8_takeDoors_119 rfl (lv_at hl 0 rfl) ?_
    refine lv_goto (tgt := 131) hx hb dX8_takeDoors_120 (by decide) ?_
    refine lv_istore_n (lv' := [(1, .int 1), (3, .int nu__1), (2, .int nu__1), (0, .ref (a 0))]) hx hb dX8_takeDoors_131 rfl hl (by decide) rfl (fun ls hl => ?_)
    refine lv_iconst (v := 0) hx hb dX8_takeDoors_132 (by decide) ?_
    refine lv_istore (lv' := [(4, .int 0), (1, .int 1), (3, .int nu__1), (2, .int nu__1), (0, .ref (a 0))]) hx hb dX8_takeDoors_133 hl (by decide) rfl (fun ls hl => ?_)
    refine lv_iload hx hb dX8_takeDoors_135 (lv_at hl 0 rfl) ?_
    refine lv_iload_n hx hb dX8_takeDoors_137 rfl (lv_at hl 3 rfl) ?_
    refine lv_icmp_ge (tgt := 184) hx hb dX8_takeDoors_138 (by decide) (fun c_30 => ?_) (fun c_30 => ?_)
    · refine lv_iload_n hx hb dX8_takeDoors_184 rfl (lv_at hl 1 rfl) ?_
      have hP9 := hP.sub (ws' := [((a 0), .inr (8, (fX8 a (nI tx) (nI pl_2) (nI t0__1) wd (nI we) nu__1 (nI nq_2) (nI rd) ts (nI ru) (nI rw) (nI ca) df db sd))), (aI k (a 5) 240 ftext), (aI k (a 14) 24 freadFree), (aI k (a 15) 24 freadPrice)]) [2, 3, 0, 1] rfl
      have hD9 := hD.sub (ws' := [((a 0), .inr (8, (fX8 a (nI tx) (nI pl_2) (nI t0__1) wd (nI we) nu__1 (nI nq_2) (nI rd) ts (nI ru) (nI rw) (nI ca) df db sd))), (aI k (a 5) 240 ftext), (aI k (a 14) 24 freadFree), (aI k (a 15) 24 freadPrice)]) [2, 3, 0, 1] (by decide) rfl
      exact W.iret (v := 1) hx hb hr (fun t ht hW => ⟨⟨1, (t0__1, wd, we, (nI pl_2), nu__1, (nI nq_2), rd, freadFree, freadPrice), rfl, ⟨.inr ⟨1, pl_2, rfl, by decide, by decide, by simp [doF, hq_2, -List.getD_eq_getElem?_getD], by simp [doF, hq_2, -List.getD_eq_getElem?_getD], rfl⟩, by omega, by omega, by omega, fun h => absurd h (by decide)⟩, by rw [ht]; exact hP9, hD9⟩, hS.F ht⟩) hS.2.2 dX8_takeDoors_185
    · refine lv_iload_n hx hb dX8_takeDoors_141 rfl (lv_at hl 1 rfl) ?_
      refine lv_if_ne (tgt := 184) hx hb dX8_takeDoors_142 (by decide) (fun _ => ?_) (fun h => absurd h (by decide))
      refine lv_iload_n hx hb dX8_takeDoors_184 rfl (lv_at hl 1 rfl) ?_
      have hP9 := hP.sub (ws' := [((a 0), .inr (8, (fX8 a (nI tx) (nI pl_2) (nI t0__1) wd (nI we) nu__1 (nI nq_2) (nI rd) ts (nI ru) (nI rw) (nI ca) df db sd))), (aI k (a 5) 240 ftext), (aI k (a 14) 24 freadFree), (aI k (a 15) 24 freadPrice)]) [2, 3, 0, 1] rfl
      have hD9 := hD.sub (ws' := [((a 0), .inr (8, (fX8 a (nI tx) (nI pl_2) (nI t0__1) wd (nI we) nu__1 (nI nq_2) (nI rd) ts (nI ru) (nI rw) (nI ca) df db sd))), (aI k (a 5) 240 ftext), (aI k (a 14) 24 freadFree), (aI k (a 15) 24 freadPrice)]) [2, 3, 0, 1] (by decide) rfl
      exact W.iret (v := 1) hx hb hr (fun t ht hW => ⟨⟨1, (t0__1, wd, we, (nI pl_2), nu__1, (nI nq_2), rd, freadFree, freadPrice), rfl, ⟨.inr ⟨1, pl_2, rfl, by decide, by decide, by simp [doF, hq_2, -List.getD_eq_getElem?_getD], by simp [doF, hq_2, -List.getD_eq_getElem?_getD], rfl⟩, by omega, by omega, by omega, fun h => absurd h (by decide)⟩, by rw [ht]; exact hP9, hD9⟩, hS.F ht⟩) hS.2.2 dX8_takeDoors_185
  · refine lv_istore_n (lv' := [(1, .int 2), (0, .ref (a 0))]) hx hb dX8_takeDoors_7 rfl hl (by decide) rfl (fun ls hl => ?_)
    refine lv_aload_n hx hb dX8_takeDoors_8 rfl (lv_at hl 1 rfl) ?_
    refine va_get (D := D) (ci := 8) (v := .int nu__1) (C := RX8) (T := TX8) (N := 44) hx hb hts inX8 hown hK hP 2 rfl rfl 10 (by decide) (hts _ tw_983) (fun _ h9 => h9) rfl dX8_takeDoors_9 ?_
    refine lv_istore_n (lv' := [(2, .int nu__1), (1, .int 2), (0, .ref (a 0))]) hx hb dX8_takeDoors_12 rfl hl (by decide) rfl (fun ls hl => ?_)
    refine lv_iload_n hx hb dX8_takeDoors_13 rfl (lv_at hl 1 rfl) ?_
    refine lv_if_ne (tgt := 38) hx hb dX8_takeDoors_14 (by decide) (fun _ => ?_) (fun h => absurd h (by decide))
    refine lv_iload_n hx hb dX8_takeDoors_38 rfl (lv_at hl 1 rfl) ?_
    refine lv_if_le (tgt := 46) hx hb dX8_takeDoors_39 (by decide) (fun h => absurd h (by decide)) (fun _ => ?_)
    refine lv_iload_n hx hb dX8_takeDoors_42 rfl (lv_at hl 1 rfl) ?_
    refine lv_goto (tgt := 64) hx hb dX8_takeDoors_43 (by decide) ?_
    refine lv_istore_n (lv' := [(1, .int 2), (2, .int nu__1), (0, .ref (a 0))]) hx hb dX8_takeDoors_64 rfl hl (by decide) rfl (fun ls hl => ?_)
    refine lv_iload_n hx hb dX8_takeDoors_65 rfl (lv_at hl 0 rfl) ?_
    refine lv_if_le (tgt := 73) hx hb dX8_takeDoors_66 (by decide) (fun h => absurd h (by decide)) (fun _ => ?_)
    refine lv_iload_n hx hb dX8_takeDoors_69 rfl (lv_at hl 0 rfl) ?_
    refine lv_goto (tgt := 80) hx hb dX8_takeDoors_70 (by decide) ?_
    refine lv_istore_n (lv' := [(1, .int 2), (2, .int nu__1), (0, .ref (a 0))]) hx hb dX8_takeDoors_80 rfl hl (by decide) rfl (fun ls hl => ?_)
    refine lv_aload_n hx hb dX8_takeDoors_81 rfl (lv_at hl 2 rfl) ?_
    refine va_get (D := D) (ci := 8) (v := .int nu__1) (C := RX8) (T := TX8) (N := 44) hx hb hts inX8 hown hK hP 2 rfl rfl 10 (by decide) (hts _ tw_983) (fun _ h9 => h9) rfl dX8_takeDoors_82 ?_
    refine lv_istore_n (lv' := [(3, .int nu__1), (1, .int 2), (2, .int nu__1), (0, .ref (a 0))]) hx hb dX8_takeDoors_85 rfl hl (by decide) rfl (fun ls hl => ?_)
    refine lv_iload_n hx hb dX8_takeDoors_86 rfl (lv_at hl 1 rfl) ?_
    refine lv_if_le (tgt := 94) hx hb dX8_takeDoors_87 (by decide) (fun h => absurd h (by decide)) (fun _ => ?_)
    refine lv_iload_n hx hb dX8_takeDoors_90 rfl (lv_at hl 1 rfl) ?_
    refine lv_goto (tgt := 114) hx hb dX8_takeDoors_91 (by decide) ?_
    refine lv_istore_n (lv' := [(1, .int 2), (3, .int nu__1), (2, .int nu__1), (0, .ref (a 0))]) hx hb dX8_takeDoors_114 rfl hl (by decide) rfl (fun ls hl => ?_)
    refine lv_iload_n hx hb dX8_takeDoors_115 rfl (lv_at hl 0 rfl) ?_
    refine lv_if_le (tgt := 123) hx hb dX8_takeDoors_116 (by decide) (fun h => absurd h (by decide)) (fun _ => ?_)
    refine lv_iload_n hx hb dX8_takeDoors_119 rfl (lv_at hl 0 rfl) ?_
    refine lv_goto (tgt := 131) hx hb dX8_takeDoors_120 (by decide) ?_
    refine lv_istore_n (lv' := [(1, .int 2), (3, .int nu__1), (2, .int nu__1), (0, .ref (a 0))]) hx hb dX8_takeDoors_131 rfl hl (by decide) rfl (fun ls hl => ?_)
    refine lv_iconst (v := 0) hx hb dX8_takeDoors_132 (by decide) ?_
    refine lv_istore (lv' := [(4, .int 0), (1, .int 2), (3, .int nu__1), (2, .int nu__1), (0, .ref (a 0))]) hx hb dX8_takeDoors_133 hl (by decide) rfl (fun ls hl => ?_)
    refine lv_iload hx hb dX8_takeDoors_135 (lv_at hl 0 rfl) ?_
    refine lv_iload_n hx hb dX8_takeDoors_137 rfl (lv_at hl 3 rfl) ?_
    refine lv_icmp_ge (tgt := 184) hx hb dX8_takeDoors_138 (by decide) (fun c_31 => ?_) (fun c_31 => ?_)
    · refine lv_iload_n hx hb dX8_takeDoors_184 rfl (lv_at hl 1 rfl) ?_
      have hP9 := hP.sub (ws' := [((a 0), .inr (8, (fX8 a (nI tx) (nI pl_2) (nI t0__1) wd (nI we) nu__1 (nI nq_2) (nI rd) ts (nI ru) (nI rw) (nI ca) df db sd))), (aI k (a 5) 240 ftext), (aI k (a 14) 24 freadFree), (aI k (a 15) 24 freadPrice)]) [2, 3, 0, 1] rfl
      have hD9 := hD.sub (ws' := [((a 0), .inr (8, (fX8 a (nI tx) (nI pl_2) (nI t0__1) wd (nI we) nu__1 (nI nq_2) (nI rd) ts (nI ru) (nI rw) (nI ca) df db sd))), (aI k (a 5) 240 ftext), (aI k (a 14) 24 freadFree), (aI k (a 15) 24 freadPrice)]) [2, 3, 0, 1] (by decide) rfl
      exact W.iret (v := 2) hx hb hr (fun t ht hW => ⟨⟨2, (t0__1, wd, we, (nI pl_2), nu__1, (nI nq_2), rd, freadFree, freadPrice), rfl, ⟨.inr ⟨2, pl_2, rfl, by decide, by decide, by simp [doF, hq_2, -List.getD_eq_getElem?_getD], by simp [doF, hq_2, -List.getD_eq_getElem?_getD], rfl⟩, by omega, by omega, by omega, fun h => absurd h (by decide)⟩, by rw [ht]; exact hP9, hD9⟩, hS.F ht⟩) hS.2.2 dX8_takeDoors_185
    · refine lv_iload_n hx hb dX8_takeDoors_141 rfl (lv_at hl 1 rfl) ?_
      refine lv_if_ne (tgt := 184) hx hb dX8_takeDoors_142 (by decide) (fun _ => ?_) (fun h => absurd h (by decide))
      refine lv_iload_n hx hb dX8_takeDoors_184 rfl (lv_at hl 1 rfl) ?_
      have hP9 := hP.sub (ws' := [((a 0), .inr (8, (fX8 a (nI tx) (nI pl_2) (nI t0__1) wd (nI we) nu__1 (nI nq_2) (nI rd) ts (nI ru) (nI rw) (nI ca) df db sd))), (aI k (a 5) 240 ftext), (aI k (a 14) 24 freadFree), (aI k (a 15) 24 freadPrice)]) [2, 3, 0, 1] rfl
      have hD9 := hD.sub (ws' := [((a 0), .inr (8, (fX8 a (nI tx) (nI pl_2) (nI t0__1) wd (nI we) nu__1 (nI nq_2) (nI rd) ts (nI ru) (nI rw) (nI ca) df db sd))), (aI k (a 5) 240 ftext), (aI k (a 14) 24 freadFree), (aI k (a 15) 24 freadPrice)]) [2, 3, 0, 1] (by decide) rfl
      exact W.iret (v := 2) hx hb hr (fun t ht hW => ⟨⟨2, (t0__1, wd, we, (nI pl_2), nu__1, (nI nq_2), rd, freadFree, freadPrice), rfl, ⟨.inr ⟨2, pl_2, rfl, by decide, by decide, by simp [doF, hq_2, -List.getD_eq_getElem?_getD], by simp [doF, hq_2, -List.getD_eq_getElem?_getD], rfl⟩, by omega, by omega, by omega, fun h => absurd h (by decide)⟩, by rw [ht]; exact hP9, hD9⟩, hS.F ht⟩) hS.2.2 dX8_takeDoors_185


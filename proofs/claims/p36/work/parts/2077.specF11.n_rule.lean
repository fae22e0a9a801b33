set_option maxHeartbeats 4000000 in
set_option maxRecDepth 100000 in
theorem n_rule (l : Launch) (D : va_G) (k : Nat → ClassId) (st : Nat → Nat) (lo : Nat) (a : Nat → Nat) (tx : Nat) (t0 : Nat) (we : Nat) (rd : Nat) (ru : Nat) (rw : Nat) (ca : Nat) (fp : Int32) (wd : Int64) (nu : Int32) (na : Int32) (ts : Int32) (df : Int32) (db : Int32) (sd : Int32) (ftext : Nat → Int32) (bm : Nat → Nat) (fbarSeen : Nat → Int32) (fbarFrom : Nat → Int32) (fruleRounds : Nat → Int32) (htx : tx ≤ 240) (hbm : ∀ j, bm j ≤ 12) (hru : ru ≤ 4) (hty : ∀ j, 0 ≤ ftext j) : CWi l D k st lo yX8_rule cX8_rule 2 (some .int) ({ frames := 5, cells := 0, slots := 0, locals := 122 }) 0 0 [.ref (a 0)] [((a 0), .inr (8, (fX8 a (nI tx) fp (nI t0) wd (nI we) nu na (nI rd) ts (nI ru) (nI rw) (nI ca) df db sd))), (aI k (a 5) 240 ftext), (aI k (a 25) 4 (nF bm)), (aI k (a 26) 48 fbarSeen), (aI k (a 27) 48 fbarFrom), (aI k (a 28) 4 fruleRounds)] (fun (r : Int32) (u : Nat × Int64 × Nat × Int32 × Int32 × Int32 × Nat × Nat × (Nat → Nat) × (Nat → Int32) × (Nat → Int32) × (Nat → Int32)) => match u with | (t0_, wd_, we_, fp_, nu_, na_, tx_, ru_, bm_, fbarSeen_, fbarFrom_, fruleRounds_) => (ruP ftext tx fp ru (ruM bm fbarSeen fbarFrom fruleRounds) r tx_ fp_ ru_ (ruM bm_ fbarSeen_ fbarFrom_ fruleRounds_)) ∧ tx_ ≤ 240 ∧ ru_ ≤ 4 ∧ (∀ j, bm_ j ≤ 12)) (fun (u : Nat × Int64 × Nat × Int32 × Int32 × Int32 × Nat × Nat × (Nat → Nat) × (Nat → Int32) × (Nat → Int32) × (Nat → Int32)) => match u with | (t0_, wd_, we_, fp_, nu_, na_, tx_, ru_, bm_, fbarSeen_, fbarFrom_, fruleRounds_) => [((a 0), .inr (8, (fX8 a (nI tx_) fp_ (nI t0_) wd_ (nI we_) nu_ na_ (nI rd) ts (nI ru_) (nI rw) (nI ca) df db sd))), (aI k (a 5) 240 ftext), (aI k (a 25) 4 (nF bm_)), (aI k (a 26) 48 fbarSeen_), (aI k (a 27) 48 fbarFrom_), (aI k (a 28) 4 fruleRounds_)]) := by
  intro sz
  refine Met.ofW (cc := cX8_rule) (maxL := 2) (ret := (some .int)) (by decide) rfl ?_
  intro p e s m args below meth c s₁ B hml hv
  obtain ⟨rfl, hsz, hlo, hP, hK, hDL, hZ⟩ := hv
  have hx := B.exec
  have hb := B.bytes
  have hr := B.returns
  have hts := WS_ts B.pre
  have hown : s.vm.findClass RX8 = some m.cls := findClass_of_methodNamed B.named
  have hlocks := B.notSynchronized
  subst hsz
  have hD := hDL.self (sz := s.heap.size)
  have hAlo := A_lo hDL hlo
  generalize hAe : va_A [((a 0), .inr (8, (fX8 a (nI tx) fp (nI t0) wd (nI we) nu na (nI rd) ts (nI ru) (nI rw) (nI ca) df db sd))), (aI k (a 5) 240 ftext), (aI k (a 25) 4 (nF bm)), (aI k (a 26) 48 fbarSeen), (aI k (a 27) 48 fbarFrom), (aI k (a 28) 4 fruleRounds)] s.heap.size = A at hD hAlo ⊢
  have hA : ∀ q : Nat, s.heap.size ≤ q → A q := fun q h => by rw [← hAe]; exact Or.inr h
  have hS : va_S A s.heap s.heap [] := va_S.rf
  have hl := lv_entry ([.ref (a 0)]) (n := 2) (Nat.le_of_ble_eq_true rfl)
  rw [lg_entry_eq]
  generalize (lg_sl ([.ref (a 0)]) ++ List.replicate (2 - (lg_sl ([.ref (a 0)])).length) Slot.unset).toArray = ls at hl ⊢
  have hl : lv_has ls 2 [(0, .ref (a 0))] := hl
  refine lv_aload_n hx hb dX8_rule_0 rfl (lv_at hl 0 rfl) ?_
  refine va_get (D := D) (ci := 8) (v := .int (nI tx)) (C := RX8) (T := TX8) (N := 44) hx hb hts inX8 hown hK hP 0 rfl rfl 5 (by decide) (hts _ tw_978) (fun _ h9 => h9) rfl dX8_rule_1 ?_
  refine lv_bipush (v := 80) hx hb dX8_rule_4 (by decide) ?_
  refine lv_icmp_le (tgt := 13) hx hb dX8_rule_6 (by decide) (fun c_1 => ?_) (fun c_1 => ?_)
  · have c_1 := (nI_leI (a := tx) (b := 80) (by omega) (by omega)).mp c_1
    refine lv_aload_n hx hb dX8_rule_13 rfl (lv_at hl 0 rfl) ?_
    refine va_get (D := D) (ci := 8) (v := .int (nI ru)) (C := RX8) (T := TX8) (N := 44) hx hb hts inX8 hown hK hP 0 rfl rfl 23 (by decide) (hts _ tw_996) (fun _ h9 => h9) rfl dX8_rule_14 ?_
    refine lv_iconst (v := 4) hx hb dX8_rule_17 (by decide) ?_
    refine lv_icmp_ne (tgt := 25) hx hb dX8_rule_18 (by decide) (fun c_2 => ?_) (fun c_2 => ?_)
    · have c_2 : ¬ (ru = 4) := fun h => c_2 ((nI_eq (a := ru) (b := 4) (by omega) (by omega)).mpr h)
      refine lv_aload_n hx hb dX8_rule_25 rfl (lv_at hl 0 rfl) ?_
      refine lv_iconst (v := (-1)) hx hb dX8_rule_26 (by decide) ?_
      refine va_put (D := D) (ci := 8) (v := .int (-1)) (ty := .int) (C := RX8) (T := TX8) (N := 44) hx hb hts inX8 tyX8 tyX8_ok nmX8 hown hK hP hD hS 0 rfl rfl 6 (by decide) (hts _ tw_979) (fun _ h9 => h9) rfl (by decide +kernel) rfl rfl (Nat.le_of_ble_eq_true rfl) dX8_rule_27 (fun H locs hP hD hS => ?_)
      replace hP : va_P D classes [((a 0), .inr (8, (fX8 a (nI tx) (-1) (nI t0) wd (nI we) nu na (nI rd) ts (nI ru) (nI rw) (nI ca) df db sd))), (aI k (a 5) 240 ftext), (aI k (a 25) 4 (nF bm)), (aI k (a 26) 48 fbarSeen), (aI k (a 27) 48 fbarFrom), (aI k (a 28) 4 fruleRounds)] H := hP
      replace hD : va_D A [((a 0), .inr (8, (fX8 a (nI tx) (-1) (nI t0) wd (nI we) nu na (nI rd) ts (nI ru) (nI rw) (nI ca) df db sd))), (aI k (a 5) 240 ftext), (aI k (a 25) 4 (nF bm)), (aI k (a 26) 48 fbarSeen), (aI k (a 27) 48 fbarFrom), (aI k (a 28) 4 fruleRounds)] := hD
      refine lv_aload_n hx hb dX8_rule_30 rfl (lv_at hl 0 rfl) ?_
      refine lv_iconst (v := 0) hx hb dX8_rule_31 (by decide) ?_
      refine va_put (D := D) (ci := 8) (v := .int 0) (ty := .int) (C := RX8) (T := TX8) (N := 44) hx hb hts inX8 tyX8 tyX8_ok nmX8 hown hK hP hD hS 0 rfl rfl 7 (by decide) (hts _ tw_980) (fun _ h9 => h9) rfl (by decide +kernel) rfl rfl (Nat.le_of_ble_eq_true rfl) dX8_rule_32 (fun H locs hP hD hS => ?_)
      replace hP : va_P D classes [((a 0), .inr (8, (fX8 a (nI tx) (-1) 0 wd (nI we) nu na (nI rd) ts (nI ru) (nI rw) (nI ca) df db sd))), (aI k (a 5) 240 ftext), (aI k (a 25) 4 (nF bm)), (aI k (a 26) 48 fbarSeen), (aI k (a 27) 48 fbarFrom), (aI k (a 28) 4 fruleRounds)] H := hP
      replace hD : va_D A [((a 0), .inr (8, (fX8 a (nI tx) (-1) 0 wd (nI we) nu na (nI rd) ts (nI ru) (nI rw) (nI ca) df db sd))), (aI k (a 5) 240 ftext), (aI k (a 25) 4 (nF bm)), (aI k (a 26) 48 fbarSeen), (aI k (a 27) 48 fbarFrom), (aI k (a 28) 4 fruleRounds)] := hD
      refine lv_aload_n hx hb dX8_rule_35 rfl (lv_at hl 0 rfl) ?_
      refine rw_i (D := D) (wr := []) (va_runV (As := []) (rest := []) ⟨hx, hb, hml, hown, hts⟩ ((n_takeRule l D k st lo a tx 0 we rd ru rw ca (-1) wd nu na ts df db sd ftext bm fbarSeen fbarFrom fruleRounds (by omega) (by omega) hbm (by omega) (by omega) (by omega)) H.size) (cwV 0 hts (gV tw_1309 tw_1311 tw_55 tw_87 tw_1312) rfl rfl rfl (by decide +kernel) ⟨Nat.le_of_ble_eq_true rfl, Nat.le_of_ble_eq_true rfl⟩) (pV hS hAlo hlo hP hK (va_Dlo hD hAlo) hZ [0, 1, 2, 3, 4, 5] (by decide) rfl (ci := 8) (q := (RX8, TX8, 44)) (q0 := 0) rfl rfl) rfl rfl hl.1 rfl (lv_room (Nat.le_of_ble_eq_true rfl)) dX8_rule_36 ⟨Nat.le_of_ble_eq_true rfl, Nat.le_of_ble_eq_true rfl⟩) hS hA hP hD [0, 1, 2, 3, 4, 5] [] rfl rfl (by decide) (by decide) (fun r_3 u H locs hw_3 hP hD hS => ?_)
      obtain ⟨t0__3, wd__3, we__3, fp__3, nu__3, na__3, bm__3, fbarSeen__3, fbarFrom__3, fruleRounds__3⟩ := u
      replace hP : va_P D classes [((a 0), .inr (8, (fX8 a (nI tx) fp__3 (nI t0__3) wd__3 (nI we__3) nu__3 na__3 (nI rd) ts (nI ru) (nI rw) (nI ca) df db sd))), (aI k (a 5) 240 ftext), (aI k (a 25) 4 (nF bm__3)), (aI k (a 26) 48 fbarSeen__3), (aI k (a 27) 48 fbarFrom__3), (aI k (a 28) 4 fruleRounds__3)] H := hP
      replace hD : va_D A [((a 0), .inr (8, (fX8 a (nI tx) fp__3 (nI t0__3) wd__3 (nI we__3) nu__3 na__3 (nI rd) ts (nI ru) (nI rw) (nI ca) df db sd))), (aI k (a 5) 240 ftext), (aI k (a 25) 4 (nF bm__3)), (aI k (a 26) 48 fbarSeen__3), (aI k (a 27) 48 fbarFrom__3), (aI k (a 28) 4 fruleRounds__3)] := hD
      try dsimp only at hw_3
      rcases hw_3 with ⟨⟨rfl, hrf_4, hfp_4⟩ | ⟨e_4, pl_4, rfl, he1_4, he2_4, hp1_4, hp2_4, rfl⟩, hM_4, hw_3⟩
      · replace hfp_4 := hfp_4.symm
        subst hfp_4
        refine lv_istore_n (lv' := [(1, .int 0), (0, .ref (a 0))]) hx hb dX8_rule_39 rfl hl (by decide) rfl (fun ls hl => ?_)
        refine lv_aload_n hx hb dX8_rule_40 rfl (lv_at hl 1 rfl) ?_
        refine lv_iconst (v := 0) hx hb dX8_rule_41 (by decide) ?_
        refine va_put (D := D) (ci := 8) (v := .int 0) (ty := .int) (C := RX8) (T := TX8) (N := 44) hx hb hts inX8 tyX8 tyX8_ok nmX8 hown hK hP hD hS 0 rfl rfl 5 (by decide) (hts _ tw_978) (fun _ h9 => h9) rfl (by decide +kernel) rfl rfl (Nat.le_of_ble_eq_true rfl) dX8_rule_42 (fun H locs hP hD hS => ?_)
        replace hP : va_P D classes [((a 0), .inr (8, (fX8 a 0 (-1) (nI t0__3) wd__3 (nI we__3) nu__3 na__3 (nI rd) ts (nI ru) (nI rw) (nI ca) df db sd))), (aI k (a 5) 240 ftext), (aI k (a 25) 4 (nF bm__3)), (aI k (a 26) 48 fbarSeen__3), (aI k (a 27) 48 fbarFrom__3), (aI k (a 28) 4 fruleRounds__3)] H := hP
        replace hD : va_D A [((a 0), .inr (8, (fX8 a 0 (-1) (nI t0__3) wd__3 (nI we__3) nu__3 na__3 (nI rd) ts (nI ru) (nI rw) (nI ca) df db sd))), (aI k (a 5) 240 ftext), (aI k (a 25) 4 (nF bm__3)), (aI k (a 26) 48 fbarSeen__3), (aI k (a 27) 48 fbarFrom__3), (aI k (a 28) 4 fruleRounds__3)] := hD
        refine lv_iload_n hx hb dX8_rule_45 rfl (lv_at hl 0 rfl) ?_
        refine lv_if_le (tgt := 54) hx hb dX8_rule_46 (by decide) (fun _ => ?_) (fun h => absurd (by decide) h)
        refine lv_aload_n hx hb dX8_rule_54 rfl (lv_at hl 1 rfl) ?_
        refine lv_dup hx hb dX8_rule_55 rfl ?_
        refine va_get (D := D) (ci := 8) (v := .int (nI ru)) (C := RX8) (T := TX8) (N := 44) hx hb hts inX8 hown hK hP 0 rfl rfl 23 (by decide) (hts _ tw_996) (fun _ h9 => h9) rfl dX8_rule_56 ?_
        refine lv_iconst (v := 1) hx hb dX8_rule_59 (by decide) ?_
        refine lv_iadd hx hb dX8_rule_60 ?_
        refine lv_ti (y := (nI (ru + 1))) (nI_add ru 1) ?_
        refine va_put (D := D) (ci := 8) (v := .int (nI (ru + 1))) (ty := .int) (C := RX8) (T := TX8) (N := 44) hx hb hts inX8 tyX8 tyX8_ok nmX8 hown hK hP hD hS 0 rfl rfl 23 (by decide) (hts _ tw_996) (fun _ h9 => h9) rfl (by decide +kernel) rfl rfl (Nat.le_of_ble_eq_true rfl) dX8_rule_61 (fun H locs hP hD hS => ?_)
        replace hP : va_P D classes [((a 0), .inr (8, (fX8 a 0 (-1) (nI t0__3) wd__3 (nI we__3) nu__3 na__3 (nI rd) ts (nI (ru + 1)) (nI rw) (nI ca) df db sd))), (aI k (a 5) 240 ftext), (aI k (a 25) 4 (nF bm__3)), (aI k (a 26) 48 fbarSeen__3), (aI k (a 27) 48 fbarFrom__3), (aI k (a 28) 4 fruleRounds__3)] H := hP
        replace hD : va_D A [((a 0), .inr (8, (fX8 a 0 (-1) (nI t0__3) wd__3 (nI we__3) nu__3 na__3 (nI rd) ts (nI (ru + 1)) (nI rw) (nI ca) df db sd))), (aI k (a 5) 240 ftext), (aI k (a 25) 4 (nF bm__3)), (aI k (a 26) 48 fbarSeen__3), (aI k (a 27) 48 fbarFrom__3), (aI k (a 28) 4 fruleRounds__3)] := hD
        refine lv_aload_n hx hb dX8_rule_64 rfl (lv_at hl 1 rfl) ?_
        refine va_get (D := D) (ci := 8) (v := .int (nI (ru + 1))) (C := RX8) (T := TX8) (N := 44) hx hb hts inX8 hown hK hP 0 rfl rfl 23 (by decide) (hts _ tw_996) (fun _ h9 => h9) rfl dX8_rule_65 ?_
        refine lv_iconst (v := 1) hx hb dX8_rule_68 (by decide) ?_
        refine lv_isub hx hb dX8_rule_69 ?_
        refine lv_ti (y := (nI (ru + 1) - 1)) rfl ?_
        have hP9 := hP.sub (ws' := [((a 0), .inr (8, (fX8 a 0 (-1) (nI t0__3) wd__3 (nI we__3) nu__3 na__3 (nI rd) ts (nI (ru + 1)) (nI rw) (nI ca) df db sd))), (aI k (a 5) 240 ftext), (aI k (a 25) 4 (nF bm__3)), (aI k (a 26) 48 fbarSeen__3), (aI k (a 27) 48 fbarFrom__3), (aI k (a 28) 4 fruleRounds__3)]) [0, 1, 2, 3, 4, 5] rfl
        have hD9 := hD.sub (ws' := [((a 0), .inr (8, (fX8 a 0 (-1) (nI t0__3) wd__3 (nI we__3) nu__3 na__3 (nI rd) ts (nI (ru + 1)) (nI rw) (nI ca) df db sd))), (aI k (a 5) 240 ftext), (aI k (a 25) 4 (nF bm__3)), (aI k (a 26) 48 fbarSeen__3), (aI k (a 27) 48 fbarFrom__3), (aI k (a 28) 4 fruleRounds__3)]) [0, 1, 2, 3, 4, 5] (by decide) rfl
        exact W.iret (v := (nI (ru + 1) - 1)) hx hb hr (fun t ht hW => ⟨⟨(nI (ru + 1) - 1), (t0__3, wd__3, we__3, (-1), nu__3, na__3, 0, (ru + 1), bm__3, fbarSeen__3, fbarFrom__3, fruleRounds__3), rfl, ⟨⟨fun h => absurd h (by omega), fun _ h => absurd h (by omega), fun _ _ => ⟨rfl, hM_4, .inr ⟨hrf_4, (by show nI (ru + 1) - nI 1 = nI ru; rw [pk_sub (by omega)]; rfl), rfl, rfl⟩⟩⟩, by omega, by omega, hw_3⟩, by rw [ht]; exact hP9, hD9⟩, hS.F ht⟩) hS.2.2 dX8_rule_70
      · refine lv_istore_n (lv' := [(1, .int (nI e_4)), (0, .ref (a 0))]) hx hb dX8_rule_39 rfl hl (by decide) rfl (fun ls hl => ?_)
        refine lv_aload_n hx hb dX8_rule_40 rfl (lv_at hl 1 rfl) ?_
        refine lv_iconst (v := 0) hx hb dX8_rule_41 (by decide) ?_
        refine va_put (D := D) (ci := 8) (v := .int 0) (ty := .int) (C := RX8) (T := TX8) (N := 44) hx hb hts inX8 tyX8 tyX8_ok nmX8 hown hK hP hD hS 0 rfl rfl 5 (by decide) (hts _ tw_978) (fun _ h9 => h9) rfl (by decide +kernel) rfl rfl (Nat.le_of_ble_eq_true rfl) dX8_rule_42 (fun H locs hP hD hS => ?_)
        replace hP : va_P D classes [((a 0), .inr (8, (fX8 a 0 (nI pl_4) (nI t0__3) wd__3 (nI we__3) nu__3 na__3 (nI rd) ts (nI ru) (nI rw) (nI ca) df db sd))), (aI k (a 5) 240 ftext), (aI k (a 25) 4 (nF bm__3)), (aI k (a 26) 48 fbarSeen__3), (aI k (a 27) 48 fbarFrom__3), (aI k (a 28) 4 fruleRounds__3)] H := hP
        replace hD : va_D A [((a 0), .inr (8, (fX8 a 0 (nI pl_4) (nI t0__3) wd__3 (nI we__3) nu__3 na__3 (nI rd) ts (nI ru) (nI rw) (nI ca) df db sd))), (aI k (a 5) 240 ftext), (aI k (a 25) 4 (nF bm__3)), (aI k (a 26) 48 fbarSeen__3), (aI k (a 27) 48 fbarFrom__3), (aI k (a 28) 4 fruleRounds__3)] := hD
        refine lv_iload_n hx hb dX8_rule_45 rfl (lv_at hl 0 rfl) ?_
        refine lv_if_le (tgt := 54) hx hb dX8_rule_46 (by decide) (fun h => absurd ((nI_leI (a := e_4) (b := 0) (by omega) (by omega)).mp h) (by omega)) (fun _ => ?_)
        refine lv_bipush (v := (-10)) hx hb dX8_rule_49 (by decide) ?_
        refine lv_iload_n hx hb dX8_rule_51 rfl (lv_at hl 0 rfl) ?_
        refine lv_isub hx hb dX8_rule_52 ?_
        refine lv_topi (fun x_6 ex_6 => ?_)
        have hP9 := hP.sub (ws' := [((a 0), .inr (8, (fX8 a 0 (nI pl_4) (nI t0__3) wd__3 (nI we__3) nu__3 na__3 (nI rd) ts (nI ru) (nI rw) (nI ca) df db sd))), (aI k (a 5) 240 ftext), (aI k (a 25) 4 (nF bm__3)), (aI k (a 26) 48 fbarSeen__3), (aI k (a 27) 48 fbarFrom__3), (aI k (a 28) 4 fruleRounds__3)]) [0, 1, 2, 3, 4, 5] rfl
        have hD9 := hD.sub (ws' := [((a 0), .inr (8, (fX8 a 0 (nI pl_4) (nI t0__3) wd__3 (nI we__3) nu__3 na__3 (nI rd) ts (nI ru) (nI rw) (nI ca) df db sd))), (aI k (a 5) 240 ftext), (aI k (a 25) 4 (nF bm__3)), (aI k (a 26) 48 fbarSeen__3), (aI k (a 27) 48 fbarFrom__3), (aI k (a 28) 4 fruleRounds__3)]) [0, 1, 2, 3, 4, 5] (by decide) rfl
        exact W.iret (v := x_6) hx hb hr (fun t ht hW => ⟨⟨x_6, (t0__3, wd__3, we__3, (nI pl_4), nu__3, na__3, 0, ru, bm__3, fbarSeen__3, fbarFrom__3, fruleRounds__3), rfl, ⟨⟨fun h => absurd h (by omega), fun _ h => absurd h (by omega), fun _ _ => ⟨rfl, hM_4, .inl ⟨e_4, pl_4, he1_4, he2_4, hp1_4, hp2_4, ex_6, rfl, rfl⟩⟩⟩, by omega, by omega, hw_3⟩, by rw [ht]; exact hP9, hD9⟩, hS.F ht⟩) hS.2.2 dX8_rule_53
    · have c_2 := (nI_eq (a := ru) (b := 4) (by omega) (by omega)).mp c_2
      refine lv_sipush (v := (-1004)) hx hb dX8_rule_21 (by decide) ?_
      have hP9 := hP.sub (ws' := [((a 0), .inr (8, (fX8 a (nI tx) fp (nI t0) wd (nI we) nu na (nI rd) ts (nI ru) (nI rw) (nI ca) df db sd))), (aI k (a 5) 240 ftext), (aI k (a 25) 4 (nF bm)), (aI k (a 26) 48 fbarSeen), (aI k (a 27) 48 fbarFrom), (aI k (a 28) 4 fruleRounds)]) [0, 1, 2, 3, 4, 5] rfl
      have hD9 := hD.sub (ws' := [((a 0), .inr (8, (fX8 a (nI tx) fp (nI t0) wd (nI we) nu na (nI rd) ts (nI ru) (nI rw) (nI ca) df db sd))), (aI k (a 5) 240 ftext), (aI k (a 25) 4 (nF bm)), (aI k (a 26) 48 fbarSeen), (aI k (a 27) 48 fbarFrom), (aI k (a 28) 4 fruleRounds)]) [0, 1, 2, 3, 4, 5] (by decide) rfl
      exact W.iret (v := (-1004)) hx hb hr (fun t ht hW => ⟨⟨(-1004), (t0, wd, we, fp, nu, na, tx, ru, bm, fbarSeen, fbarFrom, fruleRounds), rfl, ⟨⟨fun h => absurd h (by omega), fun _ _ => ⟨rfl, rfl, rfl, rfl, fun _ _ => rfl⟩, fun _ h => absurd h (by omega)⟩, by omega, by omega, hbm⟩, by rw [ht]; exact hP9, hD9⟩, hS.F ht⟩) hS.2.2 dX8_rule_24
  · have c_1 : ¬ (tx ≤ 80) := fun h => c_1 ((nI_leI (a := tx) (b := 80) (by omega) (by omega)).mpr h)
    refine lv_sipush (v := (-1003)) hx hb dX8_rule_9 (by decide) ?_
    have hP9 := hP.sub (ws' := [((a 0), .inr (8, (fX8 a (nI tx) fp (nI t0) wd (nI we) nu na (nI rd) ts (nI ru) (nI rw) (nI ca) df db sd))), (aI k (a 5) 240 ftext), (aI k (a 25) 4 (nF bm)), (aI k (a 26) 48 fbarSeen), (aI k (a 27) 48 fbarFrom), (aI k (a 28) 4 fruleRounds)]) [0, 1, 2, 3, 4, 5] rfl
    have hD9 := hD.sub (ws' := [((a 0), .inr (8, (fX8 a (nI tx) fp (nI t0) wd (nI we) nu na (nI rd) ts (nI ru) (nI rw) (nI ca) df db sd))), (aI k (a 5) 240 ftext), (aI k (a 25) 4 (nF bm)), (aI k (a 26) 48 fbarSeen), (aI k (a 27) 48 fbarFrom), (aI k (a 28) 4 fruleRounds)]) [0, 1, 2, 3, 4, 5] (by decide) rfl
    exact W.iret (v := (-1003)) hx hb hr (fun t ht hW => ⟨⟨(-1003), (t0, wd, we, fp, nu, na, tx, ru, bm, fbarSeen, fbarFrom, fruleRounds), rfl, ⟨⟨fun _ => ⟨rfl, rfl, rfl, rfl, fun _ _ => rfl⟩, fun h => absurd h (by omega), fun h => absurd h (by omega)⟩, by omega, by omega, hbm⟩, by rw [ht]; exact hP9, hD9⟩, hS.F ht⟩) hS.2.2 dX8_rule_12


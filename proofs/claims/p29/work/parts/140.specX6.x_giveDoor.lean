theorem dX1_giveDoor_0 : decode cX1_giveDoor 0 = .ok (.iload_n 2, 1) := by decide +kernel
theorem dX1_giveDoor_1 : decode cX1_giveDoor 1 = .ok (.iconst 1, 1) := by decide +kernel
theorem dX1_giveDoor_2 : decode cX1_giveDoor 2 = .ok (.isub, 1) := by decide +kernel
theorem dX1_giveDoor_3 : decode cX1_giveDoor 3 = .ok (.istore_n 3, 1) := by decide +kernel
theorem dX1_giveDoor_4 : decode cX1_giveDoor 4 = .ok (.iload_n 3, 1) := by decide +kernel
theorem dX1_giveDoor_5 : decode cX1_giveDoor 5 = .ok (.ifCond .le 90, 3) := by decide +kernel
theorem dX1_giveDoor_8 : decode cX1_giveDoor 8 = .ok (.iconst 0, 1) := by decide +kernel
theorem dX1_giveDoor_9 : decode cX1_giveDoor 9 = .ok (.istore 4, 2) := by decide +kernel
theorem dX1_giveDoor_11 : decode cX1_giveDoor 11 = .ok (.iload 4, 2) := by decide +kernel
theorem dX1_giveDoor_13 : decode cX1_giveDoor 13 = .ok (.aload_n 0, 1) := by decide +kernel
theorem dX1_giveDoor_14 : decode cX1_giveDoor 14 = .ok (.getfield 34, 3) := by decide +kernel
theorem dX1_giveDoor_17 : decode cX1_giveDoor 17 = .ok (.getfield 53, 3) := by decide +kernel
theorem dX1_giveDoor_20 : decode cX1_giveDoor 20 = .ok (.if_icmp .ge 69, 3) := by decide +kernel
theorem dX1_giveDoor_23 : decode cX1_giveDoor 23 = .ok (.iload_n 3, 1) := by decide +kernel
theorem dX1_giveDoor_24 : decode cX1_giveDoor 24 = .ok (.iload 4, 2) := by decide +kernel
theorem dX1_giveDoor_26 : decode cX1_giveDoor 26 = .ok (.ishr, 1) := by decide +kernel
theorem dX1_giveDoor_27 : decode cX1_giveDoor 27 = .ok (.iconst 1, 1) := by decide +kernel
theorem dX1_giveDoor_28 : decode cX1_giveDoor 28 = .ok (.iand, 1) := by decide +kernel
theorem dX1_giveDoor_29 : decode cX1_giveDoor 29 = .ok (.ifCond .eq 54, 3) := by decide +kernel
theorem dX1_giveDoor_32 : decode cX1_giveDoor 32 = .ok (.aload_n 0, 1) := by decide +kernel
theorem dX1_giveDoor_33 : decode cX1_giveDoor 33 = .ok (.getfield 18, 3) := by decide +kernel
theorem dX1_giveDoor_36 : decode cX1_giveDoor 36 = .ok (.iload_n 3, 1) := by decide +kernel
theorem dX1_giveDoor_37 : decode cX1_giveDoor 37 = .ok (.iconst 1, 1) := by decide +kernel
theorem dX1_giveDoor_38 : decode cX1_giveDoor 38 = .ok (.iload 4, 2) := by decide +kernel
theorem dX1_giveDoor_40 : decode cX1_giveDoor 40 = .ok (.ishl, 1) := by decide +kernel
theorem dX1_giveDoor_41 : decode cX1_giveDoor 41 = .ok (.iconst (-1), 1) := by decide +kernel
theorem dX1_giveDoor_42 : decode cX1_giveDoor 42 = .ok (.ixor, 1) := by decide +kernel
theorem dX1_giveDoor_43 : decode cX1_giveDoor 43 = .ok (.iand, 1) := by decide +kernel
theorem dX1_giveDoor_44 : decode cX1_giveDoor 44 = .ok (.iaload, 1) := by decide +kernel
theorem dX1_giveDoor_45 : decode cX1_giveDoor 45 = .ok (.aload_n 0, 1) := by decide +kernel
theorem dX1_giveDoor_46 : decode cX1_giveDoor 46 = .ok (.iload 4, 2) := by decide +kernel
theorem dX1_giveDoor_48 : decode cX1_giveDoor 48 = .ok (.iload_n 1, 1) := by decide +kernel
theorem dX1_giveDoor_49 : decode cX1_giveDoor 49 = .ok (.invokevirtual 70, 3) := by decide +kernel
theorem dX1_giveDoor_52 : decode cX1_giveDoor 52 = .ok (.iadd, 1) := by decide +kernel
theorem dX1_giveDoor_53 : decode cX1_giveDoor 53 = .ok (.aload_n 0, 1) := by decide +kernel
theorem dX1_giveDoor_54 : decode cX1_giveDoor 54 = .ok (.iload 4, 2) := by decide +kernel
theorem dX1_giveDoor_56 : decode cX1_giveDoor 56 = .ok (.aload_n 0, 1) := by decide +kernel
theorem dX1_giveDoor_57 : decode cX1_giveDoor 57 = .ok (.getfield 21, 3) := by decide +kernel
theorem dX1_giveDoor_60 : decode cX1_giveDoor 60 = .ok (.invokevirtual 70, 3) := by decide +kernel
theorem dX1_giveDoor_63 : decode cX1_giveDoor 63 = .ok (.isub, 1) := by decide +kernel
theorem dX1_giveDoor_64 : decode cX1_giveDoor 64 = .ok (.istore 5, 2) := by decide +kernel
theorem dX1_giveDoor_66 : decode cX1_giveDoor 66 = .ok (.aload_n 0, 1) := by decide +kernel
theorem dX1_giveDoor_67 : decode cX1_giveDoor 67 = .ok (.getfield 18, 3) := by decide +kernel
theorem dX1_giveDoor_70 : decode cX1_giveDoor 70 = .ok (.iload_n 3, 1) := by decide +kernel
theorem dX1_giveDoor_71 : decode cX1_giveDoor 71 = .ok (.aload_n 0, 1) := by decide +kernel
theorem dX1_giveDoor_72 : decode cX1_giveDoor 72 = .ok (.getfield 18, 3) := by decide +kernel
theorem dX1_giveDoor_75 : decode cX1_giveDoor 75 = .ok (.iload_n 3, 1) := by decide +kernel
theorem dX1_giveDoor_76 : decode cX1_giveDoor 76 = .ok (.iaload, 1) := by decide +kernel
theorem dX1_giveDoor_77 : decode cX1_giveDoor 77 = .ok (.iload 5, 2) := by decide +kernel
theorem dX1_giveDoor_79 : decode cX1_giveDoor 79 = .ok (.invokestatic 97, 3) := by decide +kernel
theorem dX1_giveDoor_82 : decode cX1_giveDoor 82 = .ok (.iastore, 1) := by decide +kernel
theorem dX1_giveDoor_83 : decode cX1_giveDoor 83 = .ok (.iinc 4 1, 3) := by decide +kernel
theorem dX1_giveDoor_86 : decode cX1_giveDoor 86 = .ok (.goto (-75), 3) := by decide +kernel
theorem dX1_giveDoor_89 : decode cX1_giveDoor 89 = .ok (.iinc 3 (-1), 3) := by decide +kernel
theorem dX1_giveDoor_92 : decode cX1_giveDoor 92 = .ok (.goto (-88), 3) := by decide +kernel
theorem dX1_giveDoor_95 : decode cX1_giveDoor 95 = .ok (.return_, 1) := by decide +kernel
set_option maxHeartbeats 4000000 in
set_option maxRecDepth 100000 in
theorem x_giveDoor (l : Launch) (D : va_G) (k : Nat → ClassId) (st : Nat → Nat) (lo : Nat) (c0 : Nat) (z0 : Nat) (z1 : Nat) (z2 : Nat) (z3 : Nat) (pn : Nat) (pf : Int32) (pd : Int32) (pe : Int32) (pco : Nat → Int32) (pg : Nat → Int32) (c1 : Nat) (c2 : Nat) (cc : Nat) (rz : Nat) (ro : Int32) (sd : Int32) (i : Nat) (se : Nat) (hpn : pn ≤ 24) (hcc : cc ≤ 4) (hi : i < 24) (hse : 1 ≤ se ∧ se ≤ 16) : CWv l D k st lo yX1_giveDoor cX1_giveDoor 6 none ({ frames := 1, cells := 0, slots := 0, locals := 60 }) 0 0 [.ref z0, .int (nI i), .int (nI se)] [(z0, .inr (1, (fX1 c0 z1 z2 z3 (nI pn) pf pd pe))), (aI k z2 100 pco), (aI k z3 16 pg), (c0, .inr (4, (fX4 c1 c2 (nI cc) (nI rz) ro sd)))] (fun (pg_ : (Nat → Int32)) => True) (fun (pg_ : (Nat → Int32)) => [(z0, .inr (1, (fX1 c0 z1 z2 z3 (nI pn) pf pd pe))), (aI k z2 100 pco), (aI k z3 16 pg_), (c0, .inr (4, (fX4 c1 c2 (nI cc) (nI rz) ro sd)))]) := by
  intro sz
  refine Met.ofW (cc := cX1_giveDoor) (maxL := 6) (ret := none) (by decide) rfl ?_
  intro p e s m args below meth c s₁ B hml hv
  obtain ⟨rfl, hsz, hlo, hP, hK, hDL, hZ⟩ := hv
  have hx := B.exec
  have hb := B.bytes
  have hr := B.returns
  have hts := WS_ts B.pre
  have hown : s.vm.findClass RX1 = some m.cls := findClass_of_methodNamed B.named
  have hlocks := B.notSynchronized
  subst hsz
  have hD := hDL.self (sz := s.heap.size)
  have hAlo := A_lo hDL hlo
  generalize hAe : va_A [(z0, .inr (1, (fX1 c0 z1 z2 z3 (nI pn) pf pd pe))), (aI k z2 100 pco), (aI k z3 16 pg), (c0, .inr (4, (fX4 c1 c2 (nI cc) (nI rz) ro sd)))] s.heap.size = A at hD hAlo ⊢
  have hA : ∀ q : Nat, s.heap.size ≤ q → A q := fun q h => by rw [← hAe]; exact Or.inr h
  have hS : va_S A s.heap s.heap [] := va_S.rf
  have hl := lv_entry ([.ref z0, .int (nI i), .int (nI se)]) (n := 6) (Nat.le_of_ble_eq_true rfl)
  rw [lg_entry_eq]
  generalize (lg_sl ([.ref z0, .int (nI i), .int (nI se)]) ++ List.replicate (6 - (lg_sl ([.ref z0, .int (nI i), .int (nI se)])).length) Slot.unset).toArray = ls at hl ⊢
  have hl : lv_has ls 6 [(0, .ref z0), (1, .int (nI i)), (2, .int (nI se))] := hl
  refine lv_iload_n hx hb dX1_giveDoor_0 rfl (lv_at hl 2 rfl) ?_
  refine lv_iconst (v := 1) hx hb dX1_giveDoor_1 (by decide) ?_
  refine lv_isub hx hb dX1_giveDoor_2 ?_
  refine lv_ti (y := (nI (se - 1))) (pk_sub (a := se) (b := 1) (by omega)) ?_
  refine lv_istore_n (lv' := [(3, .int (nI (se - 1))), (0, .ref z0), (1, .int (nI i)), (2, .int (nI se))]) hx hb dX1_giveDoor_3 rfl hl (by decide) rfl (fun ls hl => ?_)
  refine W_loop (σ := Nat × (Nat → Int32)) (fun (n_ : Nat) (x_ : Nat × (Nat → Int32)) (H : Heap) (locs : List Loc) (ls : Array Slot) => match x_ with | (sx_1, pg2_1) => n_ = 2 * sx_1 ∧ (sx_1 ≤ 15) ∧ va_P D classes [(z0, .inr (1, (fX1 c0 z1 z2 z3 (nI pn) pf pd pe))), (aI k z2 100 pco), (aI k z3 16 pg2_1), (c0, .inr (4, (fX4 c1 c2 (nI cc) (nI rz) ro sd)))] H ∧ va_D A [(z0, .inr (1, (fX1 c0 z1 z2 z3 (nI pn) pf pd pe))), (aI k z2 100 pco), (aI k z3 16 pg2_1), (c0, .inr (4, (fX4 c1 c2 (nI cc) (nI rz) ro sd)))] ∧ va_S A s.heap H locs ∧ lv_has ls 6 [(3, .int (nI sx_1)), (0, .ref z0), (1, .int (nI i)), (2, .int (nI se))]) (fun n_1 x_1 H locs ls hI ih_1 => ?_) _ (se - 1, pg) ⟨rfl, (by omega), hP, hD, hS, (lv_sub hl [0, 1, 2, 3] rfl)⟩
  obtain ⟨sx_1, pg2_1⟩ := x_1
  obtain ⟨hm_1, hv_1, hP, hD, hS, hl⟩ := hI
  subst hm_1
  refine lv_iload_n hx hb dX1_giveDoor_4 rfl (lv_at hl 0 rfl) ?_
  refine lv_if_le (tgt := 95) hx hb dX1_giveDoor_5 (by decide) (fun c_2 => ?_) (fun c_2 => ?_)
  · have c_2 := (nI_leI (a := sx_1) (b := 0) (by omega) (by omega)).mp c_2
    have hP9 := hP.sub (ws' := [(z0, .inr (1, (fX1 c0 z1 z2 z3 (nI pn) pf pd pe))), (aI k z2 100 pco), (aI k z3 16 pg2_1), (c0, .inr (4, (fX4 c1 c2 (nI cc) (nI rz) ro sd)))]) [0, 1, 2, 3] rfl
    have hD9 := hD.sub (ws' := [(z0, .inr (1, (fX1 c0 z1 z2 z3 (nI pn) pf pd pe))), (aI k z2 100 pco), (aI k z3 16 pg2_1), (c0, .inr (4, (fX4 c1 c2 (nI cc) (nI rz) ro sd)))]) [0, 1, 2, 3] (by decide) rfl
    exact W.vret hx hb hr (fun t ht hW => ⟨⟨pg2_1, rfl, trivial, by rw [ht]; exact hP9, hD9⟩, hS.F ht⟩) hS.2.2 dX1_giveDoor_95
  · have c_2 : ¬ (sx_1 ≤ 0) := fun h => c_2 ((nI_leI (a := sx_1) (b := 0) (by omega) (by omega)).mpr h)
    refine lv_iconst (v := 0) hx hb dX1_giveDoor_8 (by decide) ?_
    refine lv_istore (lv' := [(4, .int 0), (3, .int (nI sx_1)), (0, .ref z0), (1, .int (nI i)), (2, .int (nI se))]) hx hb dX1_giveDoor_9 hl (by decide) rfl (fun ls hl => ?_)
    refine W_loop (σ := Nat × (Nat → Int32)) (fun (n_ : Nat) (x_ : Nat × (Nat → Int32)) (H : Heap) (locs : List Loc) (ls : Array Slot) => match x_ with | (cn2_3, pg2_3) => n_ = 5 - cn2_3 ∧ (cn2_3 ≤ 4) ∧ va_P D classes [(z0, .inr (1, (fX1 c0 z1 z2 z3 (nI pn) pf pd pe))), (aI k z2 100 pco), (aI k z3 16 pg2_3), (c0, .inr (4, (fX4 c1 c2 (nI cc) (nI rz) ro sd)))] H ∧ va_D A [(z0, .inr (1, (fX1 c0 z1 z2 z3 (nI pn) pf pd pe))), (aI k z2 100 pco), (aI k z3 16 pg2_3), (c0, .inr (4, (fX4 c1 c2 (nI cc) (nI rz) ro sd)))] ∧ va_S A s.heap H locs ∧ lv_has ls 6 [(4, .int (nI cn2_3)), (3, .int (nI sx_1)), (0, .ref z0), (1, .int (nI i)), (2, .int (nI se))]) (fun n_3 x_3 H locs ls hI ih_3 => ?_) _ (0, pg2_1) ⟨rfl, (by omega), hP, hD, hS, (lv_sub hl [0, 1, 2, 3, 4] rfl)⟩
    obtain ⟨cn2_3, pg2_3⟩ := x_3
    obtain ⟨hm_3, hv_3, hP, hD, hS, hl⟩ := hI
    subst hm_3
    refine lv_iload hx hb dX1_giveDoor_11 (lv_at hl 0 rfl) ?_
    refine lv_aload_n hx hb dX1_giveDoor_13 rfl (lv_at hl 2 rfl) ?_
    refine va_get (D := D) (ci := 1) (v := .ref c0) (C := RX1) (T := TX1) (N := 8) hx hb hts inX1 hown hK hP 0 rfl rfl 0 (by decide) (hts _ tw_235) (fun _ h9 => h9) rfl dX1_giveDoor_14 ?_
    refine va_get (D := D) (ci := 4) (v := .int (nI cc)) (C := RX4) (T := TX4) (N := 6) hx hb hts inX4 hown hK hP 3 rfl rfl 2 (by decide) (hts _ tw_179) (fun _ h9 => h9) rfl dX1_giveDoor_17 ?_
    refine lv_icmp_ge (tgt := 89) hx hb dX1_giveDoor_20 (by decide) (fun c_4 => ?_) (fun c_4 => ?_)
    · have c_4 := (nI_leI (a := cc) (b := cn2_3) (by omega) (by omega)).mp c_4
      refine lv_iinc (v := (nI (sx_1 - 1))) (lv' := [(3, .int (nI (sx_1 - 1))), (4, .int (nI cn2_3)), (0, .ref z0), (1, .int (nI i)), (2, .int (nI se))]) hx hb dX1_giveDoor_89 hl (k := 1) rfl (by rw [dn1]; exact pk_sub (a := sx_1) (b := 1) (by omega)) (by decide) rfl (fun ls hl => ?_)
      refine lv_goto (tgt := 4) hx hb dX1_giveDoor_92 (by decide) ?_
      exact ih_1 _ (sx_1 - 1, pg2_3) _ _ _ (by omega) ⟨rfl, (by omega), hP, hD, hS, (lv_sub hl [0, 2, 3, 4] rfl)⟩
    · have c_4 : ¬ (cc ≤ cn2_3) := fun h => c_4 ((nI_leI (a := cc) (b := cn2_3) (by omega) (by omega)).mpr h)
      refine lv_iload_n hx hb dX1_giveDoor_23 rfl (lv_at hl 1 rfl) ?_
      refine lv_iload hx hb dX1_giveDoor_24 (lv_at hl 0 rfl) ?_
      refine lv_ishr hx hb dX1_giveDoor_26 ?_
      refine lv_topi (fun x_5 ex_5 => ?_)
      refine lv_iconst (v := 1) hx hb dX1_giveDoor_27 (by decide) ?_
      refine lv_iand hx hb dX1_giveDoor_28 ?_
      refine lv_topi (fun x_6 ex_6 => ?_)
      refine lv_if_eq (tgt := 83) hx hb dX1_giveDoor_29 (by decide) (fun c_7 => ?_) (fun c_7 => ?_)
      · refine lv_iinc (v := (nI (cn2_3 + 1))) (lv' := [(4, .int (nI (cn2_3 + 1))), (3, .int (nI sx_1)), (0, .ref z0), (1, .int (nI i)), (2, .int (nI se))]) hx hb dX1_giveDoor_83 hl (k := 0) rfl (nI_add cn2_3 1) (by decide) rfl (fun ls hl => ?_)
        refine lv_goto (tgt := 11) hx hb dX1_giveDoor_86 (by decide) ?_
        exact ih_3 _ (cn2_3 + 1, pg2_3) _ _ _ (by omega) ⟨rfl, (by omega), hP, hD, hS, (lv_sub hl [0, 1, 2, 3, 4] rfl)⟩
      · refine lv_aload_n hx hb dX1_giveDoor_32 rfl (lv_at hl 2 rfl) ?_
        refine va_get (D := D) (ci := 1) (v := .ref z3) (C := RX1) (T := TX1) (N := 8) hx hb hts inX1 hown hK hP 0 rfl rfl 3 (by decide) (hts _ tw_239) (fun _ h9 => h9) rfl dX1_giveDoor_33 ?_
        refine lv_iload_n hx hb dX1_giveDoor_36 rfl (lv_at hl 1 rfl) ?_
        refine lv_iconst (v := 1) hx hb dX1_giveDoor_37 (by decide) ?_
        refine lv_iload hx hb dX1_giveDoor_38 (lv_at hl 0 rfl) ?_
        refine lv_ishl hx hb dX1_giveDoor_40 ?_
        refine lv_topi (fun x_8 ex_8 => ?_)
        refine lv_iconst (v := (-1)) hx hb dX1_giveDoor_41 (by decide) ?_
        refine lv_ixor hx hb dX1_giveDoor_42 ?_
        refine lv_topi (fun x_9 ex_9 => ?_)
        obtain ⟨za_10, hza_10, eza_10⟩ := an16 sx_1 (by omega) cn2_3 (by omega)
        refine lv_iand hx hb dX1_giveDoor_43 ?_
        refine lv_ti (y := (nI za_10)) (by rw [ex_9, ex_8]; exact eza_10) ?_
        refine va_iald hx hb hK hP 2 1 rfl rfl (vp_in_nI (by omega) (by decide)) dX1_giveDoor_44 ?_
        refine lv_ti (y := (pg2_3 za_10)) (by rw [nI_clamp (by omega)]) ?_
        refine lv_aload_n hx hb dX1_giveDoor_45 rfl (lv_at hl 2 rfl) ?_
        refine lv_iload hx hb dX1_giveDoor_46 (lv_at hl 0 rfl) ?_
        refine lv_iload_n hx hb dX1_giveDoor_48 rfl (lv_at hl 3 rfl) ?_
        refine ro_i (D := D) (va_runV (As := [.int (nI cn2_3), .int (nI i)]) (rest := [.int (pg2_3 za_10)]) ⟨hx, hb, hml, hown, hts⟩ ((x_costAt l D k st lo c0 z0 z1 z2 z3 pn pf pd pe pco cn2_3 i (by first | assumption | omega) (by first | assumption | omega)) H.size) (cwV 2 hts (gV tw_866 tw_843 tw_844 tw_84 tw_845) rfl rfl rfl (by decide +kernel) ⟨Nat.le_of_ble_eq_true rfl, Nat.le_of_ble_eq_true rfl⟩) (pV hS hAlo hlo hP hK (va_Dlo hD hAlo) hZ [0, 1] (by decide) rfl (ci := 1) (q := (RX1, TX1, 8)) (q0 := 0) rfl rfl) rfl rfl hl.1 rfl (lv_room (Nat.le_of_ble_eq_true rfl)) dX1_giveDoor_49 ⟨Nat.le_of_ble_eq_true rfl, Nat.le_of_ble_eq_true rfl⟩) hS hA hP (fun r_11 H locs hw_11 hP hS => ?_)
        try dsimp only at hw_11
        refine lv_iadd hx hb dX1_giveDoor_52 ?_
        refine lv_topi (fun x_12 ex_12 => ?_)
        refine lv_aload_n hx hb dX1_giveDoor_53 rfl (lv_at hl 2 rfl) ?_
        refine lv_iload hx hb dX1_giveDoor_54 (lv_at hl 0 rfl) ?_
        refine lv_aload_n hx hb dX1_giveDoor_56 rfl (lv_at hl 2 rfl) ?_
        refine va_get (D := D) (ci := 1) (v := .int (nI pn)) (C := RX1) (T := TX1) (N := 8) hx hb hts inX1 hown hK hP 0 rfl rfl 4 (by decide) (hts _ tw_240) (fun _ h9 => h9) rfl dX1_giveDoor_57 ?_
        refine ro_i (D := D) (va_runV (As := [.int (nI cn2_3), .int (nI pn)]) (rest := [.int x_12]) ⟨hx, hb, hml, hown, hts⟩ ((x_costAt l D k st lo c0 z0 z1 z2 z3 pn pf pd pe pco cn2_3 pn (by first | assumption | omega) (by first | assumption | omega)) H.size) (cwV 2 hts (gV tw_866 tw_843 tw_844 tw_84 tw_845) rfl rfl rfl (by decide +kernel) ⟨Nat.le_of_ble_eq_true rfl, Nat.le_of_ble_eq_true rfl⟩) (pV hS hAlo hlo hP hK (va_Dlo hD hAlo) hZ [0, 1] (by decide) rfl (ci := 1) (q := (RX1, TX1, 8)) (q0 := 0) rfl rfl) rfl rfl hl.1 rfl (lv_room (Nat.le_of_ble_eq_true rfl)) dX1_giveDoor_60 ⟨Nat.le_of_ble_eq_true rfl, Nat.le_of_ble_eq_true rfl⟩) hS hA hP (fun r_13 H locs hw_13 hP hS => ?_)
        try dsimp only at hw_13
        refine lv_isub hx hb dX1_giveDoor_63 ?_
        refine lv_topi (fun x_14 ex_14 => ?_)
        refine lv_istore (lv' := [(5, .int x_14), (4, .int (nI cn2_3)), (3, .int (nI sx_1)), (0, .ref z0), (1, .int (nI i)), (2, .int (nI se))]) hx hb dX1_giveDoor_64 hl (by decide) rfl (fun ls hl => ?_)
        refine lv_aload_n hx hb dX1_giveDoor_66 rfl (lv_at hl 3 rfl) ?_
        refine va_get (D := D) (ci := 1) (v := .ref z3) (C := RX1) (T := TX1) (N := 8) hx hb hts inX1 hown hK hP 0 rfl rfl 3 (by decide) (hts _ tw_239) (fun _ h9 => h9) rfl dX1_giveDoor_67 ?_
        refine lv_iload_n hx hb dX1_giveDoor_70 rfl (lv_at hl 2 rfl) ?_
        refine lv_aload_n hx hb dX1_giveDoor_71 rfl (lv_at hl 3 rfl) ?_
        refine va_get (D := D) (ci := 1) (v := .ref z3) (C := RX1) (T := TX1) (N := 8) hx hb hts inX1 hown hK hP 0 rfl rfl 3 (by decide) (hts _ tw_239) (fun _ h9 => h9) rfl dX1_giveDoor_72 ?_
        refine lv_iload_n hx hb dX1_giveDoor_75 rfl (lv_at hl 2 rfl) ?_
        refine va_iald hx hb hK hP 2 1 rfl rfl (vp_in_nI (by omega) (by decide)) dX1_giveDoor_76 ?_
        refine lv_ti (y := (pg2_3 sx_1)) (by rw [nI_clamp (by omega)]) ?_
        refine lv_iload hx hb dX1_giveDoor_77 (lv_at hl 0 rfl) ?_
        refine va_mmin hx hb (by rw [hml]; exact hl.1.symm) hown (hts _ tw_909) (hts _ tw_529) (hts _ tw_93) (hts _ tw_530) (Nat.le_of_ble_eq_true rfl) (Nat.le_of_ble_eq_true rfl) (Nat.le_of_ble_eq_true rfl) (Nat.le_of_ble_eq_true rfl) dX1_giveDoor_79 ?_
        refine lv_topi (fun x_15 ex_15 => ?_)
        refine va_iast hx hb hK hP hD hS 2 1 rfl rfl (vp_in_nI (by omega) (by decide)) dX1_giveDoor_82 (fun H locs hP hD hS => ?_)
        replace hP : va_P D classes [(z0, .inr (1, (fX1 c0 z1 z2 z3 (nI pn) pf pd pe))), (aI k z2 100 pco), (aI k z3 16 (upd pg2_3 (Int32.toNatClampNeg (nI sx_1)) x_15)), (c0, .inr (4, (fX4 c1 c2 (nI cc) (nI rz) ro sd)))] H := hP
        replace hD : va_D A [(z0, .inr (1, (fX1 c0 z1 z2 z3 (nI pn) pf pd pe))), (aI k z2 100 pco), (aI k z3 16 (upd pg2_3 (Int32.toNatClampNeg (nI sx_1)) x_15)), (c0, .inr (4, (fX4 c1 c2 (nI cc) (nI rz) ro sd)))] := hD
        generalize (upd pg2_3 (Int32.toNatClampNeg (nI sx_1)) x_15) = f_16 at hP hD
        refine lv_iinc (v := (nI (cn2_3 + 1))) (lv' := [(4, .int (nI (cn2_3 + 1))), (5, .int x_14), (3, .int (nI sx_1)), (0, .ref z0), (1, .int (nI i)), (2, .int (nI se))]) hx hb dX1_giveDoor_83 hl (k := 1) rfl (nI_add cn2_3 1) (by decide) rfl (fun ls hl => ?_)
        refine lv_goto (tgt := 11) hx hb dX1_giveDoor_86 (by decide) ?_
        exact ih_3 _ (cn2_3 + 1, f_16) _ _ _ (by omega) ⟨rfl, (by omega), hP, hD, hS, (lv_sub hl [0, 2, 3, 4, 5] rfl)⟩

theorem dX1_leastOfAll_0 : decode cX1_leastOfAll 0 = .ok (.iconst 1, 1) := by decide +kernel
theorem dX1_leastOfAll_1 : decode cX1_leastOfAll 1 = .ok (.aload_n 0, 1) := by decide +kernel
theorem dX1_leastOfAll_2 : decode cX1_leastOfAll 2 = .ok (.getfield 34, 3) := by decide +kernel
theorem dX1_leastOfAll_5 : decode cX1_leastOfAll 5 = .ok (.getfield 53, 3) := by decide +kernel
theorem dX1_leastOfAll_8 : decode cX1_leastOfAll 8 = .ok (.ishl, 1) := by decide +kernel
theorem dX1_leastOfAll_9 : decode cX1_leastOfAll 9 = .ok (.istore_n 1, 1) := by decide +kernel
theorem dX1_leastOfAll_10 : decode cX1_leastOfAll 10 = .ok (.iconst 0, 1) := by decide +kernel
theorem dX1_leastOfAll_11 : decode cX1_leastOfAll 11 = .ok (.istore_n 2, 1) := by decide +kernel
theorem dX1_leastOfAll_12 : decode cX1_leastOfAll 12 = .ok (.iload_n 2, 1) := by decide +kernel
theorem dX1_leastOfAll_13 : decode cX1_leastOfAll 13 = .ok (.iload_n 1, 1) := by decide +kernel
theorem dX1_leastOfAll_14 : decode cX1_leastOfAll 14 = .ok (.if_icmp .ge 53, 3) := by decide +kernel
theorem dX1_leastOfAll_17 : decode cX1_leastOfAll 17 = .ok (.aload_n 0, 1) := by decide +kernel
theorem dX1_leastOfAll_18 : decode cX1_leastOfAll 18 = .ok (.getfield 18, 3) := by decide +kernel
theorem dX1_leastOfAll_21 : decode cX1_leastOfAll 21 = .ok (.iload_n 2, 1) := by decide +kernel
theorem dX1_leastOfAll_22 : decode cX1_leastOfAll 22 = .ok (.iconst 0, 1) := by decide +kernel
theorem dX1_leastOfAll_23 : decode cX1_leastOfAll 23 = .ok (.iastore, 1) := by decide +kernel
theorem dX1_leastOfAll_24 : decode cX1_leastOfAll 24 = .ok (.iconst 0, 1) := by decide +kernel
theorem dX1_leastOfAll_25 : decode cX1_leastOfAll 25 = .ok (.istore_n 3, 1) := by decide +kernel
theorem dX1_leastOfAll_26 : decode cX1_leastOfAll 26 = .ok (.iload_n 3, 1) := by decide +kernel
theorem dX1_leastOfAll_27 : decode cX1_leastOfAll 27 = .ok (.aload_n 0, 1) := by decide +kernel
theorem dX1_leastOfAll_28 : decode cX1_leastOfAll 28 = .ok (.getfield 34, 3) := by decide +kernel
theorem dX1_leastOfAll_31 : decode cX1_leastOfAll 31 = .ok (.getfield 53, 3) := by decide +kernel
theorem dX1_leastOfAll_34 : decode cX1_leastOfAll 34 = .ok (.if_icmp .ge 27, 3) := by decide +kernel
theorem dX1_leastOfAll_37 : decode cX1_leastOfAll 37 = .ok (.aload_n 0, 1) := by decide +kernel
theorem dX1_leastOfAll_38 : decode cX1_leastOfAll 38 = .ok (.getfield 18, 3) := by decide +kernel
theorem dX1_leastOfAll_41 : decode cX1_leastOfAll 41 = .ok (.iload_n 2, 1) := by decide +kernel
theorem dX1_leastOfAll_42 : decode cX1_leastOfAll 42 = .ok (.dup2, 1) := by decide +kernel
theorem dX1_leastOfAll_43 : decode cX1_leastOfAll 43 = .ok (.iaload, 1) := by decide +kernel
theorem dX1_leastOfAll_44 : decode cX1_leastOfAll 44 = .ok (.aload_n 0, 1) := by decide +kernel
theorem dX1_leastOfAll_45 : decode cX1_leastOfAll 45 = .ok (.iload_n 3, 1) := by decide +kernel
theorem dX1_leastOfAll_46 : decode cX1_leastOfAll 46 = .ok (.aload_n 0, 1) := by decide +kernel
theorem dX1_leastOfAll_47 : decode cX1_leastOfAll 47 = .ok (.getfield 21, 3) := by decide +kernel
theorem dX1_leastOfAll_50 : decode cX1_leastOfAll 50 = .ok (.invokevirtual 70, 3) := by decide +kernel
theorem dX1_leastOfAll_53 : decode cX1_leastOfAll 53 = .ok (.iadd, 1) := by decide +kernel
theorem dX1_leastOfAll_54 : decode cX1_leastOfAll 54 = .ok (.iastore, 1) := by decide +kernel
theorem dX1_leastOfAll_55 : decode cX1_leastOfAll 55 = .ok (.iinc 3 1, 3) := by decide +kernel
theorem dX1_leastOfAll_58 : decode cX1_leastOfAll 58 = .ok (.goto (-32), 3) := by decide +kernel
theorem dX1_leastOfAll_61 : decode cX1_leastOfAll 61 = .ok (.iinc 2 1, 3) := by decide +kernel
theorem dX1_leastOfAll_64 : decode cX1_leastOfAll 64 = .ok (.goto (-52), 3) := by decide +kernel
theorem dX1_leastOfAll_67 : decode cX1_leastOfAll 67 = .ok (.iconst 0, 1) := by decide +kernel
theorem dX1_leastOfAll_68 : decode cX1_leastOfAll 68 = .ok (.istore_n 2, 1) := by decide +kernel
theorem dX1_leastOfAll_69 : decode cX1_leastOfAll 69 = .ok (.iload_n 2, 1) := by decide +kernel
theorem dX1_leastOfAll_70 : decode cX1_leastOfAll 70 = .ok (.aload_n 0, 1) := by decide +kernel
theorem dX1_leastOfAll_71 : decode cX1_leastOfAll 71 = .ok (.getfield 21, 3) := by decide +kernel
theorem dX1_leastOfAll_74 : decode cX1_leastOfAll 74 = .ok (.if_icmp .ge 26, 3) := by decide +kernel
theorem dX1_leastOfAll_77 : decode cX1_leastOfAll 77 = .ok (.aload_n 0, 1) := by decide +kernel
theorem dX1_leastOfAll_78 : decode cX1_leastOfAll 78 = .ok (.getfield 25, 3) := by decide +kernel
theorem dX1_leastOfAll_81 : decode cX1_leastOfAll 81 = .ok (.iload_n 2, 1) := by decide +kernel
theorem dX1_leastOfAll_82 : decode cX1_leastOfAll 82 = .ok (.ishr, 1) := by decide +kernel
theorem dX1_leastOfAll_83 : decode cX1_leastOfAll 83 = .ok (.iconst 1, 1) := by decide +kernel
theorem dX1_leastOfAll_84 : decode cX1_leastOfAll 84 = .ok (.iand, 1) := by decide +kernel
theorem dX1_leastOfAll_85 : decode cX1_leastOfAll 85 = .ok (.ifCond .eq 9, 3) := by decide +kernel
theorem dX1_leastOfAll_88 : decode cX1_leastOfAll 88 = .ok (.aload_n 0, 1) := by decide +kernel
theorem dX1_leastOfAll_89 : decode cX1_leastOfAll 89 = .ok (.iload_n 2, 1) := by decide +kernel
theorem dX1_leastOfAll_90 : decode cX1_leastOfAll 90 = .ok (.iload_n 1, 1) := by decide +kernel
theorem dX1_leastOfAll_91 : decode cX1_leastOfAll 91 = .ok (.invokevirtual 93, 3) := by decide +kernel
theorem dX1_leastOfAll_94 : decode cX1_leastOfAll 94 = .ok (.iinc 2 1, 3) := by decide +kernel
theorem dX1_leastOfAll_97 : decode cX1_leastOfAll 97 = .ok (.goto (-28), 3) := by decide +kernel
theorem dX1_leastOfAll_100 : decode cX1_leastOfAll 100 = .ok (.aload_n 0, 1) := by decide +kernel
theorem dX1_leastOfAll_101 : decode cX1_leastOfAll 101 = .ok (.getfield 18, 3) := by decide +kernel
theorem dX1_leastOfAll_104 : decode cX1_leastOfAll 104 = .ok (.iload_n 1, 1) := by decide +kernel
theorem dX1_leastOfAll_105 : decode cX1_leastOfAll 105 = .ok (.iconst 1, 1) := by decide +kernel
theorem dX1_leastOfAll_106 : decode cX1_leastOfAll 106 = .ok (.isub, 1) := by decide +kernel
theorem dX1_leastOfAll_107 : decode cX1_leastOfAll 107 = .ok (.iaload, 1) := by decide +kernel
theorem dX1_leastOfAll_108 : decode cX1_leastOfAll 108 = .ok (.ireturn, 1) := by decide +kernel
set_option maxHeartbeats 4000000 in
set_option maxRecDepth 100000 in
theorem x_leastOfAll (l : Launch) (D : va_G) (k : Nat → ClassId) (st : Nat → Nat) (lo : Nat) (c0 : Nat) (z0 : Nat) (z1 : Nat) (z2 : Nat) (z3 : Nat) (pn : Nat) (pf : Int32) (pd : Int32) (pe : Int32) (pco : Nat → Int32) (pg : Nat → Int32) (c1 : Nat) (c2 : Nat) (cc : Nat) (rz : Nat) (ro : Int32) (sd : Int32) (hpn : pn ≤ 24) (hcc : cc ≤ 4) : CWi l D k st lo yX1_leastOfAll cX1_leastOfAll 4 (some .int) ({ frames := 2, cells := 0, slots := 0, locals := 85 }) 0 0 [.ref z0] [(z0, .inr (1, (fX1 c0 z1 z2 z3 (nI pn) pf pd pe))), (aI k z2 100 pco), (aI k z3 16 pg), (c0, .inr (4, (fX4 c1 c2 (nI cc) (nI rz) ro sd)))] (fun (r : Int32) (pg_ : (Nat → Int32)) => True) (fun (pg_ : (Nat → Int32)) => [(z0, .inr (1, (fX1 c0 z1 z2 z3 (nI pn) pf pd pe))), (aI k z2 100 pco), (aI k z3 16 pg_), (c0, .inr (4, (fX4 c1 c2 (nI cc) (nI rz) ro sd)))]) := by
  intro sz
  refine Met.ofW (cc := cX1_leastOfAll) (maxL := 4) (ret := (some .int)) (by decide) rfl ?_
  intro p e s m args below meth c s₁ B hml hv
  obtain ⟨rfl, hsz, hlo, hP, hK, hDL, hZ⟩ := hv
  have hx := B.exec
  have hb := B.bytes
  have hr := B.returns
  have hts := WS_ts B.pre
  have hown : s.vm.findClass RX1 = some m.cls := findClass_of_methodNamed B.named
  have hlocks := B.notSynchronized
  subst hsz
  have hD := hDL.self (sz := s.heap.size)
  have hAlo := A_lo hDL hlo
  generalize hAe : va_A [(z0, .inr (1, (fX1 c0 z1 z2 z3 (nI pn) pf pd pe))), (aI k z2 100 pco), (aI k z3 16 pg), (c0, .inr (4, (fX4 c1 c2 (nI cc) (nI rz) ro sd)))] s.heap.size = A at hD hAlo ⊢
  have hA : ∀ q : Nat, s.heap.size ≤ q → A q := fun q h => by rw [← hAe]; exact Or.inr h
  have hS : va_S A s.heap s.heap [] := va_S.rf
  have hl := lv_entry ([.ref z0]) (n := 4) (Nat.le_of_ble_eq_true rfl)
  rw [lg_entry_eq]
  generalize (lg_sl ([.ref z0]) ++ List.replicate (4 - (lg_sl ([.ref z0])).length) Slot.unset).toArray = ls at hl ⊢
  have hl : lv_has ls 4 [(0, .ref z0)] := hl
  refine lv_iconst (v := 1) hx hb dX1_leastOfAll_0 (by decide) ?_
  refine lv_aload_n hx hb dX1_leastOfAll_1 rfl (lv_at hl 0 rfl) ?_
  refine va_get (D := D) (ci := 1) (v := .ref c0) (C := RX1) (T := TX1) (N := 8) hx hb hts inX1 hown hK hP 0 rfl rfl 0 (by decide) (hts _ tw_235) (fun _ h9 => h9) rfl dX1_leastOfAll_2 ?_
  refine va_get (D := D) (ci := 4) (v := .int (nI cc)) (C := RX4) (T := TX4) (N := 6) hx hb hts inX4 hown hK hP 3 rfl rfl 2 (by decide) (hts _ tw_179) (fun _ h9 => h9) rfl dX1_leastOfAll_5 ?_
  obtain ⟨pw_1, epw_1⟩ : ∃ z : Nat, z = 2 ^ (cc) := ⟨_, rfl⟩
  have hpw_1 : 1 ≤ pw_1 ∧ pw_1 ≤ 16 := by rw [epw_1]; exact pw16 (by omega)
  refine lv_ishl hx hb dX1_leastOfAll_8 ?_
  refine lv_ti (y := (nI pw_1)) (by rw [epw_1]; exact shl1 cc (by omega)) ?_
  refine lv_istore_n (lv' := [(1, .int (nI pw_1)), (0, .ref z0)]) hx hb dX1_leastOfAll_9 rfl hl (by decide) rfl (fun ls hl => ?_)
  refine lv_iconst (v := 0) hx hb dX1_leastOfAll_10 (by decide) ?_
  refine lv_istore_n (lv' := [(2, .int 0), (1, .int (nI pw_1)), (0, .ref z0)]) hx hb dX1_leastOfAll_11 rfl hl (by decide) rfl (fun ls hl => ?_)
  refine W_loop (σ := Nat × (Nat → Int32)) (fun (n_ : Nat) (x_ : Nat × (Nat → Int32)) (H : Heap) (locs : List Loc) (ls : Array Slot) => match x_ with | (sx_2, pg2_2) => n_ = 17 - sx_2 ∧ (sx_2 ≤ 16) ∧ va_P D classes [(z0, .inr (1, (fX1 c0 z1 z2 z3 (nI pn) pf pd pe))), (aI k z2 100 pco), (aI k z3 16 pg2_2), (c0, .inr (4, (fX4 c1 c2 (nI cc) (nI rz) ro sd)))] H ∧ va_D A [(z0, .inr (1, (fX1 c0 z1 z2 z3 (nI pn) pf pd pe))), (aI k z2 100 pco), (aI k z3 16 pg2_2), (c0, .inr (4, (fX4 c1 c2 (nI cc) (nI rz) ro sd)))] ∧ va_S A s.heap H locs ∧ lv_has ls 4 [(2, .int (nI sx_2)), (1, .int (nI pw_1)), (0, .ref z0)]) (fun n_2 x_2 H locs ls hI ih_2 => ?_) _ (0, pg) ⟨rfl, (by omega), hP, hD, hS, (lv_sub hl [0, 1, 2] rfl)⟩
  obtain ⟨sx_2, pg2_2⟩ := x_2
  obtain ⟨hm_2, hv_2, hP, hD, hS, hl⟩ := hI
  subst hm_2
  refine lv_iload_n hx hb dX1_leastOfAll_12 rfl (lv_at hl 0 rfl) ?_
  refine lv_iload_n hx hb dX1_leastOfAll_13 rfl (lv_at hl 1 rfl) ?_
  refine lv_icmp_ge (tgt := 67) hx hb dX1_leastOfAll_14 (by decide) (fun c_3 => ?_) (fun c_3 => ?_)
  · have c_3 := (nI_leI (a := pw_1) (b := sx_2) (by omega) (by omega)).mp c_3
    refine lv_iconst (v := 0) hx hb dX1_leastOfAll_67 (by decide) ?_
    refine lv_istore_n (lv' := [(2, .int 0), (1, .int (nI pw_1)), (0, .ref z0)]) hx hb dX1_leastOfAll_68 rfl hl (by decide) rfl (fun ls hl => ?_)
    refine W_loop (σ := Nat × (Nat → Int32)) (fun (n_ : Nat) (x_ : Nat × (Nat → Int32)) (H : Heap) (locs : List Loc) (ls : Array Slot) => match x_ with | (ii_4, pg2_4) => n_ = 25 - ii_4 ∧ (ii_4 ≤ 24) ∧ va_P D classes [(z0, .inr (1, (fX1 c0 z1 z2 z3 (nI pn) pf pd pe))), (aI k z2 100 pco), (aI k z3 16 pg2_4), (c0, .inr (4, (fX4 c1 c2 (nI cc) (nI rz) ro sd)))] H ∧ va_D A [(z0, .inr (1, (fX1 c0 z1 z2 z3 (nI pn) pf pd pe))), (aI k z2 100 pco), (aI k z3 16 pg2_4), (c0, .inr (4, (fX4 c1 c2 (nI cc) (nI rz) ro sd)))] ∧ va_S A s.heap H locs ∧ lv_has ls 4 [(2, .int (nI ii_4)), (1, .int (nI pw_1)), (0, .ref z0)]) (fun n_4 x_4 H locs ls hI ih_4 => ?_) _ (0, pg2_2) ⟨rfl, (by omega), hP, hD, hS, (lv_sub hl [0, 1, 2] rfl)⟩
    obtain ⟨ii_4, pg2_4⟩ := x_4
    obtain ⟨hm_4, hv_4, hP, hD, hS, hl⟩ := hI
    subst hm_4
    refine lv_iload_n hx hb dX1_leastOfAll_69 rfl (lv_at hl 0 rfl) ?_
    refine lv_aload_n hx hb dX1_leastOfAll_70 rfl (lv_at hl 2 rfl) ?_
    refine va_get (D := D) (ci := 1) (v := .int (nI pn)) (C := RX1) (T := TX1) (N := 8) hx hb hts inX1 hown hK hP 0 rfl rfl 4 (by decide) (hts _ tw_240) (fun _ h9 => h9) rfl dX1_leastOfAll_71 ?_
    refine lv_icmp_ge (tgt := 100) hx hb dX1_leastOfAll_74 (by decide) (fun c_5 => ?_) (fun c_5 => ?_)
    · have c_5 := (nI_leI (a := pn) (b := ii_4) (by omega) (by omega)).mp c_5
      refine lv_aload_n hx hb dX1_leastOfAll_100 rfl (lv_at hl 2 rfl) ?_
      refine va_get (D := D) (ci := 1) (v := .ref z3) (C := RX1) (T := TX1) (N := 8) hx hb hts inX1 hown hK hP 0 rfl rfl 3 (by decide) (hts _ tw_239) (fun _ h9 => h9) rfl dX1_leastOfAll_101 ?_
      refine lv_iload_n hx hb dX1_leastOfAll_104 rfl (lv_at hl 1 rfl) ?_
      refine lv_iconst (v := 1) hx hb dX1_leastOfAll_105 (by decide) ?_
      refine lv_isub hx hb dX1_leastOfAll_106 ?_
      refine lv_ti (y := (nI (pw_1 - 1))) (pk_sub (a := pw_1) (b := 1) (by omega)) ?_
      refine va_iald hx hb hK hP 2 1 rfl rfl (vp_in_nI (by omega) (by decide)) dX1_leastOfAll_107 ?_
      refine lv_ti (y := (pg2_4 (pw_1 - 1))) (by rw [nI_clamp (by omega)]) ?_
      have hP9 := hP.sub (ws' := [(z0, .inr (1, (fX1 c0 z1 z2 z3 (nI pn) pf pd pe))), (aI k z2 100 pco), (aI k z3 16 pg2_4), (c0, .inr (4, (fX4 c1 c2 (nI cc) (nI rz) ro sd)))]) [0, 1, 2, 3] rfl
      have hD9 := hD.sub (ws' := [(z0, .inr (1, (fX1 c0 z1 z2 z3 (nI pn) pf pd pe))), (aI k z2 100 pco), (aI k z3 16 pg2_4), (c0, .inr (4, (fX4 c1 c2 (nI cc) (nI rz) ro sd)))]) [0, 1, 2, 3] (by decide) rfl
      exact W.iret (v := (pg2_4 (pw_1 - 1))) hx hb hr (fun t ht hW => ⟨⟨(pg2_4 (pw_1 - 1)), pg2_4, rfl, trivial, by rw [ht]; exact hP9, hD9⟩, hS.F ht⟩) hS.2.2 dX1_leastOfAll_108
    · have c_5 : ¬ (pn ≤ ii_4) := fun h => c_5 ((nI_leI (a := pn) (b := ii_4) (by omega) (by omega)).mpr h)
      refine lv_aload_n hx hb dX1_leastOfAll_77 rfl (lv_at hl 2 rfl) ?_
      refine va_get (D := D) (ci := 1) (v := .int pf) (C := RX1) (T := TX1) (N := 8) hx hb hts inX1 hown hK hP 0 rfl rfl 5 (by decide) (hts _ tw_241) (fun _ h9 => h9) rfl dX1_leastOfAll_78 ?_
      refine lv_iload_n hx hb dX1_leastOfAll_81 rfl (lv_at hl 0 rfl) ?_
      refine lv_ishr hx hb dX1_leastOfAll_82 ?_
      refine lv_topi (fun x_6 ex_6 => ?_)
      refine lv_iconst (v := 1) hx hb dX1_leastOfAll_83 (by decide) ?_
      refine lv_iand hx hb dX1_leastOfAll_84 ?_
      refine lv_topi (fun x_7 ex_7 => ?_)
      refine lv_if_eq (tgt := 94) hx hb dX1_leastOfAll_85 (by decide) (fun c_8 => ?_) (fun c_8 => ?_)
      · refine lv_iinc (v := (nI (ii_4 + 1))) (lv' := [(2, .int (nI (ii_4 + 1))), (1, .int (nI pw_1)), (0, .ref z0)]) hx hb dX1_leastOfAll_94 hl (k := 0) rfl (nI_add ii_4 1) (by decide) rfl (fun ls hl => ?_)
        refine lv_goto (tgt := 69) hx hb dX1_leastOfAll_97 (by decide) ?_
        exact ih_4 _ (ii_4 + 1, pg2_4) _ _ _ (by omega) ⟨rfl, (by omega), hP, hD, hS, (lv_sub hl [0, 1, 2] rfl)⟩
      · refine lv_aload_n hx hb dX1_leastOfAll_88 rfl (lv_at hl 2 rfl) ?_
        refine lv_iload_n hx hb dX1_leastOfAll_89 rfl (lv_at hl 0 rfl) ?_
        refine lv_iload_n hx hb dX1_leastOfAll_90 rfl (lv_at hl 1 rfl) ?_
        refine rw_v (D := D) (wr := []) (va_runV (As := [.int (nI ii_4), .int (nI pw_1)]) (rest := []) ⟨hx, hb, hml, hown, hts⟩ ((x_giveDoor l D k st lo c0 z0 z1 z2 z3 pn pf pd pe pco pg2_4 c1 c2 cc rz ro sd ii_4 pw_1 (by first | assumption | omega) (by first | assumption | omega) (by first | assumption | omega) (by first | assumption | omega)) H.size) (cwV 2 hts (gV tw_905 tw_907 tw_25 tw_84 tw_908) rfl rfl rfl (by decide +kernel) ⟨Nat.le_of_ble_eq_true rfl, Nat.le_of_ble_eq_true rfl⟩) (pV hS hAlo hlo hP hK (va_Dlo hD hAlo) hZ [0, 1, 2, 3] (by decide) rfl (ci := 1) (q := (RX1, TX1, 8)) (q0 := 0) rfl rfl) rfl rfl hl.1 rfl (lv_room (Nat.le_of_ble_eq_true rfl)) dX1_leastOfAll_91 ⟨Nat.le_of_ble_eq_true rfl, Nat.le_of_ble_eq_true rfl⟩) hS hA hP hD [0, 1, 2, 3] [] rfl rfl (by decide) (by decide) (fun u H locs hw_9 hP hD hS => ?_)
        obtain ⟨pg__9, rfl⟩ : ∃ z, z = u := ⟨_, rfl⟩
        replace hP : va_P D classes [(z0, .inr (1, (fX1 c0 z1 z2 z3 (nI pn) pf pd pe))), (aI k z2 100 pco), (aI k z3 16 pg__9), (c0, .inr (4, (fX4 c1 c2 (nI cc) (nI rz) ro sd)))] H := hP
        replace hD : va_D A [(z0, .inr (1, (fX1 c0 z1 z2 z3 (nI pn) pf pd pe))), (aI k z2 100 pco), (aI k z3 16 pg__9), (c0, .inr (4, (fX4 c1 c2 (nI cc) (nI rz) ro sd)))] := hD
        try dsimp only at hw_9
        refine lv_iinc (v := (nI (ii_4 + 1))) (lv' := [(2, .int (nI (ii_4 + 1))), (1, .int (nI pw_1)), (0, .ref z0)]) hx hb dX1_leastOfAll_94 hl (k := 0) rfl (nI_add ii_4 1) (by decide) rfl (fun ls hl => ?_)
        refine lv_goto (tgt := 69) hx hb dX1_leastOfAll_97 (by decide) ?_
        exact ih_4 _ (ii_4 + 1, pg__9) _ _ _ (by omega) ⟨rfl, (by omega), hP, hD, hS, (lv_sub hl [0, 1, 2] rfl)⟩
  · have c_3 : ¬ (pw_1 ≤ sx_2) := fun h => c_3 ((nI_leI (a := pw_1) (b := sx_2) (by omega) (by omega)).mpr h)
    refine lv_aload_n hx hb dX1_leastOfAll_17 rfl (lv_at hl 2 rfl) ?_
    refine va_get (D := D) (ci := 1) (v := .ref z3) (C := RX1) (T := TX1) (N := 8) hx hb hts inX1 hown hK hP 0 rfl rfl 3 (by decide) (hts _ tw_239) (fun _ h9 => h9) rfl dX1_leastOfAll_18 ?_
    refine lv_iload_n hx hb dX1_leastOfAll_21 rfl (lv_at hl 0 rfl) ?_
    refine lv_iconst (v := 0) hx hb dX1_leastOfAll_22 (by decide) ?_
    refine va_iast hx hb hK hP hD hS 2 1 rfl rfl (vp_in_nI (by omega) (by decide)) dX1_leastOfAll_23 (fun H locs hP hD hS => ?_)
    replace hP : va_P D classes [(z0, .inr (1, (fX1 c0 z1 z2 z3 (nI pn) pf pd pe))), (aI k z2 100 pco), (aI k z3 16 (upd pg2_2 (Int32.toNatClampNeg (nI sx_2)) 0)), (c0, .inr (4, (fX4 c1 c2 (nI cc) (nI rz) ro sd)))] H := hP
    replace hD : va_D A [(z0, .inr (1, (fX1 c0 z1 z2 z3 (nI pn) pf pd pe))), (aI k z2 100 pco), (aI k z3 16 (upd pg2_2 (Int32.toNatClampNeg (nI sx_2)) 0)), (c0, .inr (4, (fX4 c1 c2 (nI cc) (nI rz) ro sd)))] := hD
    generalize (upd pg2_2 (Int32.toNatClampNeg (nI sx_2)) 0) = f_10 at hP hD
    refine lv_iconst (v := 0) hx hb dX1_leastOfAll_24 (by decide) ?_
    refine lv_istore_n (lv' := [(3, .int 0), (2, .int (nI sx_2)), (1, .int (nI pw_1)), (0, .ref z0)]) hx hb dX1_leastOfAll_25 rfl hl (by decide) rfl (fun ls hl => ?_)
    refine W_loop (σ := Nat × (Nat → Int32)) (fun (n_ : Nat) (x_ : Nat × (Nat → Int32)) (H : Heap) (locs : List Loc) (ls : Array Slot) => match x_ with | (cn2_11, pg2_11) => n_ = 5 - cn2_11 ∧ (cn2_11 ≤ 4) ∧ va_P D classes [(z0, .inr (1, (fX1 c0 z1 z2 z3 (nI pn) pf pd pe))), (aI k z2 100 pco), (aI k z3 16 pg2_11), (c0, .inr (4, (fX4 c1 c2 (nI cc) (nI rz) ro sd)))] H ∧ va_D A [(z0, .inr (1, (fX1 c0 z1 z2 z3 (nI pn) pf pd pe))), (aI k z2 100 pco), (aI k z3 16 pg2_11), (c0, .inr (4, (fX4 c1 c2 (nI cc) (nI rz) ro sd)))] ∧ va_S A s.heap H locs ∧ lv_has ls 4 [(3, .int (nI cn2_11)), (2, .int (nI sx_2)), (1, .int (nI pw_1)), (0, .ref z0)]) (fun n_11 x_11 H locs ls hI ih_11 => ?_) _ (0, f_10) ⟨rfl, (by omega), hP, hD, hS, (lv_sub hl [0, 1, 2, 3] rfl)⟩
    obtain ⟨cn2_11, pg2_11⟩ := x_11
    obtain ⟨hm_11, hv_11, hP, hD, hS, hl⟩ := hI
    subst hm_11
    refine lv_iload_n hx hb dX1_leastOfAll_26 rfl (lv_at hl 0 rfl) ?_
    refine lv_aload_n hx hb dX1_leastOfAll_27 rfl (lv_at hl 3 rfl) ?_
    refine va_get (D := D) (ci := 1) (v := .ref c0) (C := RX1) (T := TX1) (N := 8) hx hb hts inX1 hown hK hP 0 rfl rfl 0 (by decide) (hts _ tw_235) (fun _ h9 => h9) rfl dX1_leastOfAll_28 ?_
    refine va_get (D := D) (ci := 4) (v := .int (nI cc)) (C := RX4) (T := TX4) (N := 6) hx hb hts inX4 hown hK hP 3 rfl rfl 2 (by decide) (hts _ tw_179) (fun _ h9 => h9) rfl dX1_leastOfAll_31 ?_
    refine lv_icmp_ge (tgt := 61) hx hb dX1_leastOfAll_34 (by decide) (fun c_12 => ?_) (fun c_12 => ?_)
    · have c_12 := (nI_leI (a := cc) (b := cn2_11) (by omega) (by omega)).mp c_12
      refine lv_iinc (v := (nI (sx_2 + 1))) (lv' := [(2, .int (nI (sx_2 + 1))), (3, .int (nI cn2_11)), (1, .int (nI pw_1)), (0, .ref z0)]) hx hb dX1_leastOfAll_61 hl (k := 1) rfl (nI_add sx_2 1) (by decide) rfl (fun ls hl => ?_)
      refine lv_goto (tgt := 12) hx hb dX1_leastOfAll_64 (by decide) ?_
      exact ih_2 _ (sx_2 + 1, pg2_11) _ _ _ (by omega) ⟨rfl, (by omega), hP, hD, hS, (lv_sub hl [0, 2, 3] rfl)⟩
    · have c_12 : ¬ (cc ≤ cn2_11) := fun h => c_12 ((nI_leI (a := cc) (b := cn2_11) (by omega) (by omega)).mpr h)
      refine lv_aload_n hx hb dX1_leastOfAll_37 rfl (lv_at hl 3 rfl) ?_
      refine va_get (D := D) (ci := 1) (v := .ref z3) (C := RX1) (T := TX1) (N := 8) hx hb hts inX1 hown hK hP 0 rfl rfl 3 (by decide) (hts _ tw_239) (fun _ h9 => h9) rfl dX1_leastOfAll_38 ?_
      refine lv_iload_n hx hb dX1_leastOfAll_41 rfl (lv_at hl 1 rfl) ?_
      refine lv_dup2_11 hx hb dX1_leastOfAll_42 rfl rfl ?_
      refine va_iald hx hb hK hP 2 1 rfl rfl (vp_in_nI (by omega) (by decide)) dX1_leastOfAll_43 ?_
      refine lv_ti (y := (pg2_11 sx_2)) (by rw [nI_clamp (by omega)]) ?_
      refine lv_aload_n hx hb dX1_leastOfAll_44 rfl (lv_at hl 3 rfl) ?_
      refine lv_iload_n hx hb dX1_leastOfAll_45 rfl (lv_at hl 0 rfl) ?_
      refine lv_aload_n hx hb dX1_leastOfAll_46 rfl (lv_at hl 3 rfl) ?_
      refine va_get (D := D) (ci := 1) (v := .int (nI pn)) (C := RX1) (T := TX1) (N := 8) hx hb hts inX1 hown hK hP 0 rfl rfl 4 (by decide) (hts _ tw_240) (fun _ h9 => h9) rfl dX1_leastOfAll_47 ?_
      refine ro_i (D := D) (va_runV (As := [.int (nI cn2_11), .int (nI pn)]) (rest := [.int (pg2_11 sx_2), .int (nI sx_2), .ref z3]) ⟨hx, hb, hml, hown, hts⟩ ((x_costAt l D k st lo c0 z0 z1 z2 z3 pn pf pd pe pco cn2_11 pn (by first | assumption | omega) (by first | assumption | omega)) H.size) (cwV 2 hts (gV tw_866 tw_843 tw_844 tw_84 tw_845) rfl rfl rfl (by decide +kernel) ⟨Nat.le_of_ble_eq_true rfl, Nat.le_of_ble_eq_true rfl⟩) (pV hS hAlo hlo hP hK (va_Dlo hD hAlo) hZ [0, 1] (by decide) rfl (ci := 1) (q := (RX1, TX1, 8)) (q0 := 0) rfl rfl) rfl rfl hl.1 rfl (lv_room (Nat.le_of_ble_eq_true rfl)) dX1_leastOfAll_50 ⟨Nat.le_of_ble_eq_true rfl, Nat.le_of_ble_eq_true rfl⟩) hS hA hP (fun r_13 H locs hw_13 hP hS => ?_)
      try dsimp only at hw_13
      refine lv_iadd hx hb dX1_leastOfAll_53 ?_
      refine lv_topi (fun x_14 ex_14 => ?_)
      refine va_iast hx hb hK hP hD hS 2 1 rfl rfl (vp_in_nI (by omega) (by decide)) dX1_leastOfAll_54 (fun H locs hP hD hS => ?_)
      replace hP : va_P D classes [(z0, .inr (1, (fX1 c0 z1 z2 z3 (nI pn) pf pd pe))), (aI k z2 100 pco), (aI k z3 16 (upd pg2_11 (Int32.toNatClampNeg (nI sx_2)) x_14)), (c0, .inr (4, (fX4 c1 c2 (nI cc) (nI rz) ro sd)))] H := hP
      replace hD : va_D A [(z0, .inr (1, (fX1 c0 z1 z2 z3 (nI pn) pf pd pe))), (aI k z2 100 pco), (aI k z3 16 (upd pg2_11 (Int32.toNatClampNeg (nI sx_2)) x_14)), (c0, .inr (4, (fX4 c1 c2 (nI cc) (nI rz) ro sd)))] := hD
      generalize (upd pg2_11 (Int32.toNatClampNeg (nI sx_2)) x_14) = f_15 at hP hD
      refine lv_iinc (v := (nI (cn2_11 + 1))) (lv' := [(3, .int (nI (cn2_11 + 1))), (2, .int (nI sx_2)), (1, .int (nI pw_1)), (0, .ref z0)]) hx hb dX1_leastOfAll_55 hl (k := 0) rfl (nI_add cn2_11 1) (by decide) rfl (fun ls hl => ?_)
      refine lv_goto (tgt := 26) hx hb dX1_leastOfAll_58 (by decide) ?_
      exact ih_11 _ (cn2_11 + 1, f_15) _ _ _ (by omega) ⟨rfl, (by omega), hP, hD, hS, (lv_sub hl [0, 1, 2, 3] rfl)⟩

theorem f_x_mendingPrice_rows : True := trivial
theorem dX1_mendingPrice_0 : decode cX1_mendingPrice 0 = .ok (.aload_n 0, 1) := by decide +kernel
theorem dX1_mendingPrice_1 : decode cX1_mendingPrice 1 = .ok (.iload_n 1, 1) := by decide +kernel
theorem dX1_mendingPrice_2 : decode cX1_mendingPrice 2 = .ok (.putfield 28, 3) := by decide +kernel
theorem dX1_mendingPrice_5 : decode cX1_mendingPrice 5 = .ok (.iconst 0, 1) := by decide +kernel
theorem dX1_mendingPrice_6 : decode cX1_mendingPrice 6 = .ok (.istore_n 2, 1) := by decide +kernel
theorem dX1_mendingPrice_7 : decode cX1_mendingPrice 7 = .ok (.iconst 0, 1) := by decide +kernel
theorem dX1_mendingPrice_8 : decode cX1_mendingPrice 8 = .ok (.istore_n 3, 1) := by decide +kernel
theorem dX1_mendingPrice_9 : decode cX1_mendingPrice 9 = .ok (.iconst 0, 1) := by decide +kernel
theorem dX1_mendingPrice_10 : decode cX1_mendingPrice 10 = .ok (.istore 4, 2) := by decide +kernel
theorem dX1_mendingPrice_12 : decode cX1_mendingPrice 12 = .ok (.iload 4, 2) := by decide +kernel
theorem dX1_mendingPrice_14 : decode cX1_mendingPrice 14 = .ok (.bipush 20, 2) := by decide +kernel
theorem dX1_mendingPrice_16 : decode cX1_mendingPrice 16 = .ok (.if_icmp .gt 73, 3) := by decide +kernel
theorem dX1_mendingPrice_19 : decode cX1_mendingPrice 19 = .ok (.aload_n 0, 1) := by decide +kernel
theorem dX1_mendingPrice_20 : decode cX1_mendingPrice 20 = .ok (.bipush 10, 2) := by decide +kernel
theorem dX1_mendingPrice_22 : decode cX1_mendingPrice 22 = .ok (.iload 4, 2) := by decide +kernel
theorem dX1_mendingPrice_24 : decode cX1_mendingPrice 24 = .ok (.imul, 1) := by decide +kernel
theorem dX1_mendingPrice_25 : decode cX1_mendingPrice 25 = .ok (.sipush 1000, 3) := by decide +kernel
theorem dX1_mendingPrice_28 : decode cX1_mendingPrice 28 = .ok (.imul, 1) := by decide +kernel
theorem dX1_mendingPrice_29 : decode cX1_mendingPrice 29 = .ok (.putfield 31, 3) := by decide +kernel
theorem dX1_mendingPrice_32 : decode cX1_mendingPrice 32 = .ok (.iconst 0, 1) := by decide +kernel
theorem dX1_mendingPrice_33 : decode cX1_mendingPrice 33 = .ok (.istore 5, 2) := by decide +kernel
theorem dX1_mendingPrice_35 : decode cX1_mendingPrice 35 = .ok (.iload 5, 2) := by decide +kernel
theorem dX1_mendingPrice_37 : decode cX1_mendingPrice 37 = .ok (.iconst 4, 1) := by decide +kernel
theorem dX1_mendingPrice_38 : decode cX1_mendingPrice 38 = .ok (.if_icmp .ge 17, 3) := by decide +kernel
theorem dX1_mendingPrice_41 : decode cX1_mendingPrice 41 = .ok (.aload_n 0, 1) := by decide +kernel
theorem dX1_mendingPrice_42 : decode cX1_mendingPrice 42 = .ok (.getfield 9, 3) := by decide +kernel
theorem dX1_mendingPrice_45 : decode cX1_mendingPrice 45 = .ok (.iload 5, 2) := by decide +kernel
theorem dX1_mendingPrice_47 : decode cX1_mendingPrice 47 = .ok (.iconst 0, 1) := by decide +kernel
theorem dX1_mendingPrice_48 : decode cX1_mendingPrice 48 = .ok (.iastore, 1) := by decide +kernel
theorem dX1_mendingPrice_49 : decode cX1_mendingPrice 49 = .ok (.iinc 5 1, 3) := by decide +kernel
theorem dX1_mendingPrice_52 : decode cX1_mendingPrice 52 = .ok (.goto (-17), 3) := by decide +kernel
theorem dX1_mendingPrice_55 : decode cX1_mendingPrice 55 = .ok (.aload_n 0, 1) := by decide +kernel
theorem dX1_mendingPrice_56 : decode cX1_mendingPrice 56 = .ok (.invokevirtual 102, 3) := by decide +kernel
theorem dX1_mendingPrice_59 : decode cX1_mendingPrice 59 = .ok (.pop, 1) := by decide +kernel
theorem dX1_mendingPrice_60 : decode cX1_mendingPrice 60 = .ok (.aload_n 0, 1) := by decide +kernel
theorem dX1_mendingPrice_61 : decode cX1_mendingPrice 61 = .ok (.invokevirtual 105, 3) := by decide +kernel
theorem dX1_mendingPrice_64 : decode cX1_mendingPrice 64 = .ok (.istore 5, 2) := by decide +kernel
theorem dX1_mendingPrice_66 : decode cX1_mendingPrice 66 = .ok (.iload 4, 2) := by decide +kernel
theorem dX1_mendingPrice_68 : decode cX1_mendingPrice 68 = .ok (.ifCond .eq 9, 3) := by decide +kernel
theorem dX1_mendingPrice_71 : decode cX1_mendingPrice 71 = .ok (.iload 5, 2) := by decide +kernel
theorem dX1_mendingPrice_73 : decode cX1_mendingPrice 73 = .ok (.iload_n 3, 1) := by decide +kernel
theorem dX1_mendingPrice_74 : decode cX1_mendingPrice 74 = .ok (.if_icmp .ge 9, 3) := by decide +kernel
theorem dX1_mendingPrice_77 : decode cX1_mendingPrice 77 = .ok (.iload 5, 2) := by decide +kernel
theorem dX1_mendingPrice_79 : decode cX1_mendingPrice 79 = .ok (.istore_n 3, 1) := by decide +kernel
theorem dX1_mendingPrice_80 : decode cX1_mendingPrice 80 = .ok (.iload 4, 2) := by decide +kernel
theorem dX1_mendingPrice_82 : decode cX1_mendingPrice 82 = .ok (.istore_n 2, 1) := by decide +kernel
theorem dX1_mendingPrice_83 : decode cX1_mendingPrice 83 = .ok (.iinc 4 1, 3) := by decide +kernel
theorem dX1_mendingPrice_86 : decode cX1_mendingPrice 86 = .ok (.goto (-74), 3) := by decide +kernel
theorem dX1_mendingPrice_89 : decode cX1_mendingPrice 89 = .ok (.iload_n 2, 1) := by decide +kernel
theorem dX1_mendingPrice_90 : decode cX1_mendingPrice 90 = .ok (.ireturn, 1) := by decide +kernel

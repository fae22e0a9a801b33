theorem dX1_countRests_0 : decode cX1_countRests 0 = .ok (.aload_n 0, 1) := by decide +kernel
theorem dX1_countRests_1 : decode cX1_countRests 1 = .ok (.getfield 34, 3) := by decide +kernel
theorem dX1_countRests_4 : decode cX1_countRests 4 = .ok (.getfield 53, 3) := by decide +kernel
theorem dX1_countRests_7 : decode cX1_countRests 7 = .ok (.ifCond .le 10, 3) := by decide +kernel
theorem dX1_countRests_10 : decode cX1_countRests 10 = .ok (.aload_n 0, 1) := by decide +kernel
theorem dX1_countRests_11 : decode cX1_countRests 11 = .ok (.getfield 21, 3) := by decide +kernel
theorem dX1_countRests_14 : decode cX1_countRests 14 = .ok (.goto 4, 3) := by decide +kernel
theorem dX1_countRests_17 : decode cX1_countRests 17 = .ok (.iconst 0, 1) := by decide +kernel
theorem dX1_countRests_18 : decode cX1_countRests 18 = .ok (.istore_n 1, 1) := by decide +kernel
theorem dX1_countRests_19 : decode cX1_countRests 19 = .ok (.aload_n 0, 1) := by decide +kernel
theorem dX1_countRests_20 : decode cX1_countRests 20 = .ok (.getfield 34, 3) := by decide +kernel
theorem dX1_countRests_23 : decode cX1_countRests 23 = .ok (.getfield 53, 3) := by decide +kernel
theorem dX1_countRests_26 : decode cX1_countRests 26 = .ok (.iconst 1, 1) := by decide +kernel
theorem dX1_countRests_27 : decode cX1_countRests 27 = .ok (.if_icmp .le 10, 3) := by decide +kernel
theorem dX1_countRests_30 : decode cX1_countRests 30 = .ok (.aload_n 0, 1) := by decide +kernel
theorem dX1_countRests_31 : decode cX1_countRests 31 = .ok (.getfield 21, 3) := by decide +kernel
theorem dX1_countRests_34 : decode cX1_countRests 34 = .ok (.goto 4, 3) := by decide +kernel
theorem dX1_countRests_37 : decode cX1_countRests 37 = .ok (.iconst 0, 1) := by decide +kernel
theorem dX1_countRests_38 : decode cX1_countRests 38 = .ok (.istore_n 2, 1) := by decide +kernel
theorem dX1_countRests_39 : decode cX1_countRests 39 = .ok (.iconst 0, 1) := by decide +kernel
theorem dX1_countRests_40 : decode cX1_countRests 40 = .ok (.istore_n 3, 1) := by decide +kernel
theorem dX1_countRests_41 : decode cX1_countRests 41 = .ok (.iconst 0, 1) := by decide +kernel
theorem dX1_countRests_42 : decode cX1_countRests 42 = .ok (.istore 4, 2) := by decide +kernel
theorem dX1_countRests_44 : decode cX1_countRests 44 = .ok (.iload 4, 2) := by decide +kernel
theorem dX1_countRests_46 : decode cX1_countRests 46 = .ok (.iload_n 1, 1) := by decide +kernel
theorem dX1_countRests_47 : decode cX1_countRests 47 = .ok (.if_icmp .gt 55, 3) := by decide +kernel
theorem dX1_countRests_50 : decode cX1_countRests 50 = .ok (.iconst 0, 1) := by decide +kernel
theorem dX1_countRests_51 : decode cX1_countRests 51 = .ok (.istore 5, 2) := by decide +kernel
theorem dX1_countRests_53 : decode cX1_countRests 53 = .ok (.iload 5, 2) := by decide +kernel
theorem dX1_countRests_55 : decode cX1_countRests 55 = .ok (.iload_n 2, 1) := by decide +kernel
theorem dX1_countRests_56 : decode cX1_countRests 56 = .ok (.if_icmp .gt 40, 3) := by decide +kernel
theorem dX1_countRests_59 : decode cX1_countRests 59 = .ok (.aload_n 0, 1) := by decide +kernel
theorem dX1_countRests_60 : decode cX1_countRests 60 = .ok (.getfield 9, 3) := by decide +kernel
theorem dX1_countRests_63 : decode cX1_countRests 63 = .ok (.iconst 0, 1) := by decide +kernel
theorem dX1_countRests_64 : decode cX1_countRests 64 = .ok (.iload 4, 2) := by decide +kernel
theorem dX1_countRests_66 : decode cX1_countRests 66 = .ok (.iastore, 1) := by decide +kernel
theorem dX1_countRests_67 : decode cX1_countRests 67 = .ok (.aload_n 0, 1) := by decide +kernel
theorem dX1_countRests_68 : decode cX1_countRests 68 = .ok (.getfield 9, 3) := by decide +kernel
theorem dX1_countRests_71 : decode cX1_countRests 71 = .ok (.iconst 1, 1) := by decide +kernel
theorem dX1_countRests_72 : decode cX1_countRests 72 = .ok (.iload 5, 2) := by decide +kernel
theorem dX1_countRests_74 : decode cX1_countRests 74 = .ok (.iastore, 1) := by decide +kernel
theorem dX1_countRests_75 : decode cX1_countRests 75 = .ok (.iload_n 3, 1) := by decide +kernel
theorem dX1_countRests_76 : decode cX1_countRests 76 = .ok (.aload_n 0, 1) := by decide +kernel
theorem dX1_countRests_77 : decode cX1_countRests 77 = .ok (.invokevirtual 90, 3) := by decide +kernel
theorem dX1_countRests_80 : decode cX1_countRests 80 = .ok (.ifCond .eq 7, 3) := by decide +kernel
theorem dX1_countRests_83 : decode cX1_countRests 83 = .ok (.iconst 1, 1) := by decide +kernel
theorem dX1_countRests_84 : decode cX1_countRests 84 = .ok (.goto 4, 3) := by decide +kernel
theorem dX1_countRests_87 : decode cX1_countRests 87 = .ok (.iconst 0, 1) := by decide +kernel
theorem dX1_countRests_88 : decode cX1_countRests 88 = .ok (.iadd, 1) := by decide +kernel
theorem dX1_countRests_89 : decode cX1_countRests 89 = .ok (.istore_n 3, 1) := by decide +kernel
theorem dX1_countRests_90 : decode cX1_countRests 90 = .ok (.iinc 5 1, 3) := by decide +kernel
theorem dX1_countRests_93 : decode cX1_countRests 93 = .ok (.goto (-40), 3) := by decide +kernel
theorem dX1_countRests_96 : decode cX1_countRests 96 = .ok (.iinc 4 1, 3) := by decide +kernel
theorem dX1_countRests_99 : decode cX1_countRests 99 = .ok (.goto (-55), 3) := by decide +kernel
theorem dX1_countRests_102 : decode cX1_countRests 102 = .ok (.iload_n 3, 1) := by decide +kernel
theorem dX1_countRests_103 : decode cX1_countRests 103 = .ok (.ireturn, 1) := by decide +kernel
set_option maxHeartbeats 4000000 in
set_option maxRecDepth 100000 in
theorem x_countRests (l : Launch) (D : va_G) (k : Nat → ClassId) (st : Nat → Nat) (lo : Nat) (c0 : Nat) (z0 : Nat) (z1 : Nat) (z2 : Nat) (z3 : Nat) (pn : Nat) (pf : Int32) (pd : Int32) (pe : Int32) (pb : Nat → Nat) (pco : Nat → Int32) (c1 : Nat) (c2 : Nat) (cc : Nat) (rz : Nat) (ro : Int32) (sd : Int32) (hpn : pn ≤ 24) (hcc : cc ≤ 4) (hpb : ∀ j, pb j ≤ 24) : CWi l D k st lo yX1_countRests cX1_countRests 6 (some .int) ({ frames := 4, cells := 0, slots := 0, locals := 95 }) 0 0 [.ref z0] [(z0, .inr (1, (fX1 c0 z1 z2 z3 (nI pn) pf pd pe))), (aI k z1 4 (nF pb)), (aI k z2 100 pco), (c0, .inr (4, (fX4 c1 c2 (nI cc) (nI rz) ro sd)))] (fun (r : Int32) (pb_ : (Nat → Nat)) => ∀ j, pb_ j ≤ 24) (fun (pb_ : (Nat → Nat)) => [(z0, .inr (1, (fX1 c0 z1 z2 z3 (nI pn) pf pd pe))), (aI k z1 4 (nF pb_)), (aI k z2 100 pco), (c0, .inr (4, (fX4 c1 c2 (nI cc) (nI rz) ro sd)))]) := by
  intro sz
  refine Met.ofW (cc := cX1_countRests) (maxL := 6) (ret := (some .int)) (by decide) rfl ?_
  intro p e s m args below meth c s₁ B hml hv
  obtain ⟨rfl, hsz, hlo, hP, hK, hDL, hZ⟩ := hv
  have hx := B.exec
  have hb := B.bytes
  have hr := B.returns
  have hts := WS_ts B.pre
  have hown : s.vm.findClass RX1 = some m.cls := findClass_of_methodNamed B.named
  have hlocks := B.notSynchronized
  subst hsz
  have hD := hDL.self (sz := s.heap.size)
  have hAlo := A_lo hDL hlo
  generalize hAe : va_A [(z0, .inr (1, (fX1 c0 z1 z2 z3 (nI pn) pf pd pe))), (aI k z1 4 (nF pb)), (aI k z2 100 pco), (c0, .inr (4, (fX4 c1 c2 (nI cc) (nI rz) ro sd)))] s.heap.size = A at hD hAlo ⊢
  have hA : ∀ q : Nat, s.heap.size ≤ q → A q := fun q h => by rw [← hAe]; exact Or.inr h
  have hS : va_S A s.heap s.heap [] := va_S.rf
  have hl := lv_entry ([.ref z0]) (n := 6) (Nat.le_of_ble_eq_true rfl)
  rw [lg_entry_eq]
  generalize (lg_sl ([.ref z0]) ++ List.replicate (6 - (lg_sl ([.ref z0])).length) Slot.unset).toArray = ls at hl ⊢
  have hl : lv_has ls 6 [(0, .ref z0)] := hl
  refine lv_aload_n hx hb dX1_countRests_0 rfl (lv_at hl 0 rfl) ?_
  refine va_get (D := D) (ci := 1) (v := .ref c0) (C := RX1) (T := TX1) (N := 8) hx hb hts inX1 hown hK hP 0 rfl rfl 0 (by decide) (hts _ tw_235) (fun _ h9 => h9) rfl dX1_countRests_1 ?_
  refine va_get (D := D) (ci := 4) (v := .int (nI cc)) (C := RX4) (T := TX4) (N := 6) hx hb hts inX4 hown hK hP 3 rfl rfl 2 (by decide) (hts _ tw_179) (fun _ h9 => h9) rfl dX1_countRests_4 ?_
  refine lv_if_le (tgt := 17) hx hb dX1_countRests_7 (by decide) (fun c_1 => ?_) (fun c_1 => ?_)
  · have c_1 := (nI_leI (a := cc) (b := 0) (by omega) (by omega)).mp c_1
    refine lv_iconst (v := 0) hx hb dX1_countRests_17 (by decide) ?_
    refine lv_istore_n (lv' := [(1, .int 0), (0, .ref z0)]) hx hb dX1_countRests_18 rfl hl (by decide) rfl (fun ls hl => ?_)
    refine lv_aload_n hx hb dX1_countRests_19 rfl (lv_at hl 1 rfl) ?_
    refine va_get (D := D) (ci := 1) (v := .ref c0) (C := RX1) (T := TX1) (N := 8) hx hb hts inX1 hown hK hP 0 rfl rfl 0 (by decide) (hts _ tw_235) (fun _ h9 => h9) rfl dX1_countRests_20 ?_
    refine va_get (D := D) (ci := 4) (v := .int (nI cc)) (C := RX4) (T := TX4) (N := 6) hx hb hts inX4 hown hK hP 3 rfl rfl 2 (by decide) (hts _ tw_179) (fun _ h9 => h9) rfl dX1_countRests_23 ?_
    refine lv_iconst (v := 1) hx hb dX1_countRests_26 (by decide) ?_
    refine lv_icmp_le (tgt := 37) hx hb dX1_countRests_27 (by decide) (fun _ => ?_) (fun h => absurd ((nI_leI (a := cc) (b := 1) (by omega) (by omega)).mpr (by omega)) h)
    refine lv_iconst (v := 0) hx hb dX1_countRests_37 (by decide) ?_
    refine lv_istore_n (lv' := [(2, .int 0), (1, .int 0), (0, .ref z0)]) hx hb dX1_countRests_38 rfl hl (by decide) rfl (fun ls hl => ?_)
    refine lv_iconst (v := 0) hx hb dX1_countRests_39 (by decide) ?_
    refine lv_istore_n (lv' := [(3, .int 0), (2, .int 0), (1, .int 0), (0, .ref z0)]) hx hb dX1_countRests_40 rfl hl (by decide) rfl (fun ls hl => ?_)
    refine lv_iconst (v := 0) hx hb dX1_countRests_41 (by decide) ?_
    refine lv_istore (lv' := [(4, .int 0), (3, .int 0), (2, .int 0), (1, .int 0), (0, .ref z0)]) hx hb dX1_countRests_42 hl (by decide) rfl (fun ls hl => ?_)
    refine W_loop (σ := Nat × Int32 × (Nat → Nat)) (fun (n_ : Nat) (x_ : Nat × Int32 × (Nat → Nat)) (H : Heap) (locs : List Loc) (ls : Array Slot) => match x_ with | (aa_3, rs2_3, pb2_3) => n_ = 26 - aa_3 ∧ ((aa_3 ≤ 25) ∧ (∀ j, pb2_3 j ≤ 24)) ∧ va_P D classes [(z0, .inr (1, (fX1 c0 z1 z2 z3 (nI pn) pf pd pe))), (aI k z1 4 (nF pb2_3)), (aI k z2 100 pco), (c0, .inr (4, (fX4 c1 c2 (nI cc) (nI rz) ro sd)))] H ∧ va_D A [(z0, .inr (1, (fX1 c0 z1 z2 z3 (nI pn) pf pd pe))), (aI k z1 4 (nF pb2_3)), (aI k z2 100 pco), (c0, .inr (4, (fX4 c1 c2 (nI cc) (nI rz) ro sd)))] ∧ va_S A s.heap H locs ∧ lv_has ls 6 [(4, .int (nI aa_3)), (3, .int rs2_3), (2, .int 0), (1, .int 0), (0, .ref z0)]) (fun n_3 x_3 H locs ls hI ih_3 => ?_) _ (0, 0, pb) ⟨rfl, ⟨by omega, hpb⟩, hP, hD, hS, (lv_sub hl [0, 1, 2, 3, 4] rfl)⟩
    obtain ⟨aa_3, rs2_3, pb2_3⟩ := x_3
    obtain ⟨hm_3, hv_3, hP, hD, hS, hl⟩ := hI
    subst hm_3
    have hpl_3 := hv_3.2
    refine lv_iload hx hb dX1_countRests_44 (lv_at hl 0 rfl) ?_
    refine lv_iload_n hx hb dX1_countRests_46 rfl (lv_at hl 3 rfl) ?_
    refine lv_icmp_gt (tgt := 102) hx hb dX1_countRests_47 (by decide) (fun c_4 => ?_) (fun c_4 => ?_)
    · have c_4 := (nI_ltI (a := 0) (b := aa_3) (by omega) (by omega)).mp c_4
      refine lv_iload_n hx hb dX1_countRests_102 rfl (lv_at hl 1 rfl) ?_
      have hP9 := hP.sub (ws' := [(z0, .inr (1, (fX1 c0 z1 z2 z3 (nI pn) pf pd pe))), (aI k z1 4 (nF pb2_3)), (aI k z2 100 pco), (c0, .inr (4, (fX4 c1 c2 (nI cc) (nI rz) ro sd)))]) [0, 1, 2, 3] rfl
      have hD9 := hD.sub (ws' := [(z0, .inr (1, (fX1 c0 z1 z2 z3 (nI pn) pf pd pe))), (aI k z1 4 (nF pb2_3)), (aI k z2 100 pco), (c0, .inr (4, (fX4 c1 c2 (nI cc) (nI rz) ro sd)))]) [0, 1, 2, 3] (by decide) rfl
      exact W.iret (v := rs2_3) hx hb hr (fun t ht hW => ⟨⟨rs2_3, pb2_3, rfl, hpl_3, by rw [ht]; exact hP9, hD9⟩, hS.F ht⟩) hS.2.2 dX1_countRests_103
    · have c_4 : ¬ (0 < aa_3) := fun h => c_4 ((nI_ltI (a := 0) (b := aa_3) (by omega) (by omega)).mpr h)
      refine lv_iconst (v := 0) hx hb dX1_countRests_50 (by decide) ?_
      refine lv_istore (lv' := [(5, .int 0), (4, .int (nI aa_3)), (3, .int rs2_3), (2, .int 0), (1, .int 0), (0, .ref z0)]) hx hb dX1_countRests_51 hl (by decide) rfl (fun ls hl => ?_)
      refine W_loop (σ := Nat × Int32 × (Nat → Nat)) (fun (n_ : Nat) (x_ : Nat × Int32 × (Nat → Nat)) (H : Heap) (locs : List Loc) (ls : Array Slot) => match x_ with | (b3_5, rs2_5, pb2_5) => n_ = 26 - b3_5 ∧ ((b3_5 ≤ 25) ∧ (∀ j, pb2_5 j ≤ 24)) ∧ va_P D classes [(z0, .inr (1, (fX1 c0 z1 z2 z3 (nI pn) pf pd pe))), (aI k z1 4 (nF pb2_5)), (aI k z2 100 pco), (c0, .inr (4, (fX4 c1 c2 (nI cc) (nI rz) ro sd)))] H ∧ va_D A [(z0, .inr (1, (fX1 c0 z1 z2 z3 (nI pn) pf pd pe))), (aI k z1 4 (nF pb2_5)), (aI k z2 100 pco), (c0, .inr (4, (fX4 c1 c2 (nI cc) (nI rz) ro sd)))] ∧ va_S A s.heap H locs ∧ lv_has ls 6 [(5, .int (nI b3_5)), (4, .int (nI aa_3)), (3, .int rs2_5), (2, .int 0), (1, .int 0), (0, .ref z0)]) (fun n_5 x_5 H locs ls hI ih_5 => ?_) _ (0, rs2_3, pb2_3) ⟨rfl, ⟨by omega, hpl_3⟩, hP, hD, hS, (lv_sub hl [0, 1, 2, 3, 4, 5] rfl)⟩
      obtain ⟨b3_5, rs2_5, pb2_5⟩ := x_5
      obtain ⟨hm_5, hv_5, hP, hD, hS, hl⟩ := hI
      subst hm_5
      have hpl_5 := hv_5.2
      refine lv_iload hx hb dX1_countRests_53 (lv_at hl 0 rfl) ?_
      refine lv_iload_n hx hb dX1_countRests_55 rfl (lv_at hl 3 rfl) ?_
      refine lv_icmp_gt (tgt := 96) hx hb dX1_countRests_56 (by decide) (fun c_6 => ?_) (fun c_6 => ?_)
      · have c_6 := (nI_ltI (a := 0) (b := b3_5) (by omega) (by omega)).mp c_6
        refine lv_iinc (v := (nI (aa_3 + 1))) (lv' := [(4, .int (nI (aa_3 + 1))), (5, .int (nI b3_5)), (3, .int rs2_5), (2, .int 0), (1, .int 0), (0, .ref z0)]) hx hb dX1_countRests_96 hl (k := 1) rfl (nI_add aa_3 1) (by decide) rfl (fun ls hl => ?_)
        refine lv_goto (tgt := 44) hx hb dX1_countRests_99 (by decide) ?_
        exact ih_3 _ (aa_3 + 1, rs2_5, pb2_5) _ _ _ (by omega) ⟨rfl, ⟨by omega, hpl_5⟩, hP, hD, hS, (lv_sub hl [0, 2, 3, 4, 5] rfl)⟩
      · have c_6 : ¬ (0 < b3_5) := fun h => c_6 ((nI_ltI (a := 0) (b := b3_5) (by omega) (by omega)).mpr h)
        refine lv_aload_n hx hb dX1_countRests_59 rfl (lv_at hl 5 rfl) ?_
        refine va_get (D := D) (ci := 1) (v := .ref z1) (C := RX1) (T := TX1) (N := 8) hx hb hts inX1 hown hK hP 0 rfl rfl 1 (by decide) (hts _ tw_236) (fun _ h9 => h9) rfl dX1_countRests_60 ?_
        refine lv_iconst (v := 0) hx hb dX1_countRests_63 (by decide) ?_
        refine lv_iload hx hb dX1_countRests_64 (lv_at hl 1 rfl) ?_
        refine va_iast hx hb hK hP hD hS 1 1 rfl rfl (by unfold vp_in; decide) dX1_countRests_66 (fun H locs hP hD hS => ?_)
        replace hP : va_P D classes [(z0, .inr (1, (fX1 c0 z1 z2 z3 (nI pn) pf pd pe))), (aI k z1 4 (upd (nF pb2_5) (Int32.toNatClampNeg 0) (nI aa_3))), (aI k z2 100 pco), (c0, .inr (4, (fX4 c1 c2 (nI cc) (nI rz) ro sd)))] H := hP
        replace hD : va_D A [(z0, .inr (1, (fX1 c0 z1 z2 z3 (nI pn) pf pd pe))), (aI k z1 4 (upd (nF pb2_5) (Int32.toNatClampNeg 0) (nI aa_3))), (aI k z2 100 pco), (c0, .inr (4, (fX4 c1 c2 (nI cc) (nI rz) ro sd)))] := hD
        rw [show upd (nF pb2_5) (Int32.toNatClampNeg 0) (nI aa_3) = nF (fun j => if j = 0 then aa_3 else pb2_5 j) from nF_upd _ _ _] at hP hD
        obtain ⟨d_8, hd_8⟩ : ∃ z : Nat → Nat, z = (fun j => if j = 0 then aa_3 else pb2_5 j) := ⟨_, rfl⟩
        rw [← hd_8] at hP hD
        have hbb_8 : ∀ j, d_8 j ≤ 24 := by rw [hd_8]; exact up_le hpl_5 (by omega)
        refine lv_aload_n hx hb dX1_countRests_67 rfl (lv_at hl 5 rfl) ?_
        refine va_get (D := D) (ci := 1) (v := .ref z1) (C := RX1) (T := TX1) (N := 8) hx hb hts inX1 hown hK hP 0 rfl rfl 1 (by decide) (hts _ tw_236) (fun _ h9 => h9) rfl dX1_countRests_68 ?_
        refine lv_iconst (v := 1) hx hb dX1_countRests_71 (by decide) ?_
        refine lv_iload hx hb dX1_countRests_72 (lv_at hl 0 rfl) ?_
        refine va_iast hx hb hK hP hD hS 1 1 rfl rfl (by unfold vp_in; decide) dX1_countRests_74 (fun H locs hP hD hS => ?_)
        replace hP : va_P D classes [(z0, .inr (1, (fX1 c0 z1 z2 z3 (nI pn) pf pd pe))), (aI k z1 4 (upd (nF d_8) (Int32.toNatClampNeg 1) (nI b3_5))), (aI k z2 100 pco), (c0, .inr (4, (fX4 c1 c2 (nI cc) (nI rz) ro sd)))] H := hP
        replace hD : va_D A [(z0, .inr (1, (fX1 c0 z1 z2 z3 (nI pn) pf pd pe))), (aI k z1 4 (upd (nF d_8) (Int32.toNatClampNeg 1) (nI b3_5))), (aI k z2 100 pco), (c0, .inr (4, (fX4 c1 c2 (nI cc) (nI rz) ro sd)))] := hD
        rw [show upd (nF d_8) (Int32.toNatClampNeg 1) (nI b3_5) = nF (fun j => if j = 1 then b3_5 else d_8 j) from nF_upd _ _ _] at hP hD
        obtain ⟨d_10, hd_10⟩ : ∃ z : Nat → Nat, z = (fun j => if j = 1 then b3_5 else d_8 j) := ⟨_, rfl⟩
        rw [← hd_10] at hP hD
        have hbb_10 : ∀ j, d_10 j ≤ 24 := by rw [hd_10]; exact up_le hbb_8 (by omega)
        refine lv_iload_n hx hb dX1_countRests_75 rfl (lv_at hl 2 rfl) ?_
        refine lv_aload_n hx hb dX1_countRests_76 rfl (lv_at hl 5 rfl) ?_
        refine ro_i (D := D) (va_runV (As := []) (rest := [.int rs2_5]) ⟨hx, hb, hml, hown, hts⟩ ((x_isAtRest l D k st lo c0 z0 z1 z2 z3 pn pf pd pe d_10 pco c1 c2 cc rz ro sd (by omega) (by omega) hbb_10) H.size) (cwV 0 hts (gV tw_892 tw_855 tw_856 tw_84 tw_857) rfl rfl rfl (by decide +kernel) ⟨Nat.le_of_ble_eq_true rfl, Nat.le_of_ble_eq_true rfl⟩) (pV hS hAlo hlo hP hK (va_Dlo hD hAlo) hZ [0, 1, 2, 3] (by decide) rfl (ci := 1) (q := (RX1, TX1, 8)) (q0 := 0) rfl rfl) rfl rfl hl.1 rfl (lv_room (Nat.le_of_ble_eq_true rfl)) dX1_countRests_77 ⟨Nat.le_of_ble_eq_true rfl, Nat.le_of_ble_eq_true rfl⟩) hS hA hP (fun r_11 H locs hw_11 hP hS => ?_)
        try dsimp only at hw_11
        rcases hw_11 with rfl | rfl
        · refine lv_if_eq (tgt := 87) hx hb dX1_countRests_80 (by decide) (fun h => absurd h (by decide)) (fun _ => ?_)
          refine lv_iconst (v := 1) hx hb dX1_countRests_83 (by decide) ?_
          refine lv_goto (tgt := 88) hx hb dX1_countRests_84 (by decide) ?_
          refine lv_iadd hx hb dX1_countRests_88 ?_
          refine lv_topi (fun x_12 ex_12 => ?_)
          refine lv_istore_n (lv' := [(3, .int x_12), (5, .int (nI b3_5)), (4, .int (nI aa_3)), (2, .int 0), (1, .int 0), (0, .ref z0)]) hx hb dX1_countRests_89 rfl hl (by decide) rfl (fun ls hl => ?_)
          refine lv_iinc (v := (nI (b3_5 + 1))) (lv' := [(5, .int (nI (b3_5 + 1))), (3, .int x_12), (4, .int (nI aa_3)), (2, .int 0), (1, .int 0), (0, .ref z0)]) hx hb dX1_countRests_90 hl (k := 1) rfl (nI_add b3_5 1) (by decide) rfl (fun ls hl => ?_)
          refine lv_goto (tgt := 53) hx hb dX1_countRests_93 (by decide) ?_
          exact ih_5 _ (b3_5 + 1, x_12, d_10) _ _ _ (by omega) ⟨rfl, ⟨by omega, hbb_10⟩, hP, hD, hS, (lv_sub hl [0, 2, 1, 3, 4, 5] rfl)⟩
        · refine lv_if_eq (tgt := 87) hx hb dX1_countRests_80 (by decide) (fun _ => ?_) (fun h => absurd (by decide) h)
          refine lv_iconst (v := 0) hx hb dX1_countRests_87 (by decide) ?_
          refine lv_iadd hx hb dX1_countRests_88 ?_
          refine lv_topi (fun x_13 ex_13 => ?_)
          refine lv_istore_n (lv' := [(3, .int x_13), (5, .int (nI b3_5)), (4, .int (nI aa_3)), (2, .int 0), (1, .int 0), (0, .ref z0)]) hx hb dX1_countRests_89 rfl hl (by decide) rfl (fun ls hl => ?_)
          refine lv_iinc (v := (nI (b3_5 + 1))) (lv' := [(5, .int (nI (b3_5 + 1))), (3, .int x_13), (4, .int (nI aa_3)), (2, .int 0), (1, .int 0), (0, .ref z0)]) hx hb dX1_countRests_90 hl (k := 1) rfl (nI_add b3_5 1) (by decide) rfl (fun ls hl => ?_)
          refine lv_goto (tgt := 53) hx hb dX1_countRests_93 (by decide) ?_
          exact ih_5 _ (b3_5 + 1, x_13, d_10) _ _ _ (by omega) ⟨rfl, ⟨by omega, hbb_10⟩, hP, hD, hS, (lv_sub hl [0, 2, 1, 3, 4, 5] rfl)⟩
  · have c_1 : ¬ (cc ≤ 0) := fun h => c_1 ((nI_leI (a := cc) (b := 0) (by omega) (by omega)).mpr h)
    refine lv_aload_n hx hb dX1_countRests_10 rfl (lv_at hl 0 rfl) ?_
    refine va_get (D := D) (ci := 1) (v := .int (nI pn)) (C := RX1) (T := TX1) (N := 8) hx hb hts inX1 hown hK hP 0 rfl rfl 4 (by decide) (hts _ tw_240) (fun _ h9 => h9) rfl dX1_countRests_11 ?_
    refine lv_goto (tgt := 18) hx hb dX1_countRests_14 (by decide) ?_
    refine lv_istore_n (lv' := [(1, .int (nI pn)), (0, .ref z0)]) hx hb dX1_countRests_18 rfl hl (by decide) rfl (fun ls hl => ?_)
    refine lv_aload_n hx hb dX1_countRests_19 rfl (lv_at hl 1 rfl) ?_
    refine va_get (D := D) (ci := 1) (v := .ref c0) (C := RX1) (T := TX1) (N := 8) hx hb hts inX1 hown hK hP 0 rfl rfl 0 (by decide) (hts _ tw_235) (fun _ h9 => h9) rfl dX1_countRests_20 ?_
    refine va_get (D := D) (ci := 4) (v := .int (nI cc)) (C := RX4) (T := TX4) (N := 6) hx hb hts inX4 hown hK hP 3 rfl rfl 2 (by decide) (hts _ tw_179) (fun _ h9 => h9) rfl dX1_countRests_23 ?_
    refine lv_iconst (v := 1) hx hb dX1_countRests_26 (by decide) ?_
    refine lv_icmp_le (tgt := 37) hx hb dX1_countRests_27 (by decide) (fun c_14 => ?_) (fun c_14 => ?_)
    · have c_14 := (nI_leI (a := cc) (b := 1) (by omega) (by omega)).mp c_14
      refine lv_iconst (v := 0) hx hb dX1_countRests_37 (by decide) ?_
      refine lv_istore_n (lv' := [(2, .int 0), (1, .int (nI pn)), (0, .ref z0)]) hx hb dX1_countRests_38 rfl hl (by decide) rfl (fun ls hl => ?_)
      refine lv_iconst (v := 0) hx hb dX1_countRests_39 (by decide) ?_
      refine lv_istore_n (lv' := [(3, .int 0), (2, .int 0), (1, .int (nI pn)), (0, .ref z0)]) hx hb dX1_countRests_40 rfl hl (by decide) rfl (fun ls hl => ?_)
      refine lv_iconst (v := 0) hx hb dX1_countRests_41 (by decide) ?_
      refine lv_istore (lv' := [(4, .int 0), (3, .int 0), (2, .int 0), (1, .int (nI pn)), (0, .ref z0)]) hx hb dX1_countRests_42 hl (by decide) rfl (fun ls hl => ?_)
      refine W_loop (σ := Nat × Int32 × (Nat → Nat)) (fun (n_ : Nat) (x_ : Nat × Int32 × (Nat → Nat)) (H : Heap) (locs : List Loc) (ls : Array Slot) => match x_ with | (aa_15, rs2_15, pb2_15) => n_ = 26 - aa_15 ∧ ((aa_15 ≤ 25) ∧ (∀ j, pb2_15 j ≤ 24)) ∧ va_P D classes [(z0, .inr (1, (fX1 c0 z1 z2 z3 (nI pn) pf pd pe))), (aI k z1 4 (nF pb2_15)), (aI k z2 100 pco), (c0, .inr (4, (fX4 c1 c2 (nI cc) (nI rz) ro sd)))] H ∧ va_D A [(z0, .inr (1, (fX1 c0 z1 z2 z3 (nI pn) pf pd pe))), (aI k z1 4 (nF pb2_15)), (aI k z2 100 pco), (c0, .inr (4, (fX4 c1 c2 (nI cc) (nI rz) ro sd)))] ∧ va_S A s.heap H locs ∧ lv_has ls 6 [(4, .int (nI aa_15)), (3, .int rs2_15), (2, .int 0), (1, .int (nI pn)), (0, .ref z0)]) (fun n_15 x_15 H locs ls hI ih_15 => ?_) _ (0, 0, pb) ⟨rfl, ⟨by omega, hpb⟩, hP, hD, hS, (lv_sub hl [0, 1, 2, 3, 4] rfl)⟩
      obtain ⟨aa_15, rs2_15, pb2_15⟩ := x_15
      obtain ⟨hm_15, hv_15, hP, hD, hS, hl⟩ := hI
      subst hm_15
      have hpl_15 := hv_15.2
      refine lv_iload hx hb dX1_countRests_44 (lv_at hl 0 rfl) ?_
      refine lv_iload_n hx hb dX1_countRests_46 rfl (lv_at hl 3 rfl) ?_
      refine lv_icmp_gt (tgt := 102) hx hb dX1_countRests_47 (by decide) (fun c_16 => ?_) (fun c_16 => ?_)
      · have c_16 := (nI_ltI (a := pn) (b := aa_15) (by omega) (by omega)).mp c_16
        refine lv_iload_n hx hb dX1_countRests_102 rfl (lv_at hl 1 rfl) ?_
        have hP9 := hP.sub (ws' := [(z0, .inr (1, (fX1 c0 z1 z2 z3 (nI pn) pf pd pe))), (aI k z1 4 (nF pb2_15)), (aI k z2 100 pco), (c0, .inr (4, (fX4 c1 c2 (nI cc) (nI rz) ro sd)))]) [0, 1, 2, 3] rfl
        have hD9 := hD.sub (ws' := [(z0, .inr (1, (fX1 c0 z1 z2 z3 (nI pn) pf pd pe))), (aI k z1 4 (nF pb2_15)), (aI k z2 100 pco), (c0, .inr (4, (fX4 c1 c2 (nI cc) (nI rz) ro sd)))]) [0, 1, 2, 3] (by decide) rfl
        exact W.iret (v := rs2_15) hx hb hr (fun t ht hW => ⟨⟨rs2_15, pb2_15, rfl, hpl_15, by rw [ht]; exact hP9, hD9⟩, hS.F ht⟩) hS.2.2 dX1_countRests_103
      · have c_16 : ¬ (pn < aa_15) := fun h => c_16 ((nI_ltI (a := pn) (b := aa_15) (by omega) (by omega)).mpr h)
        refine lv_iconst (v := 0) hx hb dX1_countRests_50 (by decide) ?_
        refine lv_istore (lv' := [(5, .int 0), (4, .int (nI aa_15)), (3, .int rs2_15), (2, .int 0), (1, .int (nI pn)), (0, .ref z0)]) hx hb dX1_countRests_51 hl (by decide) rfl (fun ls hl => ?_)
        refine W_loop (σ := Nat × Int32 × (Nat → Nat)) (fun (n_ : Nat) (x_ : Nat × Int32 × (Nat → Nat)) (H : Heap) (locs : List Loc) (ls : Array Slot) => match x_ with | (b3_17, rs2_17, pb2_17) => n_ = 26 - b3_17 ∧ ((b3_17 ≤ 25) ∧ (∀ j, pb2_17 j ≤ 24)) ∧ va_P D classes [(z0, .inr (1, (fX1 c0 z1 z2 z3 (nI pn) pf pd pe))), (aI k z1 4 (nF pb2_17)), (aI k z2 100 pco), (c0, .inr (4, (fX4 c1 c2 (nI cc) (nI rz) ro sd)))] H ∧ va_D A [(z0, .inr (1, (fX1 c0 z1 z2 z3 (nI pn) pf pd pe))), (aI k z1 4 (nF pb2_17)), (aI k z2 100 pco), (c0, .inr (4, (fX4 c1 c2 (nI cc) (nI rz) ro sd)))] ∧ va_S A s.heap H locs ∧ lv_has ls 6 [(5, .int (nI b3_17)), (4, .int (nI aa_15)), (3, .int rs2_17), (2, .int 0), (1, .int (nI pn)), (0, .ref z0)]) (fun n_17 x_17 H locs ls hI ih_17 => ?_) _ (0, rs2_15, pb2_15) ⟨rfl, ⟨by omega, hpl_15⟩, hP, hD, hS, (lv_sub hl [0, 1, 2, 3, 4, 5] rfl)⟩
        obtain ⟨b3_17, rs2_17, pb2_17⟩ := x_17
        obtain ⟨hm_17, hv_17, hP, hD, hS, hl⟩ := hI
        subst hm_17
        have hpl_17 := hv_17.2
        refine lv_iload hx hb dX1_countRests_53 (lv_at hl 0 rfl) ?_
        refine lv_iload_n hx hb dX1_countRests_55 rfl (lv_at hl 3 rfl) ?_
        refine lv_icmp_gt (tgt := 96) hx hb dX1_countRests_56 (by decide) (fun c_18 => ?_) (fun c_18 => ?_)
        · have c_18 := (nI_ltI (a := 0) (b := b3_17) (by omega) (by omega)).mp c_18
          refine lv_iinc (v := (nI (aa_15 + 1))) (lv' := [(4, .int (nI (aa_15 + 1))), (5, .int (nI b3_17)), (3, .int rs2_17), (2, .int 0), (1, .int (nI pn)), (0, .ref z0)]) hx hb dX1_countRests_96 hl (k := 1) rfl (nI_add aa_15 1) (by decide) rfl (fun ls hl => ?_)
          refine lv_goto (tgt := 44) hx hb dX1_countRests_99 (by decide) ?_
          exact ih_15 _ (aa_15 + 1, rs2_17, pb2_17) _ _ _ (by omega) ⟨rfl, ⟨by omega, hpl_17⟩, hP, hD, hS, (lv_sub hl [0, 2, 3, 4, 5] rfl)⟩
        · have c_18 : ¬ (0 < b3_17) := fun h => c_18 ((nI_ltI (a := 0) (b := b3_17) (by omega) (by omega)).mpr h)
          refine lv_aload_n hx hb dX1_countRests_59 rfl (lv_at hl 5 rfl) ?_
          refine va_get (D := D) (ci := 1) (v := .ref z1) (C := RX1) (T := TX1) (N := 8) hx hb hts inX1 hown hK hP 0 rfl rfl 1 (by decide) (hts _ tw_236) (fun _ h9 => h9) rfl dX1_countRests_60 ?_
          refine lv_iconst (v := 0) hx hb dX1_countRests_63 (by decide) ?_
          refine lv_iload hx hb dX1_countRests_64 (lv_at hl 1 rfl) ?_
          refine va_iast hx hb hK hP hD hS 1 1 rfl rfl (by unfold vp_in; decide) dX1_countRests_66 (fun H locs hP hD hS => ?_)
          replace hP : va_P D classes [(z0, .inr (1, (fX1 c0 z1 z2 z3 (nI pn) pf pd pe))), (aI k z1 4 (upd (nF pb2_17) (Int32.toNatClampNeg 0) (nI aa_15))), (aI k z2 100 pco), (c0, .inr (4, (fX4 c1 c2 (nI cc) (nI rz) ro sd)))] H := hP
          replace hD : va_D A [(z0, .inr (1, (fX1 c0 z1 z2 z3 (nI pn) pf pd pe))), (aI k z1 4 (upd (nF pb2_17) (Int32.toNatClampNeg 0) (nI aa_15))), (aI k z2 100 pco), (c0, .inr (4, (fX4 c1 c2 (nI cc) (nI rz) ro sd)))] := hD
          rw [show upd (nF pb2_17) (Int32.toNatClampNeg 0) (nI aa_15) = nF (fun j => if j = 0 then aa_15 else pb2_17 j) from nF_upd _ _ _] at hP hD
          obtain ⟨d_20, hd_20⟩ : ∃ z : Nat → Nat, z = (fun j => if j = 0 then aa_15 else pb2_17 j) := ⟨_, rfl⟩
          rw [← hd_20] at hP hD
          have hbb_20 : ∀ j, d_20 j ≤ 24 := by rw [hd_20]; exact up_le hpl_17 (by omega)
          refine lv_aload_n hx hb dX1_countRests_67 rfl (lv_at hl 5 rfl) ?_
          refine va_get (D := D) (ci := 1) (v := .ref z1) (C := RX1) (T := TX1) (N := 8) hx hb hts inX1 hown hK hP 0 rfl rfl 1 (by decide) (hts _ tw_236) (fun _ h9 => h9) rfl dX1_countRests_68 ?_
          refine lv_iconst (v := 1) hx hb dX1_countRests_71 (by decide) ?_
          refine lv_iload hx hb dX1_countRests_72 (lv_at hl 0 rfl) ?_
          refine va_iast hx hb hK hP hD hS 1 1 rfl rfl (by unfold vp_in; decide) dX1_countRests_74 (fun H locs hP hD hS => ?_)
          replace hP : va_P D classes [(z0, .inr (1, (fX1 c0 z1 z2 z3 (nI pn) pf pd pe))), (aI k z1 4 (upd (nF d_20) (Int32.toNatClampNeg 1) (nI b3_17))), (aI k z2 100 pco), (c0, .inr (4, (fX4 c1 c2 (nI cc) (nI rz) ro sd)))] H := hP
          replace hD : va_D A [(z0, .inr (1, (fX1 c0 z1 z2 z3 (nI pn) pf pd pe))), (aI k z1 4 (upd (nF d_20) (Int32.toNatClampNeg 1) (nI b3_17))), (aI k z2 100 pco), (c0, .inr (4, (fX4 c1 c2 (nI cc) (nI rz) ro sd)))] := hD
          rw [show upd (nF d_20) (Int32.toNatClampNeg 1) (nI b3_17) = nF (fun j => if j = 1 then b3_17 else d_20 j) from nF_upd _ _ _] at hP hD
          obtain ⟨d_22, hd_22⟩ : ∃ z : Nat → Nat, z = (fun j => if j = 1 then b3_17 else d_20 j) := ⟨_, rfl⟩
          rw [← hd_22] at hP hD
          have hbb_22 : ∀ j, d_22 j ≤ 24 := by rw [hd_22]; exact up_le hbb_20 (by omega)
          refine lv_iload_n hx hb dX1_countRests_75 rfl (lv_at hl 2 rfl) ?_
          refine lv_aload_n hx hb dX1_countRests_76 rfl (lv_at hl 5 rfl) ?_
          refine ro_i (D := D) (va_runV (As := []) (rest := [.int rs2_17]) ⟨hx, hb, hml, hown, hts⟩ ((x_isAtRest l D k st lo c0 z0 z1 z2 z3 pn pf pd pe d_22 pco c1 c2 cc rz ro sd (by omega) (by omega) hbb_22) H.size) (cwV 0 hts (gV tw_892 tw_855 tw_856 tw_84 tw_857) rfl rfl rfl (by decide +kernel) ⟨Nat.le_of_ble_eq_true rfl, Nat.le_of_ble_eq_true rfl⟩) (pV hS hAlo hlo hP hK (va_Dlo hD hAlo) hZ [0, 1, 2, 3] (by decide) rfl (ci := 1) (q := (RX1, TX1, 8)) (q0 := 0) rfl rfl) rfl rfl hl.1 rfl (lv_room (Nat.le_of_ble_eq_true rfl)) dX1_countRests_77 ⟨Nat.le_of_ble_eq_true rfl, Nat.le_of_ble_eq_true rfl⟩) hS hA hP (fun r_23 H locs hw_23 hP hS => ?_)
          try dsimp only at hw_23
          rcases hw_23 with rfl | rfl
          · refine lv_if_eq (tgt := 87) hx hb dX1_countRests_80 (by decide) (fun h => absurd h (by decide)) (fun _ => ?_)
            refine lv_iconst (v := 1) hx hb dX1_countRests_83 (by decide) ?_
            refine lv_goto (tgt := 88) hx hb dX1_countRests_84 (by decide) ?_
            refine lv_iadd hx hb dX1_countRests_88 ?_
            refine lv_topi (fun x_24 ex_24 => ?_)
            refine lv_istore_n (lv' := [(3, .int x_24), (5, .int (nI b3_17)), (4, .int (nI aa_15)), (2, .int 0), (1, .int (nI pn)), (0, .ref z0)]) hx hb dX1_countRests_89 rfl hl (by decide) rfl (fun ls hl => ?_)
            refine lv_iinc (v := (nI (b3_17 + 1))) (lv' := [(5, .int (nI (b3_17 + 1))), (3, .int x_24), (4, .int (nI aa_15)), (2, .int 0), (1, .int (nI pn)), (0, .ref z0)]) hx hb dX1_countRests_90 hl (k := 1) rfl (nI_add b3_17 1) (by decide) rfl (fun ls hl => ?_)
            refine lv_goto (tgt := 53) hx hb dX1_countRests_93 (by decide) ?_
            exact ih_17 _ (b3_17 + 1, x_24, d_22) _ _ _ (by omega) ⟨rfl, ⟨by omega, hbb_22⟩, hP, hD, hS, (lv_sub hl [0, 2, 1, 3, 4, 5] rfl)⟩
          · refine lv_if_eq (tgt := 87) hx hb dX1_countRests_80 (by decide) (fun _ => ?_) (fun h => absurd (by decide) h)
            refine lv_iconst (v := 0) hx hb dX1_countRests_87 (by decide) ?_
            refine lv_iadd hx hb dX1_countRests_88 ?_
            refine lv_topi (fun x_25 ex_25 => ?_)
            refine lv_istore_n (lv' := [(3, .int x_25), (5, .int (nI b3_17)), (4, .int (nI aa_15)), (2, .int 0), (1, .int (nI pn)), (0, .ref z0)]) hx hb dX1_countRests_89 rfl hl (by decide) rfl (fun ls hl => ?_)
            refine lv_iinc (v := (nI (b3_17 + 1))) (lv' := [(5, .int (nI (b3_17 + 1))), (3, .int x_25), (4, .int (nI aa_15)), (2, .int 0), (1, .int (nI pn)), (0, .ref z0)]) hx hb dX1_countRests_90 hl (k := 1) rfl (nI_add b3_17 1) (by decide) rfl (fun ls hl => ?_)
            refine lv_goto (tgt := 53) hx hb dX1_countRests_93 (by decide) ?_
            exact ih_17 _ (b3_17 + 1, x_25, d_22) _ _ _ (by omega) ⟨rfl, ⟨by omega, hbb_22⟩, hP, hD, hS, (lv_sub hl [0, 2, 1, 3, 4, 5] rfl)⟩
    · have c_14 : ¬ (cc ≤ 1) := fun h => c_14 ((nI_leI (a := cc) (b := 1) (by omega) (by omega)).mpr h)
      refine lv_aload_n hx hb dX1_countRests_30 rfl (lv_at hl 1 rfl) ?_
      refine va_get (D := D) (ci := 1) (v := .int (nI pn)) (C := RX1) (T := TX1) (N := 8) hx hb hts inX1 hown hK hP 0 rfl rfl 4 (by decide) (hts _ tw_240) (fun _ h9 => h9) rfl dX1_countRests_31 ?_
      refine lv_goto (tgt := 38) hx hb dX1_countRests_34 (by decide) ?_
      refine lv_istore_n (lv' := [(2, .int (nI pn)), (1, .int (nI pn)), (0, .ref z0)]) hx hb dX1_countRests_38 rfl hl (by decide) rfl (fun ls hl => ?_)
      refine lv_iconst (v := 0) hx hb dX1_countRests_39 (by decide) ?_
      refine lv_istore_n (lv' := [(3, .int 0), (2, .int (nI pn)), (1, .int (nI pn)), (0, .ref z0)]) hx hb dX1_countRests_40 rfl hl (by decide) rfl (fun ls hl => ?_)
      refine lv_iconst (v := 0) hx hb dX1_countRests_41 (by decide) ?_
      refine lv_istore (lv' := [(4, .int 0), (3, .int 0), (2, .int (nI pn)), (1, .int (nI pn)), (0, .ref z0)]) hx hb dX1_countRests_42 hl (by decide) rfl (fun ls hl => ?_)
      refine W_loop (σ := Nat × Int32 × (Nat → Nat)) (fun (n_ : Nat) (x_ : Nat × Int32 × (Nat → Nat)) (H : Heap) (locs : List Loc) (ls : Array Slot) => match x_ with | (aa_26, rs2_26, pb2_26) => n_ = 26 - aa_26 ∧ ((aa_26 ≤ 25) ∧ (∀ j, pb2_26 j ≤ 24)) ∧ va_P D classes [(z0, .inr (1, (fX1 c0 z1 z2 z3 (nI pn) pf pd pe))), (aI k z1 4 (nF pb2_26)), (aI k z2 100 pco), (c0, .inr (4, (fX4 c1 c2 (nI cc) (nI rz) ro sd)))] H ∧ va_D A [(z0, .inr (1, (fX1 c0 z1 z2 z3 (nI pn) pf pd pe))), (aI k z1 4 (nF pb2_26)), (aI k z2 100 pco), (c0, .inr (4, (fX4 c1 c2 (nI cc) (nI rz) ro sd)))] ∧ va_S A s.heap H locs ∧ lv_has ls 6 [(4, .int (nI aa_26)), (3, .int rs2_26), (2, .int (nI pn)), (1, .int (nI pn)), (0, .ref z0)]) (fun n_26 x_26 H locs ls hI ih_26 => ?_) _ (0, 0, pb) ⟨rfl, ⟨by omega, hpb⟩, hP, hD, hS, (lv_sub hl [0, 1, 2, 3, 4] rfl)⟩
      obtain ⟨aa_26, rs2_26, pb2_26⟩ := x_26
      obtain ⟨hm_26, hv_26, hP, hD, hS, hl⟩ := hI
      subst hm_26
      have hpl_26 := hv_26.2
      refine lv_iload hx hb dX1_countRests_44 (lv_at hl 0 rfl) ?_
      refine lv_iload_n hx hb dX1_countRests_46 rfl (lv_at hl 3 rfl) ?_
      refine lv_icmp_gt (tgt := 102) hx hb dX1_countRests_47 (by decide) (fun c_27 => ?_) (fun c_27 => ?_)
      · have c_27 := (nI_ltI (a := pn) (b := aa_26) (by omega) (by omega)).mp c_27
        refine lv_iload_n hx hb dX1_countRests_102 rfl (lv_at hl 1 rfl) ?_
        have hP9 := hP.sub (ws' := [(z0, .inr (1, (fX1 c0 z1 z2 z3 (nI pn) pf pd pe))), (aI k z1 4 (nF pb2_26)), (aI k z2 100 pco), (c0, .inr (4, (fX4 c1 c2 (nI cc) (nI rz) ro sd)))]) [0, 1, 2, 3] rfl
        have hD9 := hD.sub (ws' := [(z0, .inr (1, (fX1 c0 z1 z2 z3 (nI pn) pf pd pe))), (aI k z1 4 (nF pb2_26)), (aI k z2 100 pco), (c0, .inr (4, (fX4 c1 c2 (nI cc) (nI rz) ro sd)))]) [0, 1, 2, 3] (by decide) rfl
        exact W.iret (v := rs2_26) hx hb hr (fun t ht hW => ⟨⟨rs2_26, pb2_26, rfl, hpl_26, by rw [ht]; exact hP9, hD9⟩, hS.F ht⟩) hS.2.2 dX1_countRests_103
      · have c_27 : ¬ (pn < aa_26) := fun h => c_27 ((nI_ltI (a := pn) (b := aa_26) (by omega) (by omega)).mpr h)
        refine lv_iconst (v := 0) hx hb dX1_countRests_50 (by decide) ?_
        refine lv_istore (lv' := [(5, .int 0), (4, .int (nI aa_26)), (3, .int rs2_26), (2, .int (nI pn)), (1, .int (nI pn)), (0, .ref z0)]) hx hb dX1_countRests_51 hl (by decide) rfl (fun ls hl => ?_)
        refine W_loop (σ := Nat × Int32 × (Nat → Nat)) (fun (n_ : Nat) (x_ : Nat × Int32 × (Nat → Nat)) (H : Heap) (locs : List Loc) (ls : Array Slot) => match x_ with | (b3_28, rs2_28, pb2_28) => n_ = 26 - b3_28 ∧ ((b3_28 ≤ 25) ∧ (∀ j, pb2_28 j ≤ 24)) ∧ va_P D classes [(z0, .inr (1, (fX1 c0 z1 z2 z3 (nI pn) pf pd pe))), (aI k z1 4 (nF pb2_28)), (aI k z2 100 pco), (c0, .inr (4, (fX4 c1 c2 (nI cc) (nI rz) ro sd)))] H ∧ va_D A [(z0, .inr (1, (fX1 c0 z1 z2 z3 (nI pn) pf pd pe))), (aI k z1 4 (nF pb2_28)), (aI k z2 100 pco), (c0, .inr (4, (fX4 c1 c2 (nI cc) (nI rz) ro sd)))] ∧ va_S A s.heap H locs ∧ lv_has ls 6 [(5, .int (nI b3_28)), (4, .int (nI aa_26)), (3, .int rs2_28), (2, .int (nI pn)), (1, .int (nI pn)), (0, .ref z0)]) (fun n_28 x_28 H locs ls hI ih_28 => ?_) _ (0, rs2_26, pb2_26) ⟨rfl, ⟨by omega, hpl_26⟩, hP, hD, hS, (lv_sub hl [0, 1, 2, 3, 4, 5] rfl)⟩
        obtain ⟨b3_28, rs2_28, pb2_28⟩ := x_28
        obtain ⟨hm_28, hv_28, hP, hD, hS, hl⟩ := hI
        subst hm_28
        have hpl_28 := hv_28.2
        refine lv_iload hx hb dX1_countRests_53 (lv_at hl 0 rfl) ?_
        refine lv_iload_n hx hb dX1_countRests_55 rfl (lv_at hl 3 rfl) ?_
        refine lv_icmp_gt (tgt := 96) hx hb dX1_countRests_56 (by decide) (fun c_29 => ?_) (fun c_29 => ?_)
        · have c_29 := (nI_ltI (a := pn) (b := b3_28) (by omega) (by omega)).mp c_29
          refine lv_iinc (v := (nI (aa_26 + 1))) (lv' := [(4, .int (nI (aa_26 + 1))), (5, .int (nI b3_28)), (3, .int rs2_28), (2, .int (nI pn)), (1, .int (nI pn)), (0, .ref z0)]) hx hb dX1_countRests_96 hl (k := 1) rfl (nI_add aa_26 1) (by decide) rfl (fun ls hl => ?_)
          refine lv_goto (tgt := 44) hx hb dX1_countRests_99 (by decide) ?_
          exact ih_26 _ (aa_26 + 1, rs2_28, pb2_28) _ _ _ (by omega) ⟨rfl, ⟨by omega, hpl_28⟩, hP, hD, hS, (lv_sub hl [0, 2, 3, 4, 5] rfl)⟩
        · have c_29 : ¬ (pn < b3_28) := fun h => c_29 ((nI_ltI (a := pn) (b := b3_28) (by omega) (by omega)).mpr h)
          refine lv_aload_n hx hb dX1_countRests_59 rfl (lv_at hl 5 rfl) ?_
          refine va_get (D := D) (ci := 1) (v := .ref z1) (C := RX1) (T := TX1) (N := 8) hx hb hts inX1 hown hK hP 0 rfl rfl 1 (by decide) (hts _ tw_236) (fun _ h9 => h9) rfl dX1_countRests_60 ?_
          refine lv_iconst (v := 0) hx hb dX1_countRests_63 (by decide) ?_
          refine lv_iload hx hb dX1_countRests_64 (lv_at hl 1 rfl) ?_
          refine va_iast hx hb hK hP hD hS 1 1 rfl rfl (by unfold vp_in; decide) dX1_countRests_66 (fun H locs hP hD hS => ?_)
          replace hP : va_P D classes [(z0, .inr (1, (fX1 c0 z1 z2 z3 (nI pn) pf pd pe))), (aI k z1 4 (upd (nF pb2_28) (Int32.toNatClampNeg 0) (nI aa_26))), (aI k z2 100 pco), (c0, .inr (4, (fX4 c1 c2 (nI cc) (nI rz) ro sd)))] H := hP
          replace hD : va_D A [(z0, .inr (1, (fX1 c0 z1 z2 z3 (nI pn) pf pd pe))), (aI k z1 4 (upd (nF pb2_28) (Int32.toNatClampNeg 0) (nI aa_26))), (aI k z2 100 pco), (c0, .inr (4, (fX4 c1 c2 (nI cc) (nI rz) ro sd)))] := hD
          rw [show upd (nF pb2_28) (Int32.toNatClampNeg 0) (nI aa_26) = nF (fun j => if j = 0 then aa_26 else pb2_28 j) from nF_upd _ _ _] at hP hD
          obtain ⟨d_31, hd_31⟩ : ∃ z : Nat → Nat, z = (fun j => if j = 0 then aa_26 else pb2_28 j) := ⟨_, rfl⟩
          rw [← hd_31] at hP hD
          have hbb_31 : ∀ j, d_31 j ≤ 24 := by rw [hd_31]; exact up_le hpl_28 (by omega)
          refine lv_aload_n hx hb dX1_countRests_67 rfl (lv_at hl 5 rfl) ?_
          refine va_get (D := D) (ci := 1) (v := .ref z1) (C := RX1) (T := TX1) (N := 8) hx hb hts inX1 hown hK hP 0 rfl rfl 1 (by decide) (hts _ tw_236) (fun _ h9 => h9) rfl dX1_countRests_68 ?_
          refine lv_iconst (v := 1) hx hb dX1_countRests_71 (by decide) ?_
          refine lv_iload hx hb dX1_countRests_72 (lv_at hl 0 rfl) ?_
          refine va_iast hx hb hK hP hD hS 1 1 rfl rfl (by unfold vp_in; decide) dX1_countRests_74 (fun H locs hP hD hS => ?_)
          replace hP : va_P D classes [(z0, .inr (1, (fX1 c0 z1 z2 z3 (nI pn) pf pd pe))), (aI k z1 4 (upd (nF d_31) (Int32.toNatClampNeg 1) (nI b3_28))), (aI k z2 100 pco), (c0, .inr (4, (fX4 c1 c2 (nI cc) (nI rz) ro sd)))] H := hP
          replace hD : va_D A [(z0, .inr (1, (fX1 c0 z1 z2 z3 (nI pn) pf pd pe))), (aI k z1 4 (upd (nF d_31) (Int32.toNatClampNeg 1) (nI b3_28))), (aI k z2 100 pco), (c0, .inr (4, (fX4 c1 c2 (nI cc) (nI rz) ro sd)))] := hD
          rw [show upd (nF d_31) (Int32.toNatClampNeg 1) (nI b3_28) = nF (fun j => if j = 1 then b3_28 else d_31 j) from nF_upd _ _ _] at hP hD
          obtain ⟨d_33, hd_33⟩ : ∃ z : Nat → Nat, z = (fun j => if j = 1 then b3_28 else d_31 j) := ⟨_, rfl⟩
          rw [← hd_33] at hP hD
          have hbb_33 : ∀ j, d_33 j ≤ 24 := by rw [hd_33]; exact up_le hbb_31 (by omega)
          refine lv_iload_n hx hb dX1_countRests_75 rfl (lv_at hl 2 rfl) ?_
          refine lv_aload_n hx hb dX1_countRests_76 rfl (lv_at hl 5 rfl) ?_
          refine ro_i (D := D) (va_runV (As := []) (rest := [.int rs2_28]) ⟨hx, hb, hml, hown, hts⟩ ((x_isAtRest l D k st lo c0 z0 z1 z2 z3 pn pf pd pe d_33 pco c1 c2 cc rz ro sd (by omega) (by omega) hbb_33) H.size) (cwV 0 hts (gV tw_892 tw_855 tw_856 tw_84 tw_857) rfl rfl rfl (by decide +kernel) ⟨Nat.le_of_ble_eq_true rfl, Nat.le_of_ble_eq_true rfl⟩) (pV hS hAlo hlo hP hK (va_Dlo hD hAlo) hZ [0, 1, 2, 3] (by decide) rfl (ci := 1) (q := (RX1, TX1, 8)) (q0 := 0) rfl rfl) rfl rfl hl.1 rfl (lv_room (Nat.le_of_ble_eq_true rfl)) dX1_countRests_77 ⟨Nat.le_of_ble_eq_true rfl, Nat.le_of_ble_eq_true rfl⟩) hS hA hP (fun r_34 H locs hw_34 hP hS => ?_)
          try dsimp only at hw_34
          rcases hw_34 with rfl | rfl
          · refine lv_if_eq (tgt := 87) hx hb dX1_countRests_80 (by decide) (fun h => absurd h (by decide)) (fun _ => ?_)
            refine lv_iconst (v := 1) hx hb dX1_countRests_83 (by decide) ?_
            refine lv_goto (tgt := 88) hx hb dX1_countRests_84 (by decide) ?_
            refine lv_iadd hx hb dX1_countRests_88 ?_
            refine lv_topi (fun x_35 ex_35 => ?_)
            refine lv_istore_n (lv' := [(3, .int x_35), (5, .int (nI b3_28)), (4, .int (nI aa_26)), (2, .int (nI pn)), (1, .int (nI pn)), (0, .ref z0)]) hx hb dX1_countRests_89 rfl hl (by decide) rfl (fun ls hl => ?_)
            refine lv_iinc (v := (nI (b3_28 + 1))) (lv' := [(5, .int (nI (b3_28 + 1))), (3, .int x_35), (4, .int (nI aa_26)), (2, .int (nI pn)), (1, .int (nI pn)), (0, .ref z0)]) hx hb dX1_countRests_90 hl (k := 1) rfl (nI_add b3_28 1) (by decide) rfl (fun ls hl => ?_)
            refine lv_goto (tgt := 53) hx hb dX1_countRests_93 (by decide) ?_
            exact ih_28 _ (b3_28 + 1, x_35, d_33) _ _ _ (by omega) ⟨rfl, ⟨by omega, hbb_33⟩, hP, hD, hS, (lv_sub hl [0, 2, 1, 3, 4, 5] rfl)⟩
          · refine lv_if_eq (tgt := 87) hx hb dX1_countRests_80 (by decide) (fun _ => ?_) (fun h => absurd (by decide) h)
            refine lv_iconst (v := 0) hx hb dX1_countRests_87 (by decide) ?_
            refine lv_iadd hx hb dX1_countRests_88 ?_
            refine lv_topi (fun x_36 ex_36 => ?_)
            refine lv_istore_n (lv' := [(3, .int x_36), (5, .int (nI b3_28)), (4, .int (nI aa_26)), (2, .int (nI pn)), (1, .int (nI pn)), (0, .ref z0)]) hx hb dX1_countRests_89 rfl hl (by decide) rfl (fun ls hl => ?_)
            refine lv_iinc (v := (nI (b3_28 + 1))) (lv' := [(5, .int (nI (b3_28 + 1))), (3, .int x_36), (4, .int (nI aa_26)), (2, .int (nI pn)), (1, .int (nI pn)), (0, .ref z0)]) hx hb dX1_countRests_90 hl (k := 1) rfl (nI_add b3_28 1) (by decide) rfl (fun ls hl => ?_)
            refine lv_goto (tgt := 53) hx hb dX1_countRests_93 (by decide) ?_
            exact ih_28 _ (b3_28 + 1, x_36, d_33) _ _ _ (by omega) ⟨rfl, ⟨by omega, hbb_33⟩, hP, hD, hS, (lv_sub hl [0, 2, 1, 3, 4, 5] rfl)⟩

theorem dX1_costOfAll_0 : decode cX1_costOfAll 0 = .ok (.iconst 0, 1) := by decide +kernel
theorem dX1_costOfAll_1 : decode cX1_costOfAll 1 = .ok (.istore_n 1, 1) := by decide +kernel
theorem dX1_costOfAll_2 : decode cX1_costOfAll 2 = .ok (.aload_n 0, 1) := by decide +kernel
theorem dX1_costOfAll_3 : decode cX1_costOfAll 3 = .ok (.getfield 25, 3) := by decide +kernel
theorem dX1_costOfAll_6 : decode cX1_costOfAll 6 = .ok (.istore_n 2, 1) := by decide +kernel
theorem dX1_costOfAll_7 : decode cX1_costOfAll 7 = .ok (.iconst 0, 1) := by decide +kernel
theorem dX1_costOfAll_8 : decode cX1_costOfAll 8 = .ok (.istore_n 3, 1) := by decide +kernel
theorem dX1_costOfAll_9 : decode cX1_costOfAll 9 = .ok (.iload_n 3, 1) := by decide +kernel
theorem dX1_costOfAll_10 : decode cX1_costOfAll 10 = .ok (.aload_n 0, 1) := by decide +kernel
theorem dX1_costOfAll_11 : decode cX1_costOfAll 11 = .ok (.getfield 34, 3) := by decide +kernel
theorem dX1_costOfAll_14 : decode cX1_costOfAll 14 = .ok (.getfield 53, 3) := by decide +kernel
theorem dX1_costOfAll_17 : decode cX1_costOfAll 17 = .ok (.if_icmp .ge 35, 3) := by decide +kernel
theorem dX1_costOfAll_20 : decode cX1_costOfAll 20 = .ok (.iload_n 1, 1) := by decide +kernel
theorem dX1_costOfAll_21 : decode cX1_costOfAll 21 = .ok (.aload_n 0, 1) := by decide +kernel
theorem dX1_costOfAll_22 : decode cX1_costOfAll 22 = .ok (.iload_n 3, 1) := by decide +kernel
theorem dX1_costOfAll_23 : decode cX1_costOfAll 23 = .ok (.aload_n 0, 1) := by decide +kernel
theorem dX1_costOfAll_24 : decode cX1_costOfAll 24 = .ok (.aload_n 0, 1) := by decide +kernel
theorem dX1_costOfAll_25 : decode cX1_costOfAll 25 = .ok (.getfield 9, 3) := by decide +kernel
theorem dX1_costOfAll_28 : decode cX1_costOfAll 28 = .ok (.iload_n 3, 1) := by decide +kernel
theorem dX1_costOfAll_29 : decode cX1_costOfAll 29 = .ok (.iaload, 1) := by decide +kernel
theorem dX1_costOfAll_30 : decode cX1_costOfAll 30 = .ok (.iload_n 2, 1) := by decide +kernel
theorem dX1_costOfAll_31 : decode cX1_costOfAll 31 = .ok (.invokevirtual 74, 3) := by decide +kernel
theorem dX1_costOfAll_34 : decode cX1_costOfAll 34 = .ok (.invokevirtual 70, 3) := by decide +kernel
theorem dX1_costOfAll_37 : decode cX1_costOfAll 37 = .ok (.iadd, 1) := by decide +kernel
theorem dX1_costOfAll_38 : decode cX1_costOfAll 38 = .ok (.istore_n 1, 1) := by decide +kernel
theorem dX1_costOfAll_39 : decode cX1_costOfAll 39 = .ok (.aload_n 0, 1) := by decide +kernel
theorem dX1_costOfAll_40 : decode cX1_costOfAll 40 = .ok (.iload_n 3, 1) := by decide +kernel
theorem dX1_costOfAll_41 : decode cX1_costOfAll 41 = .ok (.iload_n 2, 1) := by decide +kernel
theorem dX1_costOfAll_42 : decode cX1_costOfAll 42 = .ok (.invokevirtual 77, 3) := by decide +kernel
theorem dX1_costOfAll_45 : decode cX1_costOfAll 45 = .ok (.istore_n 2, 1) := by decide +kernel
theorem dX1_costOfAll_46 : decode cX1_costOfAll 46 = .ok (.iinc 3 1, 3) := by decide +kernel
theorem dX1_costOfAll_49 : decode cX1_costOfAll 49 = .ok (.goto (-40), 3) := by decide +kernel
theorem dX1_costOfAll_52 : decode cX1_costOfAll 52 = .ok (.iload_n 1, 1) := by decide +kernel
theorem dX1_costOfAll_53 : decode cX1_costOfAll 53 = .ok (.ireturn, 1) := by decide +kernel
set_option maxHeartbeats 4000000 in
set_option maxRecDepth 100000 in
theorem x_costOfAll (l : Launch) (D : va_G) (k : Nat → ClassId) (st : Nat → Nat) (lo : Nat) (c0 : Nat) (z0 : Nat) (z1 : Nat) (z2 : Nat) (z3 : Nat) (pn : Nat) (pf : Int32) (pd : Int32) (pe : Int32) (pb : Nat → Nat) (pco : Nat → Int32) (c1 : Nat) (c2 : Nat) (cc : Nat) (rz : Nat) (ro : Int32) (sd : Int32) (hpn : pn ≤ 24) (hcc : cc ≤ 4) (hpb : ∀ j, pb j ≤ 24) : CRi l D k st lo yX1_costOfAll cX1_costOfAll 4 (some .int) ({ frames := 2, cells := 0, slots := 0, locals := 45 }) [.ref z0] [(z0, .inr (1, (fX1 c0 z1 z2 z3 (nI pn) pf pd pe))), (aI k z1 4 (nF pb)), (aI k z2 100 pco), (c0, .inr (4, (fX4 c1 c2 (nI cc) (nI rz) ro sd)))] (fun _ => True) := by
  intro sz
  refine Met.ofW (cc := cX1_costOfAll) (maxL := 4) (ret := (some .int)) (by decide) rfl ?_
  intro p e s m args below meth c s₁ B hml hv
  obtain ⟨rfl, hsz, hlo, hP, hK, hDL, hZ⟩ := hv
  have hx := B.exec
  have hb := B.bytes
  have hr := B.returns
  have hts := WS_ts B.pre
  have hown : s.vm.findClass RX1 = some m.cls := findClass_of_methodNamed B.named
  have hlocks := B.notSynchronized
  subst hsz
  have hA : ∀ q : Nat, s.heap.size ≤ q → (fun q : Nat => s.heap.size ≤ q) q := fun _ h => h
  have hAlo : ∀ q : Nat, (fun q : Nat => s.heap.size ≤ q) q → lo ≤ q := fun q h => Nat.le_trans hlo h
  have hS : va_S (fun q : Nat => s.heap.size ≤ q) s.heap s.heap [] := va_S.rf
  have hl := lv_entry ([.ref z0]) (n := 4) (Nat.le_of_ble_eq_true rfl)
  rw [lg_entry_eq]
  generalize (lg_sl ([.ref z0]) ++ List.replicate (4 - (lg_sl ([.ref z0])).length) Slot.unset).toArray = ls at hl ⊢
  have hl : lv_has ls 4 [(0, .ref z0)] := hl
  refine lv_iconst (v := 0) hx hb dX1_costOfAll_0 (by decide) ?_
  refine lv_istore_n (lv' := [(1, .int 0), (0, .ref z0)]) hx hb dX1_costOfAll_1 rfl hl (by decide) rfl (fun ls hl => ?_)
  refine lv_aload_n hx hb dX1_costOfAll_2 rfl (lv_at hl 1 rfl) ?_
  refine va_get (D := D) (ci := 1) (v := .int pf) (C := RX1) (T := TX1) (N := 8) hx hb hts inX1 hown hK hP 0 rfl rfl 5 (by decide) (hts _ tw_241) (fun _ h9 => h9) rfl dX1_costOfAll_3 ?_
  refine lv_istore_n (lv' := [(2, .int pf), (1, .int 0), (0, .ref z0)]) hx hb dX1_costOfAll_6 rfl hl (by decide) rfl (fun ls hl => ?_)
  refine lv_iconst (v := 0) hx hb dX1_costOfAll_7 (by decide) ?_
  refine lv_istore_n (lv' := [(3, .int 0), (2, .int pf), (1, .int 0), (0, .ref z0)]) hx hb dX1_costOfAll_8 rfl hl (by decide) rfl (fun ls hl => ?_)
  refine W_loop (σ := Nat × Int32 × Int32) (fun (n_ : Nat) (x_ : Nat × Int32 × Int32) (H : Heap) (locs : List Loc) (ls : Array Slot) => match x_ with | (cn2_1, al_1, lf_1) => n_ = 5 - cn2_1 ∧ (cn2_1 ≤ 4) ∧ va_P D classes [(z0, .inr (1, (fX1 c0 z1 z2 z3 (nI pn) pf pd pe))), (aI k z1 4 (nF pb)), (aI k z2 100 pco), (c0, .inr (4, (fX4 c1 c2 (nI cc) (nI rz) ro sd)))] H ∧ va_S (fun q : Nat => s.heap.size ≤ q) s.heap H locs ∧ lv_has ls 4 [(3, .int (nI cn2_1)), (2, .int lf_1), (1, .int al_1), (0, .ref z0)]) (fun n_1 x_1 H locs ls hI ih_1 => ?_) _ (0, 0, pf) ⟨rfl, (by omega), hP, hS, (lv_sub hl [0, 1, 2, 3] rfl)⟩
  obtain ⟨cn2_1, al_1, lf_1⟩ := x_1
  obtain ⟨hm_1, hv_1, hP, hS, hl⟩ := hI
  subst hm_1
  refine lv_iload_n hx hb dX1_costOfAll_9 rfl (lv_at hl 0 rfl) ?_
  refine lv_aload_n hx hb dX1_costOfAll_10 rfl (lv_at hl 3 rfl) ?_
  refine va_get (D := D) (ci := 1) (v := .ref c0) (C := RX1) (T := TX1) (N := 8) hx hb hts inX1 hown hK hP 0 rfl rfl 0 (by decide) (hts _ tw_235) (fun _ h9 => h9) rfl dX1_costOfAll_11 ?_
  refine va_get (D := D) (ci := 4) (v := .int (nI cc)) (C := RX4) (T := TX4) (N := 6) hx hb hts inX4 hown hK hP 3 rfl rfl 2 (by decide) (hts _ tw_179) (fun _ h9 => h9) rfl dX1_costOfAll_14 ?_
  refine lv_icmp_ge (tgt := 52) hx hb dX1_costOfAll_17 (by decide) (fun c_2 => ?_) (fun c_2 => ?_)
  · have c_2 := (nI_leI (a := cc) (b := cn2_1) (by omega) (by omega)).mp c_2
    refine lv_iload_n hx hb dX1_costOfAll_52 rfl (lv_at hl 2 rfl) ?_
    exact W.iret (v := al_1) hx hb hr (fun t ht hW => ⟨⟨al_1, (), rfl, trivial, trivial⟩, hS.F ht⟩) hS.2.2 dX1_costOfAll_53
  · have c_2 : ¬ (cc ≤ cn2_1) := fun h => c_2 ((nI_leI (a := cc) (b := cn2_1) (by omega) (by omega)).mpr h)
    refine lv_iload_n hx hb dX1_costOfAll_20 rfl (lv_at hl 2 rfl) ?_
    refine lv_aload_n hx hb dX1_costOfAll_21 rfl (lv_at hl 3 rfl) ?_
    refine lv_iload_n hx hb dX1_costOfAll_22 rfl (lv_at hl 0 rfl) ?_
    refine lv_aload_n hx hb dX1_costOfAll_23 rfl (lv_at hl 3 rfl) ?_
    refine lv_aload_n hx hb dX1_costOfAll_24 rfl (lv_at hl 3 rfl) ?_
    refine va_get (D := D) (ci := 1) (v := .ref z1) (C := RX1) (T := TX1) (N := 8) hx hb hts inX1 hown hK hP 0 rfl rfl 1 (by decide) (hts _ tw_236) (fun _ h9 => h9) rfl dX1_costOfAll_25 ?_
    refine lv_iload_n hx hb dX1_costOfAll_28 rfl (lv_at hl 0 rfl) ?_
    refine va_iald hx hb hK hP 1 1 rfl rfl (vp_in_nI (by omega) (by decide)) dX1_costOfAll_29 ?_
    have hq_3 := hpb cn2_1
    refine lv_ti (y := (nI (pb cn2_1))) (by rw [nI_clamp (by omega)]; rfl) ?_
    refine lv_iload_n hx hb dX1_costOfAll_30 rfl (lv_at hl 1 rfl) ?_
    refine ro_i (D := D) (va_runV (As := [.int (nI (pb cn2_1)), .int lf_1]) (rest := [.int (nI cn2_1), .ref z0, .int al_1]) ⟨hx, hb, hml, hown, hts⟩ ((x_placeFrom l D k st lo c0 z0 z1 z2 z3 pn pf pd pe (pb cn2_1) lf_1 (by omega) (by omega)) H.size) (cwV 2 hts (gV tw_838 tw_840 tw_20 tw_84 tw_841) rfl rfl rfl (by decide +kernel) ⟨Nat.le_of_ble_eq_true rfl, Nat.le_of_ble_eq_true rfl⟩) (pV hS hAlo hlo hP hK hDL hZ [0] (by decide) rfl (ci := 1) (q := (RX1, TX1, 8)) (q0 := 0) rfl rfl) rfl rfl hl.1 rfl (lv_room (Nat.le_of_ble_eq_true rfl)) dX1_costOfAll_31 ⟨Nat.le_of_ble_eq_true rfl, Nat.le_of_ble_eq_true rfl⟩) hS hA hP (fun r_4 H locs hw_4 hP hS => ?_)
    try dsimp only at hw_4
    obtain ⟨zp_5, hzp_5, rfl⟩ := hw_4
    refine ro_i (D := D) (va_runV (As := [.int (nI cn2_1), .int (nI zp_5)]) (rest := [.int al_1]) ⟨hx, hb, hml, hown, hts⟩ ((x_costAt l D k st lo c0 z0 z1 z2 z3 pn pf pd pe pco cn2_1 zp_5 (by omega) (by omega)) H.size) (cwV 2 hts (gV tw_866 tw_843 tw_844 tw_84 tw_845) rfl rfl rfl (by decide +kernel) ⟨Nat.le_of_ble_eq_true rfl, Nat.le_of_ble_eq_true rfl⟩) (pV hS hAlo hlo hP hK hDL hZ [0, 2] (by decide) rfl (ci := 1) (q := (RX1, TX1, 8)) (q0 := 0) rfl rfl) rfl rfl hl.1 rfl (lv_room (Nat.le_of_ble_eq_true rfl)) dX1_costOfAll_34 ⟨Nat.le_of_ble_eq_true rfl, Nat.le_of_ble_eq_true rfl⟩) hS hA hP (fun r_6 H locs hw_6 hP hS => ?_)
    try dsimp only at hw_6
    refine lv_iadd hx hb dX1_costOfAll_37 ?_
    refine lv_topi (fun x_7 ex_7 => ?_)
    refine lv_istore_n (lv' := [(1, .int x_7), (3, .int (nI cn2_1)), (2, .int lf_1), (0, .ref z0)]) hx hb dX1_costOfAll_38 rfl hl (by decide) rfl (fun ls hl => ?_)
    refine lv_aload_n hx hb dX1_costOfAll_39 rfl (lv_at hl 3 rfl) ?_
    refine lv_iload_n hx hb dX1_costOfAll_40 rfl (lv_at hl 1 rfl) ?_
    refine lv_iload_n hx hb dX1_costOfAll_41 rfl (lv_at hl 2 rfl) ?_
    refine ro_i (D := D) (va_runV (As := [.int (nI cn2_1), .int lf_1]) (rest := []) ⟨hx, hb, hml, hown, hts⟩ ((x_leftBehind l D k st lo c0 z0 z1 z2 z3 pn pf pd pe pb cn2_1 lf_1 (by omega) (by omega) hpb) H.size) (cwV 2 hts (gV tw_834 tw_836 tw_19 tw_84 tw_837) rfl rfl rfl (by decide +kernel) ⟨Nat.le_of_ble_eq_true rfl, Nat.le_of_ble_eq_true rfl⟩) (pV hS hAlo hlo hP hK hDL hZ [0, 1] (by decide) rfl (ci := 1) (q := (RX1, TX1, 8)) (q0 := 0) rfl rfl) rfl rfl hl.1 rfl (lv_room (Nat.le_of_ble_eq_true rfl)) dX1_costOfAll_42 ⟨Nat.le_of_ble_eq_true rfl, Nat.le_of_ble_eq_true rfl⟩) hS hA hP (fun r_8 H locs hw_8 hP hS => ?_)
    try dsimp only at hw_8
    refine lv_istore_n (lv' := [(2, .int r_8), (1, .int x_7), (3, .int (nI cn2_1)), (0, .ref z0)]) hx hb dX1_costOfAll_45 rfl hl (by decide) rfl (fun ls hl => ?_)
    refine lv_iinc (v := (nI (cn2_1 + 1))) (lv' := [(3, .int (nI (cn2_1 + 1))), (2, .int r_8), (1, .int x_7), (0, .ref z0)]) hx hb dX1_costOfAll_46 hl (k := 2) rfl (nI_add cn2_1 1) (by decide) rfl (fun ls hl => ?_)
    refine lv_goto (tgt := 9) hx hb dX1_costOfAll_49 (by decide) ?_
    exact ih_1 _ (cn2_1 + 1, x_7, r_8) _ _ _ (by omega) ⟨rfl, (by omega), hP, hS, (lv_sub hl [0, 1, 2, 3] rfl)⟩

theorem dX1_giveDoor_0 : decode cX1_giveDoor 0 = .ok (.iload_n 2, 1) := by decide +kernel
theorem dX1_giveDoor_1 : decode cX1_giveDoor 1 = .ok (.iconst 1, 1) := by decide +kernel
theorem dX1_giveDoor_2 : decode cX1_giveDoor 2 = .ok (.isub, 1) := by decide +kernel
theorem dX1_giveDoor_3 : decode cX1_giveDoor 3 = .ok (.istore_n 3, 1) := by decide +kernel
theorem dX1_giveDoor_4 : decode cX1_giveDoor 4 = .ok (.iload_n 3, 1) := by decide +kernel
theorem dX1_giveDoor_5 : decode cX1_giveDoor 5 = .ok (.ifCond .le 90, 3) := by decide +kernel
theorem dX1_giveDoor_8 : decode cX1_giveDoor 8 = .ok (.iconst 0, 1) := by decide +kernel
theorem dX1_giveDoor_9 : decode cX1_giveDoor 9 = .ok (.istore 4, 2) := by decide +kernel
theorem dX1_giveDoor_11 : decode cX1_giveDoor 11 = .ok (.iload 4, 2) := by decide +kernel
theorem dX1_giveDoor_13 : decode cX1_giveDoor 13 = .ok (.aload_n 0, 1) := by decide +kernel
theorem dX1_giveDoor_14 : decode cX1_giveDoor 14 = .ok (.getfield 34, 3) := by decide +kernel
theorem dX1_giveDoor_17 : decode cX1_giveDoor 17 = .ok (.getfield 53, 3) := by decide +kernel
theorem dX1_giveDoor_20 : decode cX1_giveDoor 20 = .ok (.if_icmp .ge 69, 3) := by decide +kernel
theorem dX1_giveDoor_23 : decode cX1_giveDoor 23 = .ok (.iload_n 3, 1) := by decide +kernel
theorem dX1_giveDoor_24 : decode cX1_giveDoor 24 = .ok (.iload 4, 2) := by decide +kernel
theorem dX1_giveDoor_26 : decode cX1_giveDoor 26 = .ok (.ishr, 1) := by decide +kernel
theorem dX1_giveDoor_27 : decode cX1_giveDoor 27 = .ok (.iconst 1, 1) := by decide +kernel
theorem dX1_giveDoor_28 : decode cX1_giveDoor 28 = .ok (.iand, 1) := by decide +kernel
theorem dX1_giveDoor_29 : decode cX1_giveDoor 29 = .ok (.ifCond .eq 54, 3) := by decide +kernel
theorem dX1_giveDoor_32 : decode cX1_giveDoor 32 = .ok (.aload_n 0, 1) := by decide +kernel
theorem dX1_giveDoor_33 : decode cX1_giveDoor 33 = .ok (.getfield 18, 3) := by decide +kernel
theorem dX1_giveDoor_36 : decode cX1_giveDoor 36 = .ok (.iload_n 3, 1) := by decide +kernel
theorem dX1_giveDoor_37 : decode cX1_giveDoor 37 = .ok (.iconst 1, 1) := by decide +kernel
theorem dX1_giveDoor_38 : decode cX1_giveDoor 38 = .ok (.iload 4, 2) := by decide +kernel
theorem dX1_giveDoor_40 : decode cX1_giveDoor 40 = .ok (.ishl, 1) := by decide +kernel
theorem dX1_giveDoor_41 : decode cX1_giveDoor 41 = .ok (.iconst (-1), 1) := by decide +kernel
theorem dX1_giveDoor_42 : decode cX1_giveDoor 42 = .ok (.ixor, 1) := by decide +kernel
theorem dX1_giveDoor_43 : decode cX1_giveDoor 43 = .ok (.iand, 1) := by decide +kernel
theorem dX1_giveDoor_44 : decode cX1_giveDoor 44 = .ok (.iaload, 1) := by decide +kernel
theorem dX1_giveDoor_45 : decode cX1_giveDoor 45 = .ok (.aload_n 0, 1) := by decide +kernel
theorem dX1_giveDoor_46 : decode cX1_giveDoor 46 = .ok (.iload 4, 2) := by decide +kernel
theorem dX1_giveDoor_48 : decode cX1_giveDoor 48 = .ok (.iload_n 1, 1) := by decide +kernel
theorem dX1_giveDoor_49 : decode cX1_giveDoor 49 = .ok (.invokevirtual 70, 3) := by decide +kernel
theorem dX1_giveDoor_52 : decode cX1_giveDoor 52 = .ok (.iadd, 1) := by decide +kernel
theorem dX1_giveDoor_53 : decode cX1_giveDoor 53 = .ok (.aload_n 0, 1) := by decide +kernel
theorem dX1_giveDoor_54 : decode cX1_giveDoor 54 = .ok (.iload 4, 2) := by decide +kernel
theorem dX1_giveDoor_56 : decode cX1_giveDoor 56 = .ok (.aload_n 0, 1) := by decide +kernel
theorem dX1_giveDoor_57 : decode cX1_giveDoor 57 = .ok (.getfield 21, 3) := by decide +kernel
theorem dX1_giveDoor_60 : decode cX1_giveDoor 60 = .ok (.invokevirtual 70, 3) := by decide +kernel
theorem dX1_giveDoor_63 : decode cX1_giveDoor 63 = .ok (.isub, 1) := by decide +kernel
theorem dX1_giveDoor_64 : decode cX1_giveDoor 64 = .ok (.istore 5, 2) := by decide +kernel
theorem dX1_giveDoor_66 : decode cX1_giveDoor 66 = .ok (.aload_n 0, 1) := by decide +kernel
theorem dX1_giveDoor_67 : decode cX1_giveDoor 67 = .ok (.getfield 18, 3) := by decide +kernel
theorem dX1_giveDoor_70 : decode cX1_giveDoor 70 = .ok (.iload_n 3, 1) := by decide +kernel
theorem dX1_giveDoor_71 : decode cX1_giveDoor 71 = .ok (.aload_n 0, 1) := by decide +kernel
theorem dX1_giveDoor_72 : decode cX1_giveDoor 72 = .ok (.getfield 18, 3) := by decide +kernel
theorem dX1_giveDoor_75 : decode cX1_giveDoor 75 = .ok (.iload_n 3, 1) := by decide +kernel
theorem dX1_giveDoor_76 : decode cX1_giveDoor 76 = .ok (.iaload, 1) := by decide +kernel
theorem dX1_giveDoor_77 : decode cX1_giveDoor 77 = .ok (.iload 5, 2) := by decide +kernel
theorem dX1_giveDoor_79 : decode cX1_giveDoor 79 = .ok (.invokestatic 97, 3) := by decide +kernel
theorem dX1_giveDoor_82 : decode cX1_giveDoor 82 = .ok (.iastore, 1) := by decide +kernel
theorem dX1_giveDoor_83 : decode cX1_giveDoor 83 = .ok (.iinc 4 1, 3) := by decide +kernel
theorem dX1_giveDoor_86 : decode cX1_giveDoor 86 = .ok (.goto (-75), 3) := by decide +kernel
theorem dX1_giveDoor_89 : decode cX1_giveDoor 89 = .ok (.iinc 3 (-1), 3) := by decide +kernel
theorem dX1_giveDoor_92 : decode cX1_giveDoor 92 = .ok (.goto (-88), 3) := by decide +kernel
theorem dX1_giveDoor_95 : decode cX1_giveDoor 95 = .ok (.return_, 1) := by decide +kernel
set_option maxHeartbeats 4000000 in
set_option maxRecDepth 100000 in
theorem x_giveDoor (l : Launch) (D : va_G) (k : Nat → ClassId) (st : Nat → Nat) (lo : Nat) (c0 : Nat) (z0 : Nat) (z1 : Nat) (z2 : Nat) (z3 : Nat) (pn : Nat) (pf : Int32) (pd : Int32) (pe : Int32) (pco : Nat → Int32) (pg : Nat → Int32) (c1 : Nat) (c2 : Nat) (cc : Nat) (rz : Nat) (ro : Int32) (sd : Int32) (i : Nat) (se : Nat) (hpn : pn ≤ 24) (hcc : cc ≤ 4) (hi : i < 24) (hse : 1 ≤ se ∧ se ≤ 16) : CWv l D k st lo yX1_giveDoor cX1_giveDoor 6 none ({ frames := 1, cells := 0, slots := 0, locals := 60 }) 0 0 [.ref z0, .int (nI i), .int (nI se)] [(z0, .inr (1, (fX1 c0 z1 z2 z3 (nI pn) pf pd pe))), (aI k z2 100 pco), (aI k z3 16 pg), (c0, .inr (4, (fX4 c1 c2 (nI cc) (nI rz) ro sd)))] (fun (pg_ : (Nat → Int32)) => True) (fun (pg_ : (Nat → Int32)) => [(z0, .inr (1, (fX1 c0 z1 z2 z3 (nI pn) pf pd pe))), (aI k z2 100 pco), (aI k z3 16 pg_), (c0, .inr (4, (fX4 c1 c2 (nI cc) (nI rz) ro sd)))]) := by
  intro sz
  refine Met.ofW (cc := cX1_giveDoor) (maxL := 6) (ret := none) (by decide) rfl ?_
  intro p e s m args below meth c s₁ B hml hv
  obtain ⟨rfl, hsz, hlo, hP, hK, hDL, hZ⟩ := hv
  have hx := B.exec
  have hb := B.bytes
  have hr := B.returns
  have hts := WS_ts B.pre
  have hown : s.vm.findClass RX1 = some m.cls := findClass_of_methodNamed B.named
  have hlocks := B.notSynchronized
  subst hsz
  have hD := hDL.self (sz := s.heap.size)
  have hAlo := A_lo hDL hlo
  generalize hAe : va_A [(z0, .inr (1, (fX1 c0 z1 z2 z3 (nI pn) pf pd pe))), (aI k z2 100 pco), (aI k z3 16 pg), (c0, .inr (4, (fX4 c1 c2 (nI cc) (nI rz) ro sd)))] s.heap.size = A at hD hAlo ⊢
  have hA : ∀ q : Nat, s.heap.size ≤ q → A q := fun q h => by rw [← hAe]; exact Or.inr h
  have hS : va_S A s.heap s.heap [] := va_S.rf
  have hl := lv_entry ([.ref z0, .int (nI i), .int (nI se)]) (n := 6) (Nat.le_of_ble_eq_true rfl)
  rw [lg_entry_eq]
  generalize (lg_sl ([.ref z0, .int (nI i), .int (nI se)]) ++ List.replicate (6 - (lg_sl ([.ref z0, .int (nI i), .int (nI se)])).length) Slot.unset).toArray = ls at hl ⊢
  have hl : lv_has ls 6 [(0, .ref z0), (1, .int (nI i)), (2, .int (nI se))] := hl
  refine lv_iload_n hx hb dX1_giveDoor_0 rfl (lv_at hl 2 rfl) ?_
  refine lv_iconst (v := 1) hx hb dX1_giveDoor_1 (by decide) ?_
  refine lv_isub hx hb dX1_giveDoor_2 ?_
  refine lv_ti (y := (nI (se - 1))) (pk_sub (a := se) (b := 1) (by omega)) ?_
  refine lv_istore_n (lv' := [(3, .int (nI (se - 1))), (0, .ref z0), (1, .int (nI i)), (2, .int (nI se))]) hx hb dX1_giveDoor_3 rfl hl (by decide) rfl (fun ls hl => ?_)
  refine W_loop (σ := Nat × (Nat → Int32)) (fun (n_ : Nat) (x_ : Nat × (Nat → Int32)) (H : Heap) (locs : List Loc) (ls : Array Slot) => match x_ with | (sx_1, pg2_1) => n_ = 2 * sx_1 ∧ (sx_1 ≤ 15) ∧ va_P D classes [(z0, .inr (1, (fX1 c0 z1 z2 z3 (nI pn) pf pd pe))), (aI k z2 100 pco), (aI k z3 16 pg2_1), (c0, .inr (4, (fX4 c1 c2 (nI cc) (nI rz) ro sd)))] H ∧ va_D A [(z0, .inr (1, (fX1 c0 z1 z2 z3 (nI pn) pf pd pe))), (aI k z2 100 pco), (aI k z3 16 pg2_1), (c0, .inr (4, (fX4 c1 c2 (nI cc) (nI rz) ro sd)))] ∧ va_S A s.heap H locs ∧ lv_has ls 6 [(3, .int (nI sx_1)), (0, .ref z0), (1, .int (nI i)), (2, .int (nI se))]) (fun n_1 x_1 H locs ls hI ih_1 => ?_) _ (se - 1, pg) ⟨rfl, (by omega), hP, hD, hS, (lv_sub hl [0, 1, 2, 3] rfl)⟩
  obtain ⟨sx_1, pg2_1⟩ := x_1
  obtain ⟨hm_1, hv_1, hP, hD, hS, hl⟩ := hI
  subst hm_1
  refine lv_iload_n hx hb dX1_giveDoor_4 rfl (lv_at hl 0 rfl) ?_
  refine lv_if_le (tgt := 95) hx hb dX1_giveDoor_5 (by decide) (fun c_2 => ?_) (fun c_2 => ?_)
  · have c_2 := (nI_leI (a := sx_1) (b := 0) (by omega) (by omega)).mp c_2
    have hP9 := hP.sub (ws' := [(z0, .inr (1, (fX1 c0 z1 z2 z3 (nI pn) pf pd pe))), (aI k z2 100 pco), (aI k z3 16 pg2_1), (c0, .inr (4, (fX4 c1 c2 (nI cc) (nI rz) ro sd)))]) [0, 1, 2, 3] rfl
    have hD9 := hD.sub (ws' := [(z0, .inr (1, (fX1 c0 z1 z2 z3 (nI pn) pf pd pe))), (aI k z2 100 pco), (aI k z3 16 pg2_1), (c0, .inr (4, (fX4 c1 c2 (nI cc) (nI rz) ro sd)))]) [0, 1, 2, 3] (by decide) rfl
    exact W.vret hx hb hr (fun t ht hW => ⟨⟨pg2_1, rfl, trivial, by rw [ht]; exact hP9, hD9⟩, hS.F ht⟩) hS.2.2 dX1_giveDoor_95
  · have c_2 : ¬ (sx_1 ≤ 0) := fun h => c_2 ((nI_leI (a := sx_1) (b := 0) (by omega) (by omega)).mpr h)
    refine lv_iconst (v := 0) hx hb dX1_giveDoor_8 (by decide) ?_
    refine lv_istore (lv' := [(4, .int 0), (3, .int (nI sx_1)), (0, .ref z0), (1, .int (nI i)), (2, .int (nI se))]) hx hb dX1_giveDoor_9 hl (by decide) rfl (fun ls hl => ?_)
    refine W_loop (σ := Nat × (Nat → Int32)) (fun (n_ : Nat) (x_ : Nat × (Nat → Int32)) (H : Heap) (locs : List Loc) (ls : Array Slot) => match x_ with | (cn2_3, pg2_3) => n_ = 5 - cn2_3 ∧ (cn2_3 ≤ 4) ∧ va_P D classes [(z0, .inr (1, (fX1 c0 z1 z2 z3 (nI pn) pf pd pe))), (aI k z2 100 pco), (aI k z3 16 pg2_3), (c0, .inr (4, (fX4 c1 c2 (nI cc) (nI rz) ro sd)))] H ∧ va_D A [(z0, .inr (1, (fX1 c0 z1 z2 z3 (nI pn) pf pd pe))), (aI k z2 100 pco), (aI k z3 16 pg2_3), (c0, .inr (4, (fX4 c1 c2 (nI cc) (nI rz) ro sd)))] ∧ va_S A s.heap H locs ∧ lv_has ls 6 [(4, .int (nI cn2_3)), (3, .int (nI sx_1)), (0, .ref z0), (1, .int (nI i)), (2, .int (nI se))]) (fun n_3 x_3 H locs ls hI ih_3 => ?_) _ (0, pg2_1) ⟨rfl, (by omega), hP, hD, hS, (lv_sub hl [0, 1, 2, 3, 4] rfl)⟩
    obtain ⟨cn2_3, pg2_3⟩ := x_3
    obtain ⟨hm_3, hv_3, hP, hD, hS, hl⟩ := hI
    subst hm_3
    refine lv_iload hx hb dX1_giveDoor_11 (lv_at hl 0 rfl) ?_
    refine lv_aload_n hx hb dX1_giveDoor_13 rfl (lv_at hl 2 rfl) ?_
    refine va_get (D := D) (ci := 1) (v := .ref c0) (C := RX1) (T := TX1) (N := 8) hx hb hts inX1 hown hK hP 0 rfl rfl 0 (by decide) (hts _ tw_235) (fun _ h9 => h9) rfl dX1_giveDoor_14 ?_
    refine va_get (D := D) (ci := 4) (v := .int (nI cc)) (C := RX4) (T := TX4) (N := 6) hx hb hts inX4 hown hK hP 3 rfl rfl 2 (by decide) (hts _ tw_179) (fun _ h9 => h9) rfl dX1_giveDoor_17 ?_
    refine lv_icmp_ge (tgt := 89) hx hb dX1_giveDoor_20 (by decide) (fun c_4 => ?_) (fun c_4 => ?_)
    · have c_4 := (nI_leI (a := cc) (b := cn2_3) (by omega) (by omega)).mp c_4
      refine lv_iinc (v := (nI (sx_1 - 1))) (lv' := [(3, .int (nI (sx_1 - 1))), (4, .int (nI cn2_3)), (0, .ref z0), (1, .int (nI i)), (2, .int (nI se))]) hx hb dX1_giveDoor_89 hl (k := 1) rfl (by rw [dn1]; exact pk_sub (a := sx_1) (b := 1) (by omega)) (by decide) rfl (fun ls hl => ?_)
      refine lv_goto (tgt := 4) hx hb dX1_giveDoor_92 (by decide) ?_
      exact ih_1 _ (sx_1 - 1, pg2_3) _ _ _ (by omega) ⟨rfl, (by omega), hP, hD, hS, (lv_sub hl [0, 2, 3, 4] rfl)⟩
    · have c_4 : ¬ (cc ≤ cn2_3) := fun h => c_4 ((nI_leI (a := cc) (b := cn2_3) (by omega) (by omega)).mpr h)
      refine lv_iload_n hx hb dX1_giveDoor_23 rfl (lv_at hl 1 rfl) ?_
      refine lv_iload hx hb dX1_giveDoor_24 (lv_at hl 0 rfl) ?_
      refine lv_ishr hx hb dX1_giveDoor_26 ?_
      refine lv_topi (fun x_5 ex_5 => ?_)
      refine lv_iconst (v := 1) hx hb dX1_giveDoor_27 (by decide) ?_
      refine lv_iand hx hb dX1_giveDoor_28 ?_
      refine lv_topi (fun x_6 ex_6 => ?_)
      refine lv_if_eq (tgt := 83) hx hb dX1_giveDoor_29 (by decide) (fun c_7 => ?_) (fun c_7 => ?_)
      · refine lv_iinc (v := (nI (cn2_3 + 1))) (lv' := [(4, .int (nI (cn2_3 + 1))), (3, .int (nI sx_1)), (0, .ref z0), (1, .int (nI i)), (2, .int (nI se))]) hx hb dX1_giveDoor_83 hl (k := 0) rfl (nI_add cn2_3 1) (by decide) rfl (fun ls hl => ?_)
        refine lv_goto (tgt := 11) hx hb dX1_giveDoor_86 (by decide) ?_
        exact ih_3 _ (cn2_3 + 1, pg2_3) _ _ _ (by omega) ⟨rfl, (by omega), hP, hD, hS, (lv_sub hl [0, 1, 2, 3, 4] rfl)⟩
      · refine lv_aload_n hx hb dX1_giveDoor_32 rfl (lv_at hl 2 rfl) ?_
        refine va_get (D := D) (ci := 1) (v := .ref z3) (C := RX1) (T := TX1) (N := 8) hx hb hts inX1 hown hK hP 0 rfl rfl 3 (by decide) (hts _ tw_239) (fun _ h9 => h9) rfl dX1_giveDoor_33 ?_
        refine lv_iload_n hx hb dX1_giveDoor_36 rfl (lv_at hl 1 rfl) ?_
        refine lv_iconst (v := 1) hx hb dX1_giveDoor_37 (by decide) ?_
        refine lv_iload hx hb dX1_giveDoor_38 (lv_at hl 0 rfl) ?_
        refine lv_ishl hx hb dX1_giveDoor_40 ?_
        refine lv_topi (fun x_8 ex_8 => ?_)
        refine lv_iconst (v := (-1)) hx hb dX1_giveDoor_41 (by decide) ?_
        refine lv_ixor hx hb dX1_giveDoor_42 ?_
        refine lv_topi (fun x_9 ex_9 => ?_)
        obtain ⟨za_10, hza_10, eza_10⟩ := an16 sx_1 (by omega) cn2_3 (by omega)
        refine lv_iand hx hb dX1_giveDoor_43 ?_
        refine lv_ti (y := (nI za_10)) (by rw [ex_9, ex_8]; exact eza_10) ?_
        refine va_iald hx hb hK hP 2 1 rfl rfl (vp_in_nI (by omega) (by decide)) dX1_giveDoor_44 ?_
        refine lv_ti (y := (pg2_3 za_10)) (by rw [nI_clamp (by omega)]) ?_
        refine lv_aload_n hx hb dX1_giveDoor_45 rfl (lv_at hl 2 rfl) ?_
        refine lv_iload hx hb dX1_giveDoor_46 (lv_at hl 0 rfl) ?_
        refine lv_iload_n hx hb dX1_giveDoor_48 rfl (lv_at hl 3 rfl) ?_
        refine ro_i (D := D) (va_runV (As := [.int (nI cn2_3), .int (nI i)]) (rest := [.int (pg2_3 za_10)]) ⟨hx, hb, hml, hown, hts⟩ ((x_costAt l D k st lo c0 z0 z1 z2 z3 pn pf pd pe pco cn2_3 i (by omega) (by omega)) H.size) (cwV 2 hts (gV tw_866 tw_843 tw_844 tw_84 tw_845) rfl rfl rfl (by decide +kernel) ⟨Nat.le_of_ble_eq_true rfl, Nat.le_of_ble_eq_true rfl⟩) (pV hS hAlo hlo hP hK (va_Dlo hD hAlo) hZ [0, 1] (by decide) rfl (ci := 1) (q := (RX1, TX1, 8)) (q0 := 0) rfl rfl) rfl rfl hl.1 rfl (lv_room (Nat.le_of_ble_eq_true rfl)) dX1_giveDoor_49 ⟨Nat.le_of_ble_eq_true rfl, Nat.le_of_ble_eq_true rfl⟩) hS hA hP (fun r_11 H locs hw_11 hP hS => ?_)
        try dsimp only at hw_11
        refine lv_iadd hx hb dX1_giveDoor_52 ?_
        refine lv_topi (fun x_12 ex_12 => ?_)
        refine lv_aload_n hx hb dX1_giveDoor_53 rfl (lv_at hl 2 rfl) ?_
        refine lv_iload hx hb dX1_giveDoor_54 (lv_at hl 0 rfl) ?_
        refine lv_aload_n hx hb dX1_giveDoor_56 rfl (lv_at hl 2 rfl) ?_
        refine va_get (D := D) (ci := 1) (v := .int (nI pn)) (C := RX1) (T := TX1) (N := 8) hx hb hts inX1 hown hK hP 0 rfl rfl 4 (by decide) (hts _ tw_240) (fun _ h9 => h9) rfl dX1_giveDoor_57 ?_
        refine ro_i (D := D) (va_runV (As := [.int (nI cn2_3), .int (nI pn)]) (rest := [.int x_12]) ⟨hx, hb, hml, hown, hts⟩ ((x_costAt l D k st lo c0 z0 z1 z2 z3 pn pf pd pe pco cn2_3 pn (by omega) (by omega)) H.size) (cwV 2 hts (gV tw_866 tw_843 tw_844 tw_84 tw_845) rfl rfl rfl (by decide +kernel) ⟨Nat.le_of_ble_eq_true rfl, Nat.le_of_ble_eq_true rfl⟩) (pV hS hAlo hlo hP hK (va_Dlo hD hAlo) hZ [0, 1] (by decide) rfl (ci := 1) (q := (RX1, TX1, 8)) (q0 := 0) rfl rfl) rfl rfl hl.1 rfl (lv_room (Nat.le_of_ble_eq_true rfl)) dX1_giveDoor_60 ⟨Nat.le_of_ble_eq_true rfl, Nat.le_of_ble_eq_true rfl⟩) hS hA hP (fun r_13 H locs hw_13 hP hS => ?_)
        try dsimp only at hw_13
        refine lv_isub hx hb dX1_giveDoor_63 ?_
        refine lv_topi (fun x_14 ex_14 => ?_)
        refine lv_istore (lv' := [(5, .int x_14), (4, .int (nI cn2_3)), (3, .int (nI sx_1)), (0, .ref z0), (1, .int (nI i)), (2, .int (nI se))]) hx hb dX1_giveDoor_64 hl (by decide) rfl (fun ls hl => ?_)
        refine lv_aload_n hx hb dX1_giveDoor_66 rfl (lv_at hl 3 rfl) ?_
        refine va_get (D := D) (ci := 1) (v := .ref z3) (C := RX1) (T := TX1) (N := 8) hx hb hts inX1 hown hK hP 0 rfl rfl 3 (by decide) (hts _ tw_239) (fun _ h9 => h9) rfl dX1_giveDoor_67 ?_
        refine lv_iload_n hx hb dX1_giveDoor_70 rfl (lv_at hl 2 rfl) ?_
        refine lv_aload_n hx hb dX1_giveDoor_71 rfl (lv_at hl 3 rfl) ?_
        refine va_get (D := D) (ci := 1) (v := .ref z3) (C := RX1) (T := TX1) (N := 8) hx hb hts inX1 hown hK hP 0 rfl rfl 3 (by decide) (hts _ tw_239) (fun _ h9 => h9) rfl dX1_giveDoor_72 ?_
        refine lv_iload_n hx hb dX1_giveDoor_75 rfl (lv_at hl 2 rfl) ?_
        refine va_iald hx hb hK hP 2 1 rfl rfl (vp_in_nI (by omega) (by decide)) dX1_giveDoor_76 ?_
        refine lv_ti (y := (pg2_3 sx_1)) (by rw [nI_clamp (by omega)]) ?_
        refine lv_iload hx hb dX1_giveDoor_77 (lv_at hl 0 rfl) ?_
        refine va_mmin hx hb (by rw [hml]; exact hl.1.symm) hown (hts _ tw_909) (hts _ tw_529) (hts _ tw_93) (hts _ tw_530) (Nat.le_of_ble_eq_true rfl) (Nat.le_of_ble_eq_true rfl) (Nat.le_of_ble_eq_true rfl) (Nat.le_of_ble_eq_true rfl) dX1_giveDoor_79 ?_
        refine lv_topi (fun x_15 ex_15 => ?_)
        refine va_iast hx hb hK hP hD hS 2 1 rfl rfl (vp_in_nI (by omega) (by decide)) dX1_giveDoor_82 (fun H locs hP hD hS => ?_)
        replace hP : va_P D classes [(z0, .inr (1, (fX1 c0 z1 z2 z3 (nI pn) pf pd pe))), (aI k z2 100 pco), (aI k z3 16 (upd pg2_3 (Int32.toNatClampNeg (nI sx_1)) x_15)), (c0, .inr (4, (fX4 c1 c2 (nI cc) (nI rz) ro sd)))] H := hP
        replace hD : va_D A [(z0, .inr (1, (fX1 c0 z1 z2 z3 (nI pn) pf pd pe))), (aI k z2 100 pco), (aI k z3 16 (upd pg2_3 (Int32.toNatClampNeg (nI sx_1)) x_15)), (c0, .inr (4, (fX4 c1 c2 (nI cc) (nI rz) ro sd)))] := hD
        generalize (upd pg2_3 (Int32.toNatClampNeg (nI sx_1)) x_15) = f_16 at hP hD
        refine lv_iinc (v := (nI (cn2_3 + 1))) (lv' := [(4, .int (nI (cn2_3 + 1))), (5, .int x_14), (3, .int (nI sx_1)), (0, .ref z0), (1, .int (nI i)), (2, .int (nI se))]) hx hb dX1_giveDoor_83 hl (k := 1) rfl (nI_add cn2_3 1) (by decide) rfl (fun ls hl => ?_)
        refine lv_goto (tgt := 11) hx hb dX1_giveDoor_86 (by decide) ?_
        exact ih_3 _ (cn2_3 + 1, f_16) _ _ _ (by omega) ⟨rfl, (by omega), hP, hD, hS, (lv_sub hl [0, 2, 3, 4, 5] rfl)⟩

theorem dX1_leastOfAll_0 : decode cX1_leastOfAll 0 = .ok (.iconst 1, 1) := by decide +kernel
theorem dX1_leastOfAll_1 : decode cX1_leastOfAll 1 = .ok (.aload_n 0, 1) := by decide +kernel
theorem dX1_leastOfAll_2 : decode cX1_leastOfAll 2 = .ok (.getfield 34, 3) := by decide +kernel
theorem dX1_leastOfAll_5 : decode cX1_leastOfAll 5 = .ok (.getfield 53, 3) := by decide +kernel
theorem dX1_leastOfAll_8 : decode cX1_leastOfAll 8 = .ok (.ishl, 1) := by decide +kernel
theorem dX1_leastOfAll_9 : decode cX1_leastOfAll 9 = .ok (.istore_n 1, 1) := by decide +kernel
theorem dX1_leastOfAll_10 : decode cX1_leastOfAll 10 = .ok (.iconst 0, 1) := by decide +kernel
theorem dX1_leastOfAll_11 : decode cX1_leastOfAll 11 = .ok (.istore_n 2, 1) := by decide +kernel
theorem dX1_leastOfAll_12 : decode cX1_leastOfAll 12 = .ok (.iload_n 2, 1) := by decide +kernel
theorem dX1_leastOfAll_13 : decode cX1_leastOfAll 13 = .ok (.iload_n 1, 1) := by decide +kernel
theorem dX1_leastOfAll_14 : decode cX1_leastOfAll 14 = .ok (.if_icmp .ge 53, 3) := by decide +kernel
theorem dX1_leastOfAll_17 : decode cX1_leastOfAll 17 = .ok (.aload_n 0, 1) := by decide +kernel
theorem dX1_leastOfAll_18 : decode cX1_leastOfAll 18 = .ok (.getfield 18, 3) := by decide +kernel
theorem dX1_leastOfAll_21 : decode cX1_leastOfAll 21 = .ok (.iload_n 2, 1) := by decide +kernel
theorem dX1_leastOfAll_22 : decode cX1_leastOfAll 22 = .ok (.iconst 0, 1) := by decide +kernel
theorem dX1_leastOfAll_23 : decode cX1_leastOfAll 23 = .ok (.iastore, 1) := by decide +kernel
theorem dX1_leastOfAll_24 : decode cX1_leastOfAll 24 = .ok (.iconst 0, 1) := by decide +kernel
theorem dX1_leastOfAll_25 : decode cX1_leastOfAll 25 = .ok (.istore_n 3, 1) := by decide +kernel
theorem dX1_leastOfAll_26 : decode cX1_leastOfAll 26 = .ok (.iload_n 3, 1) := by decide +kernel
theorem dX1_leastOfAll_27 : decode cX1_leastOfAll 27 = .ok (.aload_n 0, 1) := by decide +kernel
theorem dX1_leastOfAll_28 : decode cX1_leastOfAll 28 = .ok (.getfield 34, 3) := by decide +kernel
theorem dX1_leastOfAll_31 : decode cX1_leastOfAll 31 = .ok (.getfield 53, 3) := by decide +kernel
theorem dX1_leastOfAll_34 : decode cX1_leastOfAll 34 = .ok (.if_icmp .ge 27, 3) := by decide +kernel
theorem dX1_leastOfAll_37 : decode cX1_leastOfAll 37 = .ok (.aload_n 0, 1) := by decide +kernel
theorem dX1_leastOfAll_38 : decode cX1_leastOfAll 38 = .ok (.getfield 18, 3) := by decide +kernel
theorem dX1_leastOfAll_41 : decode cX1_leastOfAll 41 = .ok (.iload_n 2, 1) := by decide +kernel
theorem dX1_leastOfAll_42 : decode cX1_leastOfAll 42 = .ok (.dup2, 1) := by decide +kernel
theorem dX1_leastOfAll_43 : decode cX1_leastOfAll 43 = .ok (.iaload, 1) := by decide +kernel
theorem dX1_leastOfAll_44 : decode cX1_leastOfAll 44 = .ok (.aload_n 0, 1) := by decide +kernel
theorem dX1_leastOfAll_45 : decode cX1_leastOfAll 45 = .ok (.iload_n 3, 1) := by decide +kernel
theorem dX1_leastOfAll_46 : decode cX1_leastOfAll 46 = .ok (.aload_n 0, 1) := by decide +kernel
theorem dX1_leastOfAll_47 : decode cX1_leastOfAll 47 = .ok (.getfield 21, 3) := by decide +kernel
theorem dX1_leastOfAll_50 : decode cX1_leastOfAll 50 = .ok (.invokevirtual 70, 3) := by decide +kernel
theorem dX1_leastOfAll_53 : decode cX1_leastOfAll 53 = .ok (.iadd, 1) := by decide +kernel
theorem dX1_leastOfAll_54 : decode cX1_leastOfAll 54 = .ok (.iastore, 1) := by decide +kernel
theorem dX1_leastOfAll_55 : decode cX1_leastOfAll 55 = .ok (.iinc 3 1, 3) := by decide +kernel
theorem dX1_leastOfAll_58 : decode cX1_leastOfAll 58 = .ok (.goto (-32), 3) := by decide +kernel
theorem dX1_leastOfAll_61 : decode cX1_leastOfAll 61 = .ok (.iinc 2 1, 3) := by decide +kernel
theorem dX1_leastOfAll_64 : decode cX1_leastOfAll 64 = .ok (.goto (-52), 3) := by decide +kernel
theorem dX1_leastOfAll_67 : decode cX1_leastOfAll 67 = .ok (.iconst 0, 1) := by decide +kernel
theorem dX1_leastOfAll_68 : decode cX1_leastOfAll 68 = .ok (.istore_n 2, 1) := by decide +kernel
theorem dX1_leastOfAll_69 : decode cX1_leastOfAll 69 = .ok (.iload_n 2, 1) := by decide +kernel
theorem dX1_leastOfAll_70 : decode cX1_leastOfAll 70 = .ok (.aload_n 0, 1) := by decide +kernel
theorem dX1_leastOfAll_71 : decode cX1_leastOfAll 71 = .ok (.getfield 21, 3) := by decide +kernel
theorem dX1_leastOfAll_74 : decode cX1_leastOfAll 74 = .ok (.if_icmp .ge 26, 3) := by decide +kernel
theorem dX1_leastOfAll_77 : decode cX1_leastOfAll 77 = .ok (.aload_n 0, 1) := by decide +kernel
theorem dX1_leastOfAll_78 : decode cX1_leastOfAll 78 = .ok (.getfield 25, 3) := by decide +kernel
theorem dX1_leastOfAll_81 : decode cX1_leastOfAll 81 = .ok (.iload_n 2, 1) := by decide +kernel
theorem dX1_leastOfAll_82 : decode cX1_leastOfAll 82 = .ok (.ishr, 1) := by decide +kernel
theorem dX1_leastOfAll_83 : decode cX1_leastOfAll 83 = .ok (.iconst 1, 1) := by decide +kernel
theorem dX1_leastOfAll_84 : decode cX1_leastOfAll 84 = .ok (.iand, 1) := by decide +kernel
theorem dX1_leastOfAll_85 : decode cX1_leastOfAll 85 = .ok (.ifCond .eq 9, 3) := by decide +kernel
theorem dX1_leastOfAll_88 : decode cX1_leastOfAll 88 = .ok (.aload_n 0, 1) := by decide +kernel
theorem dX1_leastOfAll_89 : decode cX1_leastOfAll 89 = .ok (.iload_n 2, 1) := by decide +kernel
theorem dX1_leastOfAll_90 : decode cX1_leastOfAll 90 = .ok (.iload_n 1, 1) := by decide +kernel
theorem dX1_leastOfAll_91 : decode cX1_leastOfAll 91 = .ok (.invokevirtual 93, 3) := by decide +kernel
theorem dX1_leastOfAll_94 : decode cX1_leastOfAll 94 = .ok (.iinc 2 1, 3) := by decide +kernel
theorem dX1_leastOfAll_97 : decode cX1_leastOfAll 97 = .ok (.goto (-28), 3) := by decide +kernel
theorem dX1_leastOfAll_100 : decode cX1_leastOfAll 100 = .ok (.aload_n 0, 1) := by decide +kernel
theorem dX1_leastOfAll_101 : decode cX1_leastOfAll 101 = .ok (.getfield 18, 3) := by decide +kernel
theorem dX1_leastOfAll_104 : decode cX1_leastOfAll 104 = .ok (.iload_n 1, 1) := by decide +kernel
theorem dX1_leastOfAll_105 : decode cX1_leastOfAll 105 = .ok (.iconst 1, 1) := by decide +kernel
theorem dX1_leastOfAll_106 : decode cX1_leastOfAll 106 = .ok (.isub, 1) := by decide +kernel
theorem dX1_leastOfAll_107 : decode cX1_leastOfAll 107 = .ok (.iaload, 1) := by decide +kernel
theorem dX1_leastOfAll_108 : decode cX1_leastOfAll 108 = .ok (.ireturn, 1) := by decide +kernel
set_option maxHeartbeats 4000000 in
set_option maxRecDepth 100000 in
theorem x_leastOfAll (l : Launch) (D : va_G) (k : Nat → ClassId) (st : Nat → Nat) (lo : Nat) (c0 : Nat) (z0 : Nat) (z1 : Nat) (z2 : Nat) (z3 : Nat) (pn : Nat) (pf : Int32) (pd : Int32) (pe : Int32) (pco : Nat → Int32) (pg : Nat → Int32) (c1 : Nat) (c2 : Nat) (cc : Nat) (rz : Nat) (ro : Int32) (sd : Int32) (hpn : pn ≤ 24) (hcc : cc ≤ 4) : CWi l D k st lo yX1_leastOfAll cX1_leastOfAll 4 (some .int) ({ frames := 2, cells := 0, slots := 0, locals := 85 }) 0 0 [.ref z0] [(z0, .inr (1, (fX1 c0 z1 z2 z3 (nI pn) pf pd pe))), (aI k z2 100 pco), (aI k z3 16 pg), (c0, .inr (4, (fX4 c1 c2 (nI cc) (nI rz) ro sd)))] (fun (r : Int32) (pg_ : (Nat → Int32)) => True) (fun (pg_ : (Nat → Int32)) => [(z0, .inr (1, (fX1 c0 z1 z2 z3 (nI pn) pf pd pe))), (aI k z2 100 pco), (aI k z3 16 pg_), (c0, .inr (4, (fX4 c1 c2 (nI cc) (nI rz) ro sd)))]) := by
  intro sz
  refine Met.ofW (cc := cX1_leastOfAll) (maxL := 4) (ret := (some .int)) (by decide) rfl ?_
  intro p e s m args below meth c s₁ B hml hv
  obtain ⟨rfl, hsz, hlo, hP, hK, hDL, hZ⟩ := hv
  have hx := B.exec
  have hb := B.bytes
  have hr := B.returns
  have hts := WS_ts B.pre
  have hown : s.vm.findClass RX1 = some m.cls := findClass_of_methodNamed B.named
  have hlocks := B.notSynchronized
  subst hsz
  have hD := hDL.self (sz := s.heap.size)
  have hAlo := A_lo hDL hlo
  generalize hAe : va_A [(z0, .inr (1, (fX1 c0 z1 z2 z3 (nI pn) pf pd pe))), (aI k z2 100 pco), (aI k z3 16 pg), (c0, .inr (4, (fX4 c1 c2 (nI cc) (nI rz) ro sd)))] s.heap.size = A at hD hAlo ⊢
  have hA : ∀ q : Nat, s.heap.size ≤ q → A q := fun q h => by rw [← hAe]; exact Or.inr h
  have hS : va_S A s.heap s.heap [] := va_S.rf
  have hl := lv_entry ([.ref z0]) (n := 4) (Nat.le_of_ble_eq_true rfl)
  rw [lg_entry_eq]
  generalize (lg_sl ([.ref z0]) ++ List.replicate (4 - (lg_sl ([.ref z0])).length) Slot.unset).toArray = ls at hl ⊢
  have hl : lv_has ls 4 [(0, .ref z0)] := hl
  refine lv_iconst (v := 1) hx hb dX1_leastOfAll_0 (by decide) ?_
  refine lv_aload_n hx hb dX1_leastOfAll_1 rfl (lv_at hl 0 rfl) ?_
  refine va_get (D := D) (ci := 1) (v := .ref c0) (C := RX1) (T := TX1) (N := 8) hx hb hts inX1 hown hK hP 0 rfl rfl 0 (by decide) (hts _ tw_235) (fun _ h9 => h9) rfl dX1_leastOfAll_2 ?_
  refine va_get (D := D) (ci := 4) (v := .int (nI cc)) (C := RX4) (T := TX4) (N := 6) hx hb hts inX4 hown hK hP 3 rfl rfl 2 (by decide) (hts _ tw_179) (fun _ h9 => h9) rfl dX1_leastOfAll_5 ?_
  obtain ⟨pw_1, epw_1⟩ : ∃ z : Nat, z = 2 ^ (cc) := ⟨_, rfl⟩
  have hpw_1 : 1 ≤ pw_1 ∧ pw_1 ≤ 16 := by rw [epw_1]; exact pw16 (by omega)
  refine lv_ishl hx hb dX1_leastOfAll_8 ?_
  refine lv_ti (y := (nI pw_1)) (by rw [epw_1]; exact shl1 cc (by omega)) ?_
  refine lv_istore_n (lv' := [(1, .int (nI pw_1)), (0, .ref z0)]) hx hb dX1_leastOfAll_9 rfl hl (by decide) rfl (fun ls hl => ?_)
  refine lv_iconst (v := 0) hx hb dX1_leastOfAll_10 (by decide) ?_
  refine lv_istore_n (lv' := [(2, .int 0), (1, .int (nI pw_1)), (0, .ref z0)]) hx hb dX1_leastOfAll_11 rfl hl (by decide) rfl (fun ls hl => ?_)
  refine W_loop (σ := Nat × (Nat → Int32)) (fun (n_ : Nat) (x_ : Nat × (Nat → Int32)) (H : Heap) (locs : List Loc) (ls : Array Slot) => match x_ with | (sx_2, pg2_2) => n_ = 17 - sx_2 ∧ (sx_2 ≤ 16) ∧ va_P D classes [(z0, .inr (1, (fX1 c0 z1 z2 z3 (nI pn) pf pd pe))), (aI k z2 100 pco), (aI k z3 16 pg2_2), (c0, .inr (4, (fX4 c1 c2 (nI cc) (nI rz) ro sd)))] H ∧ va_D A [(z0, .inr (1, (fX1 c0 z1 z2 z3 (nI pn) pf pd pe))), (aI k z2 100 pco), (aI k z3 16 pg2_2), (c0, .inr (4, (fX4 c1 c2 (nI cc) (nI rz) ro sd)))] ∧ va_S A s.heap H locs ∧ lv_has ls 4 [(2, .int (nI sx_2)), (1, .int (nI pw_1)), (0, .ref z0)]) (fun n_2 x_2 H locs ls hI ih_2 => ?_) _ (0, pg) ⟨rfl, (by omega), hP, hD, hS, (lv_sub hl [0, 1, 2] rfl)⟩
  obtain ⟨sx_2, pg2_2⟩ := x_2
  obtain ⟨hm_2, hv_2, hP, hD, hS, hl⟩ := hI
  subst hm_2
  refine lv_iload_n hx hb dX1_leastOfAll_12 rfl (lv_at hl 0 rfl) ?_
  refine lv_iload_n hx hb dX1_leastOfAll_13 rfl (lv_at hl 1 rfl) ?_
  refine lv_icmp_ge (tgt := 67) hx hb dX1_leastOfAll_14 (by decide) (fun c_3 => ?_) (fun c_3 => ?_)
  · have c_3 := (nI_leI (a := pw_1) (b := sx_2) (by omega) (by omega)).mp c_3
    refine lv_iconst (v := 0) hx hb dX1_leastOfAll_67 (by decide) ?_
    refine lv_istore_n (lv' := [(2, .int 0), (1, .int (nI pw_1)), (0, .ref z0)]) hx hb dX1_leastOfAll_68 rfl hl (by decide) rfl (fun ls hl => ?_)
    refine W_loop (σ := Nat × (Nat → Int32)) (fun (n_ : Nat) (x_ : Nat × (Nat → Int32)) (H : Heap) (locs : List Loc) (ls : Array Slot) => match x_ with | (ii_4, pg2_4) => n_ = 25 - ii_4 ∧ (ii_4 ≤ 24) ∧ va_P D classes [(z0, .inr (1, (fX1 c0 z1 z2 z3 (nI pn) pf pd pe))), (aI k z2 100 pco), (aI k z3 16 pg2_4), (c0, .inr (4, (fX4 c1 c2 (nI cc) (nI rz) ro sd)))] H ∧ va_D A [(z0, .inr (1, (fX1 c0 z1 z2 z3 (nI pn) pf pd pe))), (aI k z2 100 pco), (aI k z3 16 pg2_4), (c0, .inr (4, (fX4 c1 c2 (nI cc) (nI rz) ro sd)))] ∧ va_S A s.heap H locs ∧ lv_has ls 4 [(2, .int (nI ii_4)), (1, .int (nI pw_1)), (0, .ref z0)]) (fun n_4 x_4 H locs ls hI ih_4 => ?_) _ (0, pg2_2) ⟨rfl, (by omega), hP, hD, hS, (lv_sub hl [0, 1, 2] rfl)⟩
    obtain ⟨ii_4, pg2_4⟩ := x_4
    obtain ⟨hm_4, hv_4, hP, hD, hS, hl⟩ := hI
    subst hm_4
    refine lv_iload_n hx hb dX1_leastOfAll_69 rfl (lv_at hl 0 rfl) ?_
    refine lv_aload_n hx hb dX1_leastOfAll_70 rfl (lv_at hl 2 rfl) ?_
    refine va_get (D := D) (ci := 1) (v := .int (nI pn)) (C := RX1) (T := TX1) (N := 8) hx hb hts inX1 hown hK hP 0 rfl rfl 4 (by decide) (hts _ tw_240) (fun _ h9 => h9) rfl dX1_leastOfAll_71 ?_
    refine lv_icmp_ge (tgt := 100) hx hb dX1_leastOfAll_74 (by decide) (fun c_5 => ?_) (fun c_5 => ?_)
    · have c_5 := (nI_leI (a := pn) (b := ii_4) (by omega) (by omega)).mp c_5
      refine lv_aload_n hx hb dX1_leastOfAll_100 rfl (lv_at hl 2 rfl) ?_
      refine va_get (D := D) (ci := 1) (v := .ref z3) (C := RX1) (T := TX1) (N := 8) hx hb hts inX1 hown hK hP 0 rfl rfl 3 (by decide) (hts _ tw_239) (fun _ h9 => h9) rfl dX1_leastOfAll_101 ?_
      refine lv_iload_n hx hb dX1_leastOfAll_104 rfl (lv_at hl 1 rfl) ?_
      refine lv_iconst (v := 1) hx hb dX1_leastOfAll_105 (by decide) ?_
      refine lv_isub hx hb dX1_leastOfAll_106 ?_
      refine lv_ti (y := (nI (pw_1 - 1))) (pk_sub (a := pw_1) (b := 1) (by omega)) ?_
      refine va_iald hx hb hK hP 2 1 rfl rfl (vp_in_nI (by omega) (by decide)) dX1_leastOfAll_107 ?_
      refine lv_ti (y := (pg2_4 (pw_1 - 1))) (by rw [nI_clamp (by omega)]) ?_
      have hP9 := hP.sub (ws' := [(z0, .inr (1, (fX1 c0 z1 z2 z3 (nI pn) pf pd pe))), (aI k z2 100 pco), (aI k z3 16 pg2_4), (c0, .inr (4, (fX4 c1 c2 (nI cc) (nI rz) ro sd)))]) [0, 1, 2, 3] rfl
      have hD9 := hD.sub (ws' := [(z0, .inr (1, (fX1 c0 z1 z2 z3 (nI pn) pf pd pe))), (aI k z2 100 pco), (aI k z3 16 pg2_4), (c0, .inr (4, (fX4 c1 c2 (nI cc) (nI rz) ro sd)))]) [0, 1, 2, 3] (by decide) rfl
      exact W.iret (v := (pg2_4 (pw_1 - 1))) hx hb hr (fun t ht hW => ⟨⟨(pg2_4 (pw_1 - 1)), pg2_4, rfl, trivial, by rw [ht]; exact hP9, hD9⟩, hS.F ht⟩) hS.2.2 dX1_leastOfAll_108
    · have c_5 : ¬ (pn ≤ ii_4) := fun h => c_5 ((nI_leI (a := pn) (b := ii_4) (by omega) (by omega)).mpr h)
      refine lv_aload_n hx hb dX1_leastOfAll_77 rfl (lv_at hl 2 rfl) ?_
      refine va_get (D := D) (ci := 1) (v := .int pf) (C := RX1) (T := TX1) (N := 8) hx hb hts inX1 hown hK hP 0 rfl rfl 5 (by decide) (hts _ tw_241) (fun _ h9 => h9) rfl dX1_leastOfAll_78 ?_
      refine lv_iload_n hx hb dX1_leastOfAll_81 rfl (lv_at hl 0 rfl) ?_
      refine lv_ishr hx hb dX1_leastOfAll_82 ?_
      refine lv_topi (fun x_6 ex_6 => ?_)
      refine lv_iconst (v := 1) hx hb dX1_leastOfAll_83 (by decide) ?_
      refine lv_iand hx hb dX1_leastOfAll_84 ?_
      refine lv_topi (fun x_7 ex_7 => ?_)
      refine lv_if_eq (tgt := 94) hx hb dX1_leastOfAll_85 (by decide) (fun c_8 => ?_) (fun c_8 => ?_)
      · refine lv_iinc (v := (nI (ii_4 + 1))) (lv' := [(2, .int (nI (ii_4 + 1))), (1, .int (nI pw_1)), (0, .ref z0)]) hx hb dX1_leastOfAll_94 hl (k := 0) rfl (nI_add ii_4 1) (by decide) rfl (fun ls hl => ?_)
        refine lv_goto (tgt := 69) hx hb dX1_leastOfAll_97 (by decide) ?_
        exact ih_4 _ (ii_4 + 1, pg2_4) _ _ _ (by omega) ⟨rfl, (by omega), hP, hD, hS, (lv_sub hl [0, 1, 2] rfl)⟩
      · refine lv_aload_n hx hb dX1_leastOfAll_88 rfl (lv_at hl 2 rfl) ?_
        refine lv_iload_n hx hb dX1_leastOfAll_89 rfl (lv_at hl 0 rfl) ?_
        refine lv_iload_n hx hb dX1_leastOfAll_90 rfl (lv_at hl 1 rfl) ?_
        refine rw_v (D := D) (wr := []) (va_runV (As := [.int (nI ii_4), .int (nI pw_1)]) (rest := []) ⟨hx, hb, hml, hown, hts⟩ ((x_giveDoor l D k st lo c0 z0 z1 z2 z3 pn pf pd pe pco pg2_4 c1 c2 cc rz ro sd ii_4 pw_1 (by omega) (by omega) (by omega) (by omega)) H.size) (cwV 2 hts (gV tw_905 tw_907 tw_25 tw_84 tw_908) rfl rfl rfl (by decide +kernel) ⟨Nat.le_of_ble_eq_true rfl, Nat.le_of_ble_eq_true rfl⟩) (pV hS hAlo hlo hP hK (va_Dlo hD hAlo) hZ [0, 1, 2, 3] (by decide) rfl (ci := 1) (q := (RX1, TX1, 8)) (q0 := 0) rfl rfl) rfl rfl hl.1 rfl (lv_room (Nat.le_of_ble_eq_true rfl)) dX1_leastOfAll_91 ⟨Nat.le_of_ble_eq_true rfl, Nat.le_of_ble_eq_true rfl⟩) hS hA hP hD [0, 1, 2, 3] [] rfl rfl (by decide) (by decide) (fun u H locs hw_9 hP hD hS => ?_)
        obtain ⟨pg__9, rfl⟩ : ∃ z, z = u := ⟨_, rfl⟩
        replace hP : va_P D classes [(z0, .inr (1, (fX1 c0 z1 z2 z3 (nI pn) pf pd pe))), (aI k z2 100 pco), (aI k z3 16 pg__9), (c0, .inr (4, (fX4 c1 c2 (nI cc) (nI rz) ro sd)))] H := hP
        replace hD : va_D A [(z0, .inr (1, (fX1 c0 z1 z2 z3 (nI pn) pf pd pe))), (aI k z2 100 pco), (aI k z3 16 pg__9), (c0, .inr (4, (fX4 c1 c2 (nI cc) (nI rz) ro sd)))] := hD
        try dsimp only at hw_9
        refine lv_iinc (v := (nI (ii_4 + 1))) (lv' := [(2, .int (nI (ii_4 + 1))), (1, .int (nI pw_1)), (0, .ref z0)]) hx hb dX1_leastOfAll_94 hl (k := 0) rfl (nI_add ii_4 1) (by decide) rfl (fun ls hl => ?_)
        refine lv_goto (tgt := 69) hx hb dX1_leastOfAll_97 (by decide) ?_
        exact ih_4 _ (ii_4 + 1, pg__9) _ _ _ (by omega) ⟨rfl, (by omega), hP, hD, hS, (lv_sub hl [0, 1, 2] rfl)⟩
  · have c_3 : ¬ (pw_1 ≤ sx_2) := fun h => c_3 ((nI_leI (a := pw_1) (b := sx_2) (by omega) (by omega)).mpr h)
    refine lv_aload_n hx hb dX1_leastOfAll_17 rfl (lv_at hl 2 rfl) ?_
    refine va_get (D := D) (ci := 1) (v := .ref z3) (C := RX1) (T := TX1) (N := 8) hx hb hts inX1 hown hK hP 0 rfl rfl 3 (by decide) (hts _ tw_239) (fun _ h9 => h9) rfl dX1_leastOfAll_18 ?_
    refine lv_iload_n hx hb dX1_leastOfAll_21 rfl (lv_at hl 0 rfl) ?_
    refine lv_iconst (v := 0) hx hb dX1_leastOfAll_22 (by decide) ?_
    refine va_iast hx hb hK hP hD hS 2 1 rfl rfl (vp_in_nI (by omega) (by decide)) dX1_leastOfAll_23 (fun H locs hP hD hS => ?_)
    replace hP : va_P D classes [(z0, .inr (1, (fX1 c0 z1 z2 z3 (nI pn) pf pd pe))), (aI k z2 100 pco), (aI k z3 16 (upd pg2_2 (Int32.toNatClampNeg (nI sx_2)) 0)), (c0, .inr (4, (fX4 c1 c2 (nI cc) (nI rz) ro sd)))] H := hP
    replace hD : va_D A [(z0, .inr (1, (fX1 c0 z1 z2 z3 (nI pn) pf pd pe))), (aI k z2 100 pco), (aI k z3 16 (upd pg2_2 (Int32.toNatClampNeg (nI sx_2)) 0)), (c0, .inr (4, (fX4 c1 c2 (nI cc) (nI rz) ro sd)))] := hD
    generalize (upd pg2_2 (Int32.toNatClampNeg (nI sx_2)) 0) = f_10 at hP hD
    refine lv_iconst (v := 0) hx hb dX1_leastOfAll_24 (by decide) ?_
    refine lv_istore_n (lv' := [(3, .int 0), (2, .int (nI sx_2)), (1, .int (nI pw_1)), (0, .ref z0)]) hx hb dX1_leastOfAll_25 rfl hl (by decide) rfl (fun ls hl => ?_)
    refine W_loop (σ := Nat × (Nat → Int32)) (fun (n_ : Nat) (x_ : Nat × (Nat → Int32)) (H : Heap) (locs : List Loc) (ls : Array Slot) => match x_ with | (cn2_11, pg2_11) => n_ = 5 - cn2_11 ∧ (cn2_11 ≤ 4) ∧ va_P D classes [(z0, .inr (1, (fX1 c0 z1 z2 z3 (nI pn) pf pd pe))), (aI k z2 100 pco), (aI k z3 16 pg2_11), (c0, .inr (4, (fX4 c1 c2 (nI cc) (nI rz) ro sd)))] H ∧ va_D A [(z0, .inr (1, (fX1 c0 z1 z2 z3 (nI pn) pf pd pe))), (aI k z2 100 pco), (aI k z3 16 pg2_11), (c0, .inr (4, (fX4 c1 c2 (nI cc) (nI rz) ro sd)))] ∧ va_S A s.heap H locs ∧ lv_has ls 4 [(3, .int (nI cn2_11)), (2, .int (nI sx_2)), (1, .int (nI pw_1)), (0, .ref z0)]) (fun n_11 x_11 H locs ls hI ih_11 => ?_) _ (0, f_10) ⟨rfl, (by omega), hP, hD, hS, (lv_sub hl [0, 1, 2, 3] rfl)⟩
    obtain ⟨cn2_11, pg2_11⟩ := x_11
    obtain ⟨hm_11, hv_11, hP, hD, hS, hl⟩ := hI
    subst hm_11
    refine lv_iload_n hx hb dX1_leastOfAll_26 rfl (lv_at hl 0 rfl) ?_
    refine lv_aload_n hx hb dX1_leastOfAll_27 rfl (lv_at hl 3 rfl) ?_
    refine va_get (D := D) (ci := 1) (v := .ref c0) (C := RX1) (T := TX1) (N := 8) hx hb hts inX1 hown hK hP 0 rfl rfl 0 (by decide) (hts _ tw_235) (fun _ h9 => h9) rfl dX1_leastOfAll_28 ?_
    refine va_get (D := D) (ci := 4) (v := .int (nI cc)) (C := RX4) (T := TX4) (N := 6) hx hb hts inX4 hown hK hP 3 rfl rfl 2 (by decide) (hts _ tw_179) (fun _ h9 => h9) rfl dX1_leastOfAll_31 ?_
    refine lv_icmp_ge (tgt := 61) hx hb dX1_leastOfAll_34 (by decide) (fun c_12 => ?_) (fun c_12 => ?_)
    · have c_12 := (nI_leI (a := cc) (b := cn2_11) (by omega) (by omega)).mp c_12
      refine lv_iinc (v := (nI (sx_2 + 1))) (lv' := [(2, .int (nI (sx_2 + 1))), (3, .int (nI cn2_11)), (1, .int (nI pw_1)), (0, .ref z0)]) hx hb dX1_leastOfAll_61 hl (k := 1) rfl (nI_add sx_2 1) (by decide) rfl (fun ls hl => ?_)
      refine lv_goto (tgt := 12) hx hb dX1_leastOfAll_64 (by decide) ?_
      exact ih_2 _ (sx_2 + 1, pg2_11) _ _ _ (by omega) ⟨rfl, (by omega), hP, hD, hS, (lv_sub hl [0, 2, 3] rfl)⟩
    · have c_12 : ¬ (cc ≤ cn2_11) := fun h => c_12 ((nI_leI (a := cc) (b := cn2_11) (by omega) (by omega)).mpr h)
      refine lv_aload_n hx hb dX1_leastOfAll_37 rfl (lv_at hl 3 rfl) ?_
      refine va_get (D := D) (ci := 1) (v := .ref z3) (C := RX1) (T := TX1) (N := 8) hx hb hts inX1 hown hK hP 0 rfl rfl 3 (by decide) (hts _ tw_239) (fun _ h9 => h9) rfl dX1_leastOfAll_38 ?_
      refine lv_iload_n hx hb dX1_leastOfAll_41 rfl (lv_at hl 1 rfl) ?_
      refine lv_dup2_11 hx hb dX1_leastOfAll_42 rfl rfl ?_
      refine va_iald hx hb hK hP 2 1 rfl rfl (vp_in_nI (by omega) (by decide)) dX1_leastOfAll_43 ?_
      refine lv_ti (y := (pg2_11 sx_2)) (by rw [nI_clamp (by omega)]) ?_
      refine lv_aload_n hx hb dX1_leastOfAll_44 rfl (lv_at hl 3 rfl) ?_
      refine lv_iload_n hx hb dX1_leastOfAll_45 rfl (lv_at hl 0 rfl) ?_
      refine lv_aload_n hx hb dX1_leastOfAll_46 rfl (lv_at hl 3 rfl) ?_
      refine va_get (D := D) (ci := 1) (v := .int (nI pn)) (C := RX1) (T := TX1) (N := 8) hx hb hts inX1 hown hK hP 0 rfl rfl 4 (by decide) (hts _ tw_240) (fun _ h9 => h9) rfl dX1_leastOfAll_47 ?_
      refine ro_i (D := D) (va_runV (As := [.int (nI cn2_11), .int (nI pn)]) (rest := [.int (pg2_11 sx_2), .int (nI sx_2), .ref z3]) ⟨hx, hb, hml, hown, hts⟩ ((x_costAt l D k st lo c0 z0 z1 z2 z3 pn pf pd pe pco cn2_11 pn (by omega) (by omega)) H.size) (cwV 2 hts (gV tw_866 tw_843 tw_844 tw_84 tw_845) rfl rfl rfl (by decide +kernel) ⟨Nat.le_of_ble_eq_true rfl, Nat.le_of_ble_eq_true rfl⟩) (pV hS hAlo hlo hP hK (va_Dlo hD hAlo) hZ [0, 1] (by decide) rfl (ci := 1) (q := (RX1, TX1, 8)) (q0 := 0) rfl rfl) rfl rfl hl.1 rfl (lv_room (Nat.le_of_ble_eq_true rfl)) dX1_leastOfAll_50 ⟨Nat.le_of_ble_eq_true rfl, Nat.le_of_ble_eq_true rfl⟩) hS hA hP (fun r_13 H locs hw_13 hP hS => ?_)
      try dsimp only at hw_13
      refine lv_iadd hx hb dX1_leastOfAll_53 ?_
      refine lv_topi (fun x_14 ex_14 => ?_)
      refine va_iast hx hb hK hP hD hS 2 1 rfl rfl (vp_in_nI (by omega) (by decide)) dX1_leastOfAll_54 (fun H locs hP hD hS => ?_)
      replace hP : va_P D classes [(z0, .inr (1, (fX1 c0 z1 z2 z3 (nI pn) pf pd pe))), (aI k z2 100 pco), (aI k z3 16 (upd pg2_11 (Int32.toNatClampNeg (nI sx_2)) x_14)), (c0, .inr (4, (fX4 c1 c2 (nI cc) (nI rz) ro sd)))] H := hP
      replace hD : va_D A [(z0, .inr (1, (fX1 c0 z1 z2 z3 (nI pn) pf pd pe))), (aI k z2 100 pco), (aI k z3 16 (upd pg2_11 (Int32.toNatClampNeg (nI sx_2)) x_14)), (c0, .inr (4, (fX4 c1 c2 (nI cc) (nI rz) ro sd)))] := hD
      generalize (upd pg2_11 (Int32.toNatClampNeg (nI sx_2)) x_14) = f_15 at hP hD
      refine lv_iinc (v := (nI (cn2_11 + 1))) (lv' := [(3, .int (nI (cn2_11 + 1))), (2, .int (nI sx_2)), (1, .int (nI pw_1)), (0, .ref z0)]) hx hb dX1_leastOfAll_55 hl (k := 0) rfl (nI_add cn2_11 1) (by decide) rfl (fun ls hl => ?_)
      refine lv_goto (tgt := 26) hx hb dX1_leastOfAll_58 (by decide) ?_
      exact ih_11 _ (cn2_11 + 1, f_15) _ _ _ (by omega) ⟨rfl, (by omega), hP, hD, hS, (lv_sub hl [0, 1, 2, 3] rfl)⟩

theorem dX1_mendingPrice_0 : decode cX1_mendingPrice 0 = .ok (.aload_n 0, 1) := by decide +kernel
theorem dX1_mendingPrice_1 : decode cX1_mendingPrice 1 = .ok (.iload_n 1, 1) := by decide +kernel
theorem dX1_mendingPrice_2 : decode cX1_mendingPrice 2 = .ok (.putfield 28, 3) := by decide +kernel
theorem dX1_mendingPrice_5 : decode cX1_mendingPrice 5 = .ok (.iconst 0, 1) := by decide +kernel
theorem dX1_mendingPrice_6 : decode cX1_mendingPrice 6 = .ok (.istore_n 2, 1) := by decide +kernel
theorem dX1_mendingPrice_7 : decode cX1_mendingPrice 7 = .ok (.iconst 0, 1) := by decide +kernel
theorem dX1_mendingPrice_8 : decode cX1_mendingPrice 8 = .ok (.istore_n 3, 1) := by decide +kernel
theorem dX1_mendingPrice_9 : decode cX1_mendingPrice 9 = .ok (.iconst 0, 1) := by decide +kernel
theorem dX1_mendingPrice_10 : decode cX1_mendingPrice 10 = .ok (.istore 4, 2) := by decide +kernel
theorem dX1_mendingPrice_12 : decode cX1_mendingPrice 12 = .ok (.iload 4, 2) := by decide +kernel
theorem dX1_mendingPrice_14 : decode cX1_mendingPrice 14 = .ok (.bipush 20, 2) := by decide +kernel
theorem dX1_mendingPrice_16 : decode cX1_mendingPrice 16 = .ok (.if_icmp .gt 73, 3) := by decide +kernel
theorem dX1_mendingPrice_19 : decode cX1_mendingPrice 19 = .ok (.aload_n 0, 1) := by decide +kernel
theorem dX1_mendingPrice_20 : decode cX1_mendingPrice 20 = .ok (.bipush 10, 2) := by decide +kernel
theorem dX1_mendingPrice_22 : decode cX1_mendingPrice 22 = .ok (.iload 4, 2) := by decide +kernel
theorem dX1_mendingPrice_24 : decode cX1_mendingPrice 24 = .ok (.imul, 1) := by decide +kernel
theorem dX1_mendingPrice_25 : decode cX1_mendingPrice 25 = .ok (.sipush 1000, 3) := by decide +kernel
theorem dX1_mendingPrice_28 : decode cX1_mendingPrice 28 = .ok (.imul, 1) := by decide +kernel
theorem dX1_mendingPrice_29 : decode cX1_mendingPrice 29 = .ok (.putfield 31, 3) := by decide +kernel
theorem dX1_mendingPrice_32 : decode cX1_mendingPrice 32 = .ok (.iconst 0, 1) := by decide +kernel
theorem dX1_mendingPrice_33 : decode cX1_mendingPrice 33 = .ok (.istore 5, 2) := by decide +kernel
theorem dX1_mendingPrice_35 : decode cX1_mendingPrice 35 = .ok (.iload 5, 2) := by decide +kernel
theorem dX1_mendingPrice_37 : decode cX1_mendingPrice 37 = .ok (.iconst 4, 1) := by decide +kernel
theorem dX1_mendingPrice_38 : decode cX1_mendingPrice 38 = .ok (.if_icmp .ge 17, 3) := by decide +kernel
theorem dX1_mendingPrice_41 : decode cX1_mendingPrice 41 = .ok (.aload_n 0, 1) := by decide +kernel
theorem dX1_mendingPrice_42 : decode cX1_mendingPrice 42 = .ok (.getfield 9, 3) := by decide +kernel
theorem dX1_mendingPrice_45 : decode cX1_mendingPrice 45 = .ok (.iload 5, 2) := by decide +kernel
theorem dX1_mendingPrice_47 : decode cX1_mendingPrice 47 = .ok (.iconst 0, 1) := by decide +kernel
theorem dX1_mendingPrice_48 : decode cX1_mendingPrice 48 = .ok (.iastore, 1) := by decide +kernel
theorem dX1_mendingPrice_49 : decode cX1_mendingPrice 49 = .ok (.iinc 5 1, 3) := by decide +kernel
theorem dX1_mendingPrice_52 : decode cX1_mendingPrice 52 = .ok (.goto (-17), 3) := by decide +kernel
theorem dX1_mendingPrice_55 : decode cX1_mendingPrice 55 = .ok (.aload_n 0, 1) := by decide +kernel
theorem dX1_mendingPrice_56 : decode cX1_mendingPrice 56 = .ok (.invokevirtual 102, 3) := by decide +kernel
theorem dX1_mendingPrice_59 : decode cX1_mendingPrice 59 = .ok (.pop, 1) := by decide +kernel
theorem dX1_mendingPrice_60 : decode cX1_mendingPrice 60 = .ok (.aload_n 0, 1) := by decide +kernel
theorem dX1_mendingPrice_61 : decode cX1_mendingPrice 61 = .ok (.invokevirtual 105, 3) := by decide +kernel
theorem dX1_mendingPrice_64 : decode cX1_mendingPrice 64 = .ok (.istore 5, 2) := by decide +kernel
theorem dX1_mendingPrice_66 : decode cX1_mendingPrice 66 = .ok (.iload 4, 2) := by decide +kernel
theorem dX1_mendingPrice_68 : decode cX1_mendingPrice 68 = .ok (.ifCond .eq 9, 3) := by decide +kernel
theorem dX1_mendingPrice_71 : decode cX1_mendingPrice 71 = .ok (.iload 5, 2) := by decide +kernel
theorem dX1_mendingPrice_73 : decode cX1_mendingPrice 73 = .ok (.iload_n 3, 1) := by decide +kernel
theorem dX1_mendingPrice_74 : decode cX1_mendingPrice 74 = .ok (.if_icmp .ge 9, 3) := by decide +kernel
theorem dX1_mendingPrice_77 : decode cX1_mendingPrice 77 = .ok (.iload 5, 2) := by decide +kernel
theorem dX1_mendingPrice_79 : decode cX1_mendingPrice 79 = .ok (.istore_n 3, 1) := by decide +kernel
theorem dX1_mendingPrice_80 : decode cX1_mendingPrice 80 = .ok (.iload 4, 2) := by decide +kernel
theorem dX1_mendingPrice_82 : decode cX1_mendingPrice 82 = .ok (.istore_n 2, 1) := by decide +kernel
theorem dX1_mendingPrice_83 : decode cX1_mendingPrice 83 = .ok (.iinc 4 1, 3) := by decide +kernel
theorem dX1_mendingPrice_86 : decode cX1_mendingPrice 86 = .ok (.goto (-74), 3) := by decide +kernel
theorem dX1_mendingPrice_89 : decode cX1_mendingPrice 89 = .ok (.iload_n 2, 1) := by decide +kernel
theorem dX1_mendingPrice_90 : decode cX1_mendingPrice 90 = .ok (.ireturn, 1) := by decide +kernel
set_option maxHeartbeats 4000000 in
set_option maxRecDepth 100000 in
theorem x_mendingPrice (l : Launch) (D : va_G) (k : Nat → ClassId) (st : Nat → Nat) (lo : Nat) (c0 : Nat) (z0 : Nat) (z1 : Nat) (z2 : Nat) (z3 : Nat) (pn : Nat) (pf : Int32) (pd : Int32) (pe : Int32) (pb : Nat → Nat) (pco : Nat → Int32) (c1 : Nat) (c2 : Nat) (cc : Nat) (rz : Nat) (ro : Int32) (sd : Int32) (p0 : Int32) (hpn : pn ≤ 24) (hcc : cc ≤ 4) (hpb : ∀ j, pb j ≤ 24) : CWi l D k st lo yX1_mendingPrice cX1_mendingPrice 6 (some .int) ({ frames := 5, cells := 0, slots := 0, locals := 117 }) 0 0 [.ref z0, .int p0] [(z0, .inr (1, (fX1 c0 z1 z2 z3 (nI pn) pf pd pe))), (aI k z1 4 (nF pb)), (aI k z2 100 pco), (c0, .inr (4, (fX4 c1 c2 (nI cc) (nI rz) ro sd)))] (fun (r : Int32) (u : Int32 × Int32 × (Nat → Nat)) => match u with | (pd_, pe_, pb_) => ∀ j, pb_ j ≤ 24) (fun (u : Int32 × Int32 × (Nat → Nat)) => match u with | (pd_, pe_, pb_) => [(z0, .inr (1, (fX1 c0 z1 z2 z3 (nI pn) pf pd_ pe_))), (aI k z1 4 (nF pb_)), (aI k z2 100 pco), (c0, .inr (4, (fX4 c1 c2 (nI cc) (nI rz) ro sd)))]) := by
  intro sz
  refine Met.ofW (cc := cX1_mendingPrice) (maxL := 6) (ret := (some .int)) (by decide) rfl ?_
  intro p e s m args below meth c s₁ B hml hv
  obtain ⟨rfl, hsz, hlo, hP, hK, hDL, hZ⟩ := hv
  have hx := B.exec
  have hb := B.bytes
  have hr := B.returns
  have hts := WS_ts B.pre
  have hown : s.vm.findClass RX1 = some m.cls := findClass_of_methodNamed B.named
  have hlocks := B.notSynchronized
  subst hsz
  have hD := hDL.self (sz := s.heap.size)
  have hAlo := A_lo hDL hlo
  generalize hAe : va_A [(z0, .inr (1, (fX1 c0 z1 z2 z3 (nI pn) pf pd pe))), (aI k z1 4 (nF pb)), (aI k z2 100 pco), (c0, .inr (4, (fX4 c1 c2 (nI cc) (nI rz) ro sd)))] s.heap.size = A at hD hAlo ⊢
  have hA : ∀ q : Nat, s.heap.size ≤ q → A q := fun q h => by rw [← hAe]; exact Or.inr h
  have hS : va_S A s.heap s.heap [] := va_S.rf
  have hl := lv_entry ([.ref z0, .int p0]) (n := 6) (Nat.le_of_ble_eq_true rfl)
  rw [lg_entry_eq]
  generalize (lg_sl ([.ref z0, .int p0]) ++ List.replicate (6 - (lg_sl ([.ref z0, .int p0])).length) Slot.unset).toArray = ls at hl ⊢
  have hl : lv_has ls 6 [(0, .ref z0), (1, .int p0)] := hl
  refine lv_aload_n hx hb dX1_mendingPrice_0 rfl (lv_at hl 0 rfl) ?_
  refine lv_iload_n hx hb dX1_mendingPrice_1 rfl (lv_at hl 1 rfl) ?_
  refine va_put (D := D) (ci := 1) (v := .int p0) (ty := .int) (C := RX1) (T := TX1) (N := 8) hx hb hts inX1 tyX1 tyX1_ok nmX1 hown hK hP hD hS 0 rfl rfl 6 (by decide) (hts _ tw_242) (fun _ h9 => h9) rfl (by decide +kernel) rfl rfl (Nat.le_of_ble_eq_true rfl) dX1_mendingPrice_2 (fun H locs hP hD hS => ?_)
  replace hP : va_P D classes [(z0, .inr (1, (fX1 c0 z1 z2 z3 (nI pn) pf p0 pe))), (aI k z1 4 (nF pb)), (aI k z2 100 pco), (c0, .inr (4, (fX4 c1 c2 (nI cc) (nI rz) ro sd)))] H := hP
  replace hD : va_D A [(z0, .inr (1, (fX1 c0 z1 z2 z3 (nI pn) pf p0 pe))), (aI k z1 4 (nF pb)), (aI k z2 100 pco), (c0, .inr (4, (fX4 c1 c2 (nI cc) (nI rz) ro sd)))] := hD
  refine lv_iconst (v := 0) hx hb dX1_mendingPrice_5 (by decide) ?_
  refine lv_istore_n (lv' := [(2, .int 0), (0, .ref z0), (1, .int p0)]) hx hb dX1_mendingPrice_6 rfl hl (by decide) rfl (fun ls hl => ?_)
  refine lv_iconst (v := 0) hx hb dX1_mendingPrice_7 (by decide) ?_
  refine lv_istore_n (lv' := [(3, .int 0), (2, .int 0), (0, .ref z0), (1, .int p0)]) hx hb dX1_mendingPrice_8 rfl hl (by decide) rfl (fun ls hl => ?_)
  refine lv_iconst (v := 0) hx hb dX1_mendingPrice_9 (by decide) ?_
  refine lv_istore (lv' := [(4, .int 0), (3, .int 0), (2, .int 0), (0, .ref z0), (1, .int p0)]) hx hb dX1_mendingPrice_10 hl (by decide) rfl (fun ls hl => ?_)
  refine W_loop (σ := Nat × Int32 × Int32 × Int32 × (Nat → Nat)) (fun (n_ : Nat) (x_ : Nat × Int32 × Int32 × Int32 × (Nat → Nat)) (H : Heap) (locs : List Loc) (ls : Array Slot) => match x_ with | (pp_1, me_1, le_1, pe2_1, pb2_1) => n_ = 22 - pp_1 ∧ ((pp_1 ≤ 21) ∧ (∀ j, pb2_1 j ≤ 24)) ∧ va_P D classes [(z0, .inr (1, (fX1 c0 z1 z2 z3 (nI pn) pf p0 pe2_1))), (aI k z1 4 (nF pb2_1)), (aI k z2 100 pco), (c0, .inr (4, (fX4 c1 c2 (nI cc) (nI rz) ro sd)))] H ∧ va_D A [(z0, .inr (1, (fX1 c0 z1 z2 z3 (nI pn) pf p0 pe2_1))), (aI k z1 4 (nF pb2_1)), (aI k z2 100 pco), (c0, .inr (4, (fX4 c1 c2 (nI cc) (nI rz) ro sd)))] ∧ va_S A s.heap H locs ∧ lv_has ls 6 [(4, .int (nI pp_1)), (3, .int le_1), (2, .int me_1), (0, .ref z0), (1, .int p0)]) (fun n_1 x_1 H locs ls hI ih_1 => ?_) _ (0, 0, 0, pe, pb) ⟨rfl, ⟨by omega, hpb⟩, hP, hD, hS, (lv_sub hl [0, 1, 2, 3, 4] rfl)⟩
  obtain ⟨pp_1, me_1, le_1, pe2_1, pb2_1⟩ := x_1
  obtain ⟨hm_1, hv_1, hP, hD, hS, hl⟩ := hI
  subst hm_1
  have hpl_1 := hv_1.2
  refine lv_iload hx hb dX1_mendingPrice_12 (lv_at hl 0 rfl) ?_
  refine lv_bipush (v := 20) hx hb dX1_mendingPrice_14 (by decide) ?_
  refine lv_icmp_gt (tgt := 89) hx hb dX1_mendingPrice_16 (by decide) (fun c_2 => ?_) (fun c_2 => ?_)
  · have c_2 := (nI_ltI (a := 20) (b := pp_1) (by omega) (by omega)).mp c_2
    refine lv_iload_n hx hb dX1_mendingPrice_89 rfl (lv_at hl 2 rfl) ?_
    have hP9 := hP.sub (ws' := [(z0, .inr (1, (fX1 c0 z1 z2 z3 (nI pn) pf p0 pe2_1))), (aI k z1 4 (nF pb2_1)), (aI k z2 100 pco), (c0, .inr (4, (fX4 c1 c2 (nI cc) (nI rz) ro sd)))]) [0, 1, 2, 3] rfl
    have hD9 := hD.sub (ws' := [(z0, .inr (1, (fX1 c0 z1 z2 z3 (nI pn) pf p0 pe2_1))), (aI k z1 4 (nF pb2_1)), (aI k z2 100 pco), (c0, .inr (4, (fX4 c1 c2 (nI cc) (nI rz) ro sd)))]) [0, 1, 2, 3] (by decide) rfl
    exact W.iret (v := me_1) hx hb hr (fun t ht hW => ⟨⟨me_1, (p0, pe2_1, pb2_1), rfl, hpl_1, by rw [ht]; exact hP9, hD9⟩, hS.F ht⟩) hS.2.2 dX1_mendingPrice_90
  · have c_2 : ¬ (20 < pp_1) := fun h => c_2 ((nI_ltI (a := 20) (b := pp_1) (by omega) (by omega)).mpr h)
    refine lv_aload_n hx hb dX1_mendingPrice_19 rfl (lv_at hl 3 rfl) ?_
    refine lv_bipush (v := 10) hx hb dX1_mendingPrice_20 (by decide) ?_
    refine lv_iload hx hb dX1_mendingPrice_22 (lv_at hl 0 rfl) ?_
    refine lv_imul hx hb dX1_mendingPrice_24 ?_
    refine lv_ti (y := (nI (10 * pp_1))) (pk_mul 10 pp_1) ?_
    refine lv_sipush (v := 1000) hx hb dX1_mendingPrice_25 (by decide) ?_
    refine lv_imul hx hb dX1_mendingPrice_28 ?_
    refine lv_ti (y := (nI ((10 * pp_1) * 1000))) (pk_mul (10 * pp_1) 1000) ?_
    refine va_put (D := D) (ci := 1) (v := .int (nI ((10 * pp_1) * 1000))) (ty := .int) (C := RX1) (T := TX1) (N := 8) hx hb hts inX1 tyX1 tyX1_ok nmX1 hown hK hP hD hS 0 rfl rfl 7 (by decide) (hts _ tw_243) (fun _ h9 => h9) rfl (by decide +kernel) rfl rfl (Nat.le_of_ble_eq_true rfl) dX1_mendingPrice_29 (fun H locs hP hD hS => ?_)
    replace hP : va_P D classes [(z0, .inr (1, (fX1 c0 z1 z2 z3 (nI pn) pf p0 (nI ((10 * pp_1) * 1000))))), (aI k z1 4 (nF pb2_1)), (aI k z2 100 pco), (c0, .inr (4, (fX4 c1 c2 (nI cc) (nI rz) ro sd)))] H := hP
    replace hD : va_D A [(z0, .inr (1, (fX1 c0 z1 z2 z3 (nI pn) pf p0 (nI ((10 * pp_1) * 1000))))), (aI k z1 4 (nF pb2_1)), (aI k z2 100 pco), (c0, .inr (4, (fX4 c1 c2 (nI cc) (nI rz) ro sd)))] := hD
    refine lv_iconst (v := 0) hx hb dX1_mendingPrice_32 (by decide) ?_
    refine lv_istore (lv' := [(5, .int 0), (4, .int (nI pp_1)), (3, .int le_1), (2, .int me_1), (0, .ref z0), (1, .int p0)]) hx hb dX1_mendingPrice_33 hl (by decide) rfl (fun ls hl => ?_)
    refine lv_iload hx hb dX1_mendingPrice_35 (lv_at hl 0 rfl) ?_
    refine lv_iconst (v := 4) hx hb dX1_mendingPrice_37 (by decide) ?_
    refine lv_icmp_ge (tgt := 55) hx hb dX1_mendingPrice_38 (by decide) (fun h => absurd h (by decide)) (fun _ => ?_)
    refine lv_aload_n hx hb dX1_mendingPrice_41 rfl (lv_at hl 4 rfl) ?_
    refine va_get (D := D) (ci := 1) (v := .ref z1) (C := RX1) (T := TX1) (N := 8) hx hb hts inX1 hown hK hP 0 rfl rfl 1 (by decide) (hts _ tw_236) (fun _ h9 => h9) rfl dX1_mendingPrice_42 ?_
    refine lv_iload hx hb dX1_mendingPrice_45 (lv_at hl 0 rfl) ?_
    refine lv_iconst (v := 0) hx hb dX1_mendingPrice_47 (by decide) ?_
    refine va_iast hx hb hK hP hD hS 1 1 rfl rfl (by unfold vp_in; decide) dX1_mendingPrice_48 (fun H locs hP hD hS => ?_)
    replace hP : va_P D classes [(z0, .inr (1, (fX1 c0 z1 z2 z3 (nI pn) pf p0 (nI ((10 * pp_1) * 1000))))), (aI k z1 4 (upd (nF pb2_1) (Int32.toNatClampNeg 0) 0)), (aI k z2 100 pco), (c0, .inr (4, (fX4 c1 c2 (nI cc) (nI rz) ro sd)))] H := hP
    replace hD : va_D A [(z0, .inr (1, (fX1 c0 z1 z2 z3 (nI pn) pf p0 (nI ((10 * pp_1) * 1000))))), (aI k z1 4 (upd (nF pb2_1) (Int32.toNatClampNeg 0) 0)), (aI k z2 100 pco), (c0, .inr (4, (fX4 c1 c2 (nI cc) (nI rz) ro sd)))] := hD
    rw [show upd (nF pb2_1) (Int32.toNatClampNeg 0) 0 = nF (fun j => if j = 0 then 0 else pb2_1 j) from nF_upd _ _ _] at hP hD
    obtain ⟨d_4, hd_4⟩ : ∃ z : Nat → Nat, z = (fun j => if j = 0 then 0 else pb2_1 j) := ⟨_, rfl⟩
    rw [← hd_4] at hP hD
    have hbb_4 : ∀ j, d_4 j ≤ 24 := by rw [hd_4]; exact up_le hpl_1 (by omega)
    refine lv_iinc (v := 1) (lv' := [(5, .int 1), (4, .int (nI pp_1)), (3, .int le_1), (2, .int me_1), (0, .ref z0), (1, .int p0)]) hx hb dX1_mendingPrice_49 hl (k := 0) rfl (by decide) (by decide) rfl (fun ls hl => ?_)
    refine lv_goto (tgt := 35) hx hb dX1_mendingPrice_52 (by decide) ?_
    refine lv_iload hx hb dX1_mendingPrice_35 (lv_at hl 0 rfl) ?_
    refine lv_iconst (v := 4) hx hb dX1_mendingPrice_37 (by decide) ?_
    refine lv_icmp_ge (tgt := 55) hx hb dX1_mendingPrice_38 (by decide) (fun h => absurd h (by decide)) (fun _ => ?_)
    refine lv_aload_n hx hb dX1_mendingPrice_41 rfl (lv_at hl 4 rfl) ?_
    refine va_get (D := D) (ci := 1) (v := .ref z1) (C := RX1) (T := TX1) (N := 8) hx hb hts inX1 hown hK hP 0 rfl rfl 1 (by decide) (hts _ tw_236) (fun _ h9 => h9) rfl dX1_mendingPrice_42 ?_
    refine lv_iload hx hb dX1_mendingPrice_45 (lv_at hl 0 rfl) ?_
    refine lv_iconst (v := 0) hx hb dX1_mendingPrice_47 (by decide) ?_
    refine va_iast hx hb hK hP hD hS 1 1 rfl rfl (by unfold vp_in; decide) dX1_mendingPrice_48 (fun H locs hP hD hS => ?_)
    replace hP : va_P D classes [(z0, .inr (1, (fX1 c0 z1 z2 z3 (nI pn) pf p0 (nI ((10 * pp_1) * 1000))))), (aI k z1 4 (upd (nF d_4) (Int32.toNatClampNeg 1) 0)), (aI k z2 100 pco), (c0, .inr (4, (fX4 c1 c2 (nI cc) (nI rz) ro sd)))] H := hP
    replace hD : va_D A [(z0, .inr (1, (fX1 c0 z1 z2 z3 (nI pn) pf p0 (nI ((10 * pp_1) * 1000))))), (aI k z1 4 (upd (nF d_4) (Int32.toNatClampNeg 1) 0)), (aI k z2 100 pco), (c0, .inr (4, (fX4 c1 c2 (nI cc) (nI rz) ro sd)))] := hD
    rw [show upd (nF d_4) (Int32.toNatClampNeg 1) 0 = nF (fun j => if j = 1 then 0 else d_4 j) from nF_upd _ _ _] at hP hD
    obtain ⟨d_6, hd_6⟩ : ∃ z : Nat → Nat, z = (fun j => if j = 1 then 0 else d_4 j) := ⟨_, rfl⟩
    rw [← hd_6] at hP hD
    have hbb_6 : ∀ j, d_6 j ≤ 24 := by rw [hd_6]; exact up_le hbb_4 (by omega)
    refine lv_iinc (v := 2) (lv' := [(5, .int 2), (4, .int (nI pp_1)), (3, .int le_1), (2, .int me_1), (0, .ref z0), (1, .int p0)]) hx hb dX1_mendingPrice_49 hl (k := 0) rfl (by decide) (by decide) rfl (fun ls hl => ?_)
    refine lv_goto (tgt := 35) hx hb dX1_mendingPrice_52 (by decide) ?_
    refine lv_iload hx hb dX1_mendingPrice_35 (lv_at hl 0 rfl) ?_
    refine lv_iconst (v := 4) hx hb dX1_mendingPrice_37 (by decide) ?_
    refine lv_icmp_ge (tgt := 55) hx hb dX1_mendingPrice_38 (by decide) (fun h => absurd h (by decide)) (fun _ => ?_)
    refine lv_aload_n hx hb dX1_mendingPrice_41 rfl (lv_at hl 4 rfl) ?_
    refine va_get (D := D) (ci := 1) (v := .ref z1) (C := RX1) (T := TX1) (N := 8) hx hb hts inX1 hown hK hP 0 rfl rfl 1 (by decide) (hts _ tw_236) (fun _ h9 => h9) rfl dX1_mendingPrice_42 ?_
    refine lv_iload hx hb dX1_mendingPrice_45 (lv_at hl 0 rfl) ?_
    refine lv_iconst (v := 0) hx hb dX1_mendingPrice_47 (by decide) ?_
    refine va_iast hx hb hK hP hD hS 1 1 rfl rfl (by unfold vp_in; decide) dX1_mendingPrice_48 (fun H locs hP hD hS => ?_)
    replace hP : va_P D classes [(z0, .inr (1, (fX1 c0 z1 z2 z3 (nI pn) pf p0 (nI ((10 * pp_1) * 1000))))), (aI k z1 4 (upd (nF d_6) (Int32.toNatClampNeg 2) 0)), (aI k z2 100 pco), (c0, .inr (4, (fX4 c1 c2 (nI cc) (nI rz) ro sd)))] H := hP
    replace hD : va_D A [(z0, .inr (1, (fX1 c0 z1 z2 z3 (nI pn) pf p0 (nI ((10 * pp_1) * 1000))))), (aI k z1 4 (upd (nF d_6) (Int32.toNatClampNeg 2) 0)), (aI k z2 100 pco), (c0, .inr (4, (fX4 c1 c2 (nI cc) (nI rz) ro sd)))] := hD
    rw [show upd (nF d_6) (Int32.toNatClampNeg 2) 0 = nF (fun j => if j = 2 then 0 else d_6 j) from nF_upd _ _ _] at hP hD
    obtain ⟨d_8, hd_8⟩ : ∃ z : Nat → Nat, z = (fun j => if j = 2 then 0 else d_6 j) := ⟨_, rfl⟩
    rw [← hd_8] at hP hD
    have hbb_8 : ∀ j, d_8 j ≤ 24 := by rw [hd_8]; exact up_le hbb_6 (by omega)
    refine lv_iinc (v := 3) (lv' := [(5, .int 3), (4, .int (nI pp_1)), (3, .int le_1), (2, .int me_1), (0, .ref z0), (1, .int p0)]) hx hb dX1_mendingPrice_49 hl (k := 0) rfl (by decide) (by decide) rfl (fun ls hl => ?_)
    refine lv_goto (tgt := 35) hx hb dX1_mendingPrice_52 (by decide) ?_
    refine lv_iload hx hb dX1_mendingPrice_35 (lv_at hl 0 rfl) ?_
    refine lv_iconst (v := 4) hx hb dX1_mendingPrice_37 (by decide) ?_
    refine lv_icmp_ge (tgt := 55) hx hb dX1_mendingPrice_38 (by decide) (fun h => absurd h (by decide)) (fun _ => ?_)
    refine lv_aload_n hx hb dX1_mendingPrice_41 rfl (lv_at hl 4 rfl) ?_
    refine va_get (D := D) (ci := 1) (v := .ref z1) (C := RX1) (T := TX1) (N := 8) hx hb hts inX1 hown hK hP 0 rfl rfl 1 (by decide) (hts _ tw_236) (fun _ h9 => h9) rfl dX1_mendingPrice_42 ?_
    refine lv_iload hx hb dX1_mendingPrice_45 (lv_at hl 0 rfl) ?_
    refine lv_iconst (v := 0) hx hb dX1_mendingPrice_47 (by decide) ?_
    refine va_iast hx hb hK hP hD hS 1 1 rfl rfl (by unfold vp_in; decide) dX1_mendingPrice_48 (fun H locs hP hD hS => ?_)
    replace hP : va_P D classes [(z0, .inr (1, (fX1 c0 z1 z2 z3 (nI pn) pf p0 (nI ((10 * pp_1) * 1000))))), (aI k z1 4 (upd (nF d_8) (Int32.toNatClampNeg 3) 0)), (aI k z2 100 pco), (c0, .inr (4, (fX4 c1 c2 (nI cc) (nI rz) ro sd)))] H := hP
    replace hD : va_D A [(z0, .inr (1, (fX1 c0 z1 z2 z3 (nI pn) pf p0 (nI ((10 * pp_1) * 1000))))), (aI k z1 4 (upd (nF d_8) (Int32.toNatClampNeg 3) 0)), (aI k z2 100 pco), (c0, .inr (4, (fX4 c1 c2 (nI cc) (nI rz) ro sd)))] := hD
    rw [show upd (nF d_8) (Int32.toNatClampNeg 3) 0 = nF (fun j => if j = 3 then 0 else d_8 j) from nF_upd _ _ _] at hP hD
    obtain ⟨d_10, hd_10⟩ : ∃ z : Nat → Nat, z = (fun j => if j = 3 then 0 else d_8 j) := ⟨_, rfl⟩
    rw [← hd_10] at hP hD
    have hbb_10 : ∀ j, d_10 j ≤ 24 := by rw [hd_10]; exact up_le hbb_8 (by omega)
    refine lv_iinc (v := 4) (lv' := [(5, .int 4), (4, .int (nI pp_1)), (3, .int le_1), (2, .int me_1), (0, .ref z0), (1, .int p0)]) hx hb dX1_mendingPrice_49 hl (k := 0) rfl (by decide) (by decide) rfl (fun ls hl => ?_)
    refine lv_goto (tgt := 35) hx hb dX1_mendingPrice_52 (by decide) ?_
    refine lv_iload hx hb dX1_mendingPrice_35 (lv_at hl 0 rfl) ?_
    refine lv_iconst (v := 4) hx hb dX1_mendingPrice_37 (by decide) ?_
    refine lv_icmp_ge (tgt := 55) hx hb dX1_mendingPrice_38 (by decide) (fun _ => ?_) (fun h => absurd (by decide) h)
    refine lv_aload_n hx hb dX1_mendingPrice_55 rfl (lv_at hl 4 rfl) ?_
    refine rw_i (D := D) (wr := []) (va_runV (As := []) (rest := []) ⟨hx, hb, hml, hown, hts⟩ ((x_goByTurns l D k st lo c0 z0 z1 z2 z3 pn pf p0 (nI ((10 * pp_1) * 1000)) d_10 pco c1 c2 cc rz ro sd (by omega) (by omega) hbb_10) H.size) (cwV 0 hts (gV tw_918 tw_872 tw_873 tw_84 tw_874) rfl rfl rfl (by decide +kernel) ⟨Nat.le_of_ble_eq_true rfl, Nat.le_of_ble_eq_true rfl⟩) (pV hS hAlo hlo hP hK (va_Dlo hD hAlo) hZ [0, 1, 2, 3] (by decide) rfl (ci := 1) (q := (RX1, TX1, 8)) (q0 := 0) rfl rfl) rfl rfl hl.1 rfl (lv_room (Nat.le_of_ble_eq_true rfl)) dX1_mendingPrice_56 ⟨Nat.le_of_ble_eq_true rfl, Nat.le_of_ble_eq_true rfl⟩) hS hA hP hD [0, 1, 2, 3] [] rfl rfl (by decide) (by decide) (fun r_11 u H locs hw_11 hP hD hS => ?_)
    obtain ⟨pb__11, rfl⟩ : ∃ z, z = u := ⟨_, rfl⟩
    replace hP : va_P D classes [(z0, .inr (1, (fX1 c0 z1 z2 z3 (nI pn) pf p0 (nI ((10 * pp_1) * 1000))))), (aI k z1 4 (nF pb__11)), (aI k z2 100 pco), (c0, .inr (4, (fX4 c1 c2 (nI cc) (nI rz) ro sd)))] H := hP
    replace hD : va_D A [(z0, .inr (1, (fX1 c0 z1 z2 z3 (nI pn) pf p0 (nI ((10 * pp_1) * 1000))))), (aI k z1 4 (nF pb__11)), (aI k z2 100 pco), (c0, .inr (4, (fX4 c1 c2 (nI cc) (nI rz) ro sd)))] := hD
    try dsimp only at hw_11
    refine lv_pop hx hb dX1_mendingPrice_59 rfl ?_
    refine lv_aload_n hx hb dX1_mendingPrice_60 rfl (lv_at hl 4 rfl) ?_
    refine ro_i (D := D) (va_runV (As := []) (rest := []) ⟨hx, hb, hml, hown, hts⟩ ((x_costOfAll l D k st lo c0 z0 z1 z2 z3 pn pf p0 (nI ((10 * pp_1) * 1000)) pb__11 pco c1 c2 cc rz ro sd (by omega) (by omega) hw_11) H.size) (cwV 0 hts (gV tw_919 tw_898 tw_899 tw_84 tw_900) rfl rfl rfl (by decide +kernel) ⟨Nat.le_of_ble_eq_true rfl, Nat.le_of_ble_eq_true rfl⟩) (pV hS hAlo hlo hP hK (va_Dlo hD hAlo) hZ [0, 1, 2, 3] (by decide) rfl (ci := 1) (q := (RX1, TX1, 8)) (q0 := 0) rfl rfl) rfl rfl hl.1 rfl (lv_room (Nat.le_of_ble_eq_true rfl)) dX1_mendingPrice_61 ⟨Nat.le_of_ble_eq_true rfl, Nat.le_of_ble_eq_true rfl⟩) hS hA hP (fun r_12 H locs hw_12 hP hS => ?_)
    try dsimp only at hw_12
    refine lv_istore (lv' := [(5, .int r_12), (4, .int (nI pp_1)), (3, .int le_1), (2, .int me_1), (0, .ref z0), (1, .int p0)]) hx hb dX1_mendingPrice_64 hl (by decide) rfl (fun ls hl => ?_)
    refine lv_iload hx hb dX1_mendingPrice_66 (lv_at hl 1 rfl) ?_
    refine lv_if_eq (tgt := 77) hx hb dX1_mendingPrice_68 (by decide) (fun c_13 => ?_) (fun c_13 => ?_)
    · have c_13 := (nI_eq (a := pp_1) (b := 0) (by omega) (by omega)).mp c_13
      refine lv_iload hx hb dX1_mendingPrice_77 (lv_at hl 0 rfl) ?_
      refine lv_istore_n (lv' := [(3, .int r_12), (5, .int r_12), (4, .int (nI pp_1)), (2, .int me_1), (0, .ref z0), (1, .int p0)]) hx hb dX1_mendingPrice_79 rfl hl (by decide) rfl (fun ls hl => ?_)
      refine lv_iload hx hb dX1_mendingPrice_80 (lv_at hl 2 rfl) ?_
      refine lv_istore_n (lv' := [(2, .int (nI pp_1)), (3, .int r_12), (5, .int r_12), (4, .int (nI pp_1)), (0, .ref z0), (1, .int p0)]) hx hb dX1_mendingPrice_82 rfl hl (by decide) rfl (fun ls hl => ?_)
      refine lv_iinc (v := (nI (pp_1 + 1))) (lv' := [(4, .int (nI (pp_1 + 1))), (2, .int (nI pp_1)), (3, .int r_12), (5, .int r_12), (0, .ref z0), (1, .int p0)]) hx hb dX1_mendingPrice_83 hl (k := 3) rfl (nI_add pp_1 1) (by decide) rfl (fun ls hl => ?_)
      refine lv_goto (tgt := 12) hx hb dX1_mendingPrice_86 (by decide) ?_
      exact ih_1 _ (pp_1 + 1, (nI pp_1), r_12, (nI ((10 * pp_1) * 1000)), pb__11) _ _ _ (by omega) ⟨rfl, ⟨by omega, hw_11⟩, hP, hD, hS, (lv_sub hl [0, 2, 1, 4, 5] rfl)⟩
    · have c_13 : ¬ (pp_1 = 0) := fun h => c_13 ((nI_eq (a := pp_1) (b := 0) (by omega) (by omega)).mpr h)
      refine lv_iload hx hb dX1_mendingPrice_71 (lv_at hl 0 rfl) ?_
      refine lv_iload_n hx hb dX1_mendingPrice_73 rfl (lv_at hl 2 rfl) ?_
      refine lv_icmp_ge (tgt := 83) hx hb dX1_mendingPrice_74 (by decide) (fun c_14 => ?_) (fun c_14 => ?_)
      · refine lv_iinc (v := (nI (pp_1 + 1))) (lv' := [(4, .int (nI (pp_1 + 1))), (5, .int r_12), (3, .int le_1), (2, .int me_1), (0, .ref z0), (1, .int p0)]) hx hb dX1_mendingPrice_83 hl (k := 1) rfl (nI_add pp_1 1) (by decide) rfl (fun ls hl => ?_)
        refine lv_goto (tgt := 12) hx hb dX1_mendingPrice_86 (by decide) ?_
        exact ih_1 _ (pp_1 + 1, me_1, le_1, (nI ((10 * pp_1) * 1000)), pb__11) _ _ _ (by omega) ⟨rfl, ⟨by omega, hw_11⟩, hP, hD, hS, (lv_sub hl [0, 2, 3, 4, 5] rfl)⟩
      · refine lv_iload hx hb dX1_mendingPrice_77 (lv_at hl 0 rfl) ?_
        refine lv_istore_n (lv' := [(3, .int r_12), (5, .int r_12), (4, .int (nI pp_1)), (2, .int me_1), (0, .ref z0), (1, .int p0)]) hx hb dX1_mendingPrice_79 rfl hl (by decide) rfl (fun ls hl => ?_)
        refine lv_iload hx hb dX1_mendingPrice_80 (lv_at hl 2 rfl) ?_
        refine lv_istore_n (lv' := [(2, .int (nI pp_1)), (3, .int r_12), (5, .int r_12), (4, .int (nI pp_1)), (0, .ref z0), (1, .int p0)]) hx hb dX1_mendingPrice_82 rfl hl (by decide) rfl (fun ls hl => ?_)
        refine lv_iinc (v := (nI (pp_1 + 1))) (lv' := [(4, .int (nI (pp_1 + 1))), (2, .int (nI pp_1)), (3, .int r_12), (5, .int r_12), (0, .ref z0), (1, .int p0)]) hx hb dX1_mendingPrice_83 hl (k := 3) rfl (nI_add pp_1 1) (by decide) rfl (fun ls hl => ?_)
        refine lv_goto (tgt := 12) hx hb dX1_mendingPrice_86 (by decide) ?_
        exact ih_1 _ (pp_1 + 1, (nI pp_1), r_12, (nI ((10 * pp_1) * 1000)), pb__11) _ _ _ (by omega) ⟨rfl, ⟨by omega, hw_11⟩, hP, hD, hS, (lv_sub hl [0, 2, 1, 4, 5] rfl)⟩


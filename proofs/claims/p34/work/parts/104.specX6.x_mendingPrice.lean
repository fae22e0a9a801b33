theorem dX1_mendingPrice_0 : decode cX1_mendingPrice 0 = .ok (.aload_n 0, 1) := by decide +kernel
theorem dX1_mendingPrice_1 : decode cX1_mendingPrice 1 = .ok (.iload_n 1, 1) := by decide +kernel
theorem dX1_mendingPrice_2 : decode cX1_mendingPrice 2 = .ok (.putfield 28, 3) := by decide +kernel
theorem dX1_mendingPrice_5 : decode cX1_mendingPrice 5 = .ok (.iconst 0, 1) := by decide +kernel
theorem dX1_mendingPrice_6 : decode cX1_mendingPrice 6 = .ok (.istore_n 2, 1) := by decide +kernel
theorem dX1_mendingPrice_7 : decode cX1_mendingPrice 7 = .ok (.iconst 0, 1) := by decide +kernel
theorem dX1_mendingPrice_8 : decode cX1_mendingPrice 8 = .ok (.istore_n 3, 1) := by decide +kernel
theorem dX1_mendingPrice_9 : decode cX1_mendingPrice 9 = .ok (.iconst 0, 1) := by decide +kernel
theorem dX1_mendingPrice_10 : decode cX1_mendingPrice 10 = .ok (.istore 4, 2) := by decide +kernel
theorem dX1_mendingPrice_12 : decode cX1_mendingPrice 12 = .ok (.iload 4, 2) := by decide +kernel
theorem dX1_mendingPrice_14 : decode cX1_mendingPrice 14 = .ok (.bipush 20, 2) := by decide +kernel
theorem dX1_mendingPrice_16 : decode cX1_mendingPrice 16 = .ok (.if_icmp .gt 73, 3) := by decide +kernel
theorem dX1_mendingPrice_19 : decode cX1_mendingPrice 19 = .ok (.aload_n 0, 1) := by decide +kernel
theorem dX1_mendingPrice_20 : decode cX1_mendingPrice 20 = .ok (.bipush 10, 2) := by decide +kernel
theorem dX1_mendingPrice_22 : decode cX1_mendingPrice 22 = .ok (.iload 4, 2) := by decide +kernel
theorem dX1_mendingPrice_24 : decode cX1_mendingPrice 24 = .ok (.imul, 1) := by decide +kernel
theorem dX1_mendingPrice_25 : decode cX1_mendingPrice 25 = .ok (.sipush 1000, 3) := by decide +kernel
theorem dX1_mendingPrice_28 : decode cX1_mendingPrice 28 = .ok (.imul, 1) := by decide +kernel
theorem dX1_mendingPrice_29 : decode cX1_mendingPrice 29 = .ok (.putfield 31, 3) := by decide +kernel
theorem dX1_mendingPrice_32 : decode cX1_mendingPrice 32 = .ok (.iconst 0, 1) := by decide +kernel
theorem dX1_mendingPrice_33 : decode cX1_mendingPrice 33 = .ok (.istore 5, 2) := by decide +kernel
theorem dX1_mendingPrice_35 : decode cX1_mendingPrice 35 = .ok (.iload 5, 2) := by decide +kernel
theorem dX1_mendingPrice_37 : decode cX1_mendingPrice 37 = .ok (.iconst 4, 1) := by decide +kernel
theorem dX1_mendingPrice_38 : decode cX1_mendingPrice 38 = .ok (.if_icmp .ge 17, 3) := by decide +kernel
theorem dX1_mendingPrice_41 : decode cX1_mendingPrice 41 = .ok (.aload_n 0, 1) := by decide +kernel
theorem dX1_mendingPrice_42 : decode cX1_mendingPrice 42 = .ok (.getfield 9, 3) := by decide +kernel
theorem dX1_mendingPrice_45 : decode cX1_mendingPrice 45 = .ok (.iload 5, 2) := by decide +kernel
theorem dX1_mendingPrice_47 : decode cX1_mendingPrice 47 = .ok (.iconst 0, 1) := by decide +kernel
theorem dX1_mendingPrice_48 : decode cX1_mendingPrice 48 = .ok (.iastore, 1) := by decide +kernel
theorem dX1_mendingPrice_49 : decode cX1_mendingPrice 49 = .ok (.iinc 5 1, 3) := by decide +kernel
theorem dX1_mendingPrice_52 : decode cX1_mendingPrice 52 = .ok (.goto (-17), 3) := by decide +kernel
theorem dX1_mendingPrice_55 : decode cX1_mendingPrice 55 = .ok (.aload_n 0, 1) := by decide +kernel
theorem dX1_mendingPrice_56 : decode cX1_mendingPrice 56 = .ok (.invokevirtual 102, 3) := by decide +kernel
theorem dX1_mendingPrice_59 : decode cX1_mendingPrice 59 = .ok (.pop, 1) := by decide +kernel
theorem dX1_mendingPrice_60 : decode cX1_mendingPrice 60 = .ok (.aload_n 0, 1) := by decide +kernel
theorem dX1_mendingPrice_61 : decode cX1_mendingPrice 61 = .ok (.invokevirtual 105, 3) := by decide +kernel
theorem dX1_mendingPrice_64 : decode cX1_mendingPrice 64 = .ok (.istore 5, 2) := by decide +kernel
theorem dX1_mendingPrice_66 : decode cX1_mendingPrice 66 = .ok (.iload 4, 2) := by decide +kernel
theorem dX1_mendingPrice_68 : decode cX1_mendingPrice 68 = .ok (.ifCond .eq 9, 3) := by decide +kernel
theorem dX1_mendingPrice_71 : decode cX1_mendingPrice 71 = .ok (.iload 5, 2) := by decide +kernel
theorem dX1_mendingPrice_73 : decode cX1_mendingPrice 73 = .ok (.iload_n 3, 1) := by decide +kernel
theorem dX1_mendingPrice_74 : decode cX1_mendingPrice 74 = .ok (.if_icmp .ge 9, 3) := by decide +kernel
theorem dX1_mendingPrice_77 : decode cX1_mendingPrice 77 = .ok (.iload 5, 2) := by decide +kernel
theorem dX1_mendingPrice_79 : decode cX1_mendingPrice 79 = .ok (.istore_n 3, 1) := by decide +kernel
theorem dX1_mendingPrice_80 : decode cX1_mendingPrice 80 = .ok (.iload 4, 2) := by decide +kernel
theorem dX1_mendingPrice_82 : decode cX1_mendingPrice 82 = .ok (.istore_n 2, 1) := by decide +kernel
theorem dX1_mendingPrice_83 : decode cX1_mendingPrice 83 = .ok (.iinc 4 1, 3) := by decide +kernel
theorem dX1_mendingPrice_86 : decode cX1_mendingPrice 86 = .ok (.goto (-74), 3) := by decide +kernel
theorem dX1_mendingPrice_89 : decode cX1_mendingPrice 89 = .ok (.iload_n 2, 1) := by decide +kernel
theorem dX1_mendingPrice_90 : decode cX1_mendingPrice 90 = .ok (.ireturn, 1) := by decide +kernel
set_option maxHeartbeats 4000000 in
set_option maxRecDepth 100000 in
theorem x_mendingPrice (l : Launch) (D : va_G) (k : Nat → ClassId) (st : Nat → Nat) (lo : Nat) (c0 : Nat) (z0 : Nat) (z1 : Nat) (z2 : Nat) (z3 : Nat) (pn : Nat) (pf : Int32) (pd : Int32) (pe : Int32) (pb : Nat → Nat) (pco : Nat → Int32) (c1 : Nat) (c2 : Nat) (cc : Nat) (rz : Nat) (ro : Int32) (sd : Int32) (p0 : Int32) (hpn : pn ≤ 24) (hcc : cc ≤ 4) (hpb : ∀ j, pb j ≤ 24) : CWi l D k st lo yX1_mendingPrice cX1_mendingPrice 6 (some .int) ({ frames := 5, cells := 0, slots := 0, locals := 117 }) 0 0 [.ref z0, .int p0] [(z0, .inr (1, (fX1 c0 z1 z2 z3 (nI pn) pf pd pe))), (aI k z1 4 (nF pb)), (aI k z2 100 pco), (c0, .inr (4, (fX4 c1 c2 (nI cc) (nI rz) ro sd)))] (fun (r : Int32) (u : Int32 × Int32 × (Nat → Nat)) => match u with | (pd_, pe_, pb_) => ∀ j, pb_ j ≤ 24) (fun (u : Int32 × Int32 × (Nat → Nat)) => match u with | (pd_, pe_, pb_) => [(z0, .inr (1, (fX1 c0 z1 z2 z3 (nI pn) pf pd_ pe_))), (aI k z1 4 (nF pb_)), (aI k z2 100 pco), (c0, .inr (4, (fX4 c1 c2 (nI cc) (nI rz) ro sd)))]) := by
  intro sz
  refine Met.ofW (cc := cX1_mendingPrice) (maxL := 6) (ret := (some .int)) (by decide) rfl ?_
  intro p e s m args below meth c s₁ B hml hv
  obtain ⟨rfl, hsz, hlo, hP, hK, hDL, hZ⟩ := hv
  have hx := B.exec
  have hb := B.bytes
  have hr := B.returns
  have hts := WS_ts B.pre
  have hown : s.vm.findClass RX1 = some m.cls := findClass_of_methodNamed B.named
  have hlocks := B.notSynchronized
  subst hsz
  have hD := hDL.self (sz := s.heap.size)
  have hAlo := A_lo hDL hlo
  generalize hAe : va_A [(z0, .inr (1, (fX1 c0 z1 z2 z3 (nI pn) pf pd pe))), (aI k z1 4 (nF pb)), (aI k z2 100 pco), (c0, .inr (4, (fX4 c1 c2 (nI cc) (nI rz) ro sd)))] s.heap.size = A at hD hAlo ⊢
  have hA : ∀ q : Nat, s.heap.size ≤ q → A q := fun q h => by rw [← hAe]; exact Or.inr h
  have hS : va_S A s.heap s.heap [] := va_S.rf
  have hl := lv_entry ([.ref z0, .int p0]) (n := 6) (Nat.le_of_ble_eq_true rfl)
  rw [lg_entry_eq]
  generalize (lg_sl ([.ref z0, .int p0]) ++ List.replicate (6 - (lg_sl ([.ref z0, .int p0])).length) Slot.unset).toArray = ls at hl ⊢
  have hl : lv_has ls 6 [(0, .ref z0), (1, .int p0)] := hl
  refine lv_aload_n hx hb dX1_mendingPrice_0 rfl (lv_at hl 0 rfl) ?_
  refine lv_iload_n hx hb dX1_mendingPrice_1 rfl (lv_at hl 1 rfl) ?_
  refine va_put (D := D) (ci := 1) (v := .int p0) (ty := .int) (C := RX1) (T := TX1) (N := 8) hx hb hts inX1 tyX1 tyX1_ok nmX1 hown hK hP hD hS 0 rfl rfl 6 (by decide) (hts _ tw_242) (fun _ h9 => h9) rfl (by decide +kernel) rfl rfl (Nat.le_of_ble_eq_true rfl) dX1_mendingPrice_2 (fun H locs hP hD hS => ?_)
  have hQ9 := pd_mk [(z0, .inr (1, (fX1 c0 z1 z2 z3 (nI pn) pf p0 pe))), (aI k z1 4 (nF pb)), (aI k z2 100 pco), (c0, .inr (4, (fX4 c1 c2 (nI cc) (nI rz) ro sd)))] hP hD
  clear hP hD
  obtain ⟨hP, hD⟩ := hQ9
  refine lv_iconst (v := 0) hx hb dX1_mendingPrice_5 (by decide) ?_
  refine lv_istore_n (lv' := [(2, .int 0), (0, .ref z0), (1, .int p0)]) hx hb dX1_mendingPrice_6 rfl hl (by decide) rfl (fun ls hl => ?_)
  refine lv_iconst (v := 0) hx hb dX1_mendingPrice_7 (by decide) ?_
  refine lv_istore_n (lv' := [(3, .int 0), (2, .int 0), (0, .ref z0), (1, .int p0)]) hx hb dX1_mendingPrice_8 rfl hl (by decide) rfl (fun ls hl => ?_)
  refine lv_iconst (v := 0) hx hb dX1_mendingPrice_9 (by decide) ?_
  refine lv_istore (lv' := [(4, .int 0), (3, .int 0), (2, .int 0), (0, .ref z0), (1, .int p0)]) hx hb dX1_mendingPrice_10 hl (by decide) rfl (fun ls hl => ?_)
  refine W_loop (σ := Nat × Int32 × Int32 × Int32 × (Nat → Nat)) (fun (n_ : Nat) (x_ : Nat × Int32 × Int32 × Int32 × (Nat → Nat)) (H : Heap) (locs : List Loc) (ls : Array Slot) => match x_ with | (pp_1, me_1, le_1, pe2_1, pb2_1) => n_ = 22 - pp_1 ∧ ((pp_1 ≤ 21) ∧ (∀ j, pb2_1 j ≤ 24)) ∧ va_P D classes [(z0, .inr (1, (fX1 c0 z1 z2 z3 (nI pn) pf p0 pe2_1))), (aI k z1 4 (nF pb2_1)), (aI k z2 100 pco), (c0, .inr (4, (fX4 c1 c2 (nI cc) (nI rz) ro sd)))] H ∧ va_D A [(z0, .inr (1, (fX1 c0 z1 z2 z3 (nI pn) pf p0 pe2_1))), (aI k z1 4 (nF pb2_1)), (aI k z2 100 pco), (c0, .inr (4, (fX4 c1 c2 (nI cc) (nI rz) ro sd)))] ∧ va_S A s.heap H locs ∧ lv_has ls 6 [(4, .int (nI pp_1)), (3, .int le_1), (2, .int me_1), (0, .ref z0), (1, .int p0)]) (fun n_1 x_1 H locs ls hI ih_1 => ?_) _ (0, 0, 0, pe, pb) ⟨rfl, ⟨by omega, hpb⟩, hP, hD, hS, (lv_sub hl [0, 1, 2, 3, 4] rfl)⟩
  obtain ⟨pp_1, me_1, le_1, pe2_1, pb2_1⟩ := x_1
  obtain ⟨hm_1, hv_1, hP, hD, hS, hl⟩ := hI
  subst hm_1
  have hpl_1 := hv_1.2
  refine lv_iload hx hb dX1_mendingPrice_12 (lv_at hl 0 rfl) ?_
  refine lv_bipush (v := 20) hx hb dX1_mendingPrice_14 (by decide) ?_
  refine lv_icmp_gt (tgt := 89) hx hb dX1_mendingPrice_16 (by decide) (fun c_2 => ?_) (fun c_2 => ?_)
  · have c_2 := (nI_ltI (a := 20) (b := pp_1) (by omega) (by omega)).mp c_2
    refine lv_iload_n hx hb dX1_mendingPrice_89 rfl (lv_at hl 2 rfl) ?_
    obtain ⟨hP9, hD9⟩ := pd_sub [(z0, .inr (1, (fX1 c0 z1 z2 z3 (nI pn) pf p0 pe2_1))), (aI k z1 4 (nF pb2_1)), (aI k z2 100 pco), (c0, .inr (4, (fX4 c1 c2 (nI cc) (nI rz) ro sd)))] [0, 1, 2, 3] hP hD (by decide) rfl
    exact W.iret (v := me_1) hx hb hr (fun t ht hW => ⟨⟨me_1, (p0, pe2_1, pb2_1), rfl, hpl_1, by rw [ht]; exact hP9, hD9⟩, hS.F ht⟩) hS.2.2 dX1_mendingPrice_90
  · have c_2 : ¬ (20 < pp_1) := fun h => c_2 ((nI_ltI (a := 20) (b := pp_1) (by omega) (by omega)).mpr h)
    refine lv_aload_n hx hb dX1_mendingPrice_19 rfl (lv_at hl 3 rfl) ?_
    refine lv_bipush (v := 10) hx hb dX1_mendingPrice_20 (by decide) ?_
    refine lv_iload hx hb dX1_mendingPrice_22 (lv_at hl 0 rfl) ?_
    refine lv_imul hx hb dX1_mendingPrice_24 ?_
    refine lv_ti (y := (nI (10 * pp_1))) (pk_mul 10 pp_1) ?_
    refine lv_sipush (v := 1000) hx hb dX1_mendingPrice_25 (by decide) ?_
    refine lv_imul hx hb dX1_mendingPrice_28 ?_
    refine lv_ti (y := (nI ((10 * pp_1) * 1000))) (pk_mul (10 * pp_1) 1000) ?_
    refine va_put (D := D) (ci := 1) (v := .int (nI ((10 * pp_1) * 1000))) (ty := .int) (C := RX1) (T := TX1) (N := 8) hx hb hts inX1 tyX1 tyX1_ok nmX1 hown hK hP hD hS 0 rfl rfl 7 (by decide) (hts _ tw_243) (fun _ h9 => h9) rfl (by decide +kernel) rfl rfl (Nat.le_of_ble_eq_true rfl) dX1_mendingPrice_29 (fun H locs hP hD hS => ?_)
    have hQ9 := pd_mk [(z0, .inr (1, (fX1 c0 z1 z2 z3 (nI pn) pf p0 (nI ((10 * pp_1) * 1000))))), (aI k z1 4 (nF pb2_1)), (aI k z2 100 pco), (c0, .inr (4, (fX4 c1 c2 (nI cc) (nI rz) ro sd)))] hP hD
    clear hP hD
    obtain ⟨hP, hD⟩ := hQ9
    refine lv_iconst (v := 0) hx hb dX1_mendingPrice_32 (by decide) ?_
    refine lv_istore (lv' := [(5, .int 0), (4, .int (nI pp_1)), (3, .int le_1), (2, .int me_1), (0, .ref z0), (1, .int p0)]) hx hb dX1_mendingPrice_33 hl (by decide) rfl (fun ls hl => ?_)
    refine lv_iload hx hb dX1_mendingPrice_35 (lv_at hl 0 rfl) ?_
    refine lv_iconst (v := 4) hx hb dX1_mendingPrice_37 (by decide) ?_
    refine lv_icmp_ge (tgt := 55) hx hb dX1_mendingPrice_38 (by decide) (fun h => absurd h (by decide)) (fun _ => ?_)
    refine lv_aload_n hx hb dX1_mendingPrice_41 rfl (lv_at hl 4 rfl) ?_
    refine va_get (D := D) (ci := 1) (v := .ref z1) (C := RX1) (T := TX1) (N := 8) hx hb hts inX1 hown hK hP 0 rfl rfl 1 (by decide) (hts _ tw_236) (fun _ h9 => h9) rfl dX1_mendingPrice_42 ?_
    refine lv_iload hx hb dX1_mendingPrice_45 (lv_at hl 0 rfl) ?_
    refine lv_iconst (v := 0) hx hb dX1_mendingPrice_47 (by decide) ?_
    refine va_iast hx hb hK hP hD hS 1 1 rfl rfl (by unfold vp_in; decide) dX1_mendingPrice_48 (fun H locs hP hD hS => ?_)
    have hQ9 := pd_mk [(z0, .inr (1, (fX1 c0 z1 z2 z3 (nI pn) pf p0 (nI ((10 * pp_1) * 1000))))), (aI k z1 4 (upd (nF pb2_1) (Int32.toNatClampNeg 0) 0)), (aI k z2 100 pco), (c0, .inr (4, (fX4 c1 c2 (nI cc) (nI rz) ro sd)))] hP hD
    clear hP hD
    obtain ⟨hP, hD⟩ := hQ9
    rw [show upd (nF pb2_1) (Int32.toNatClampNeg 0) 0 = nF (fun j => if j = 0 then 0 else pb2_1 j) from nF_upd _ _ _] at hP hD
    obtain ⟨d_4, hd_4⟩ : ∃ z : Nat → Nat, z = (fun j => if j = 0 then 0 else pb2_1 j) := ⟨_, rfl⟩
    rw [← hd_4] at hP hD
    have hbb_4 : ∀ j, d_4 j ≤ 24 := by rw [hd_4]; exact up_le hpl_1 (by omega)
    refine lv_iinc (v := 1) (lv' := [(5, .int 1), (4, .int (nI pp_1)), (3, .int le_1), (2, .int me_1), (0, .ref z0), (1, .int p0)]) hx hb dX1_mendingPrice_49 hl (k := 0) rfl (by decide) (by decide) rfl (fun ls hl => ?_)
    refine lv_goto (tgt := 35) hx hb dX1_mendingPrice_52 (by decide) ?_
    refine lv_iload hx hb dX1_mendingPrice_35 (lv_at hl 0 rfl) ?_
    refine lv_iconst (v := 4) hx hb dX1_mendingPrice_37 (by decide) ?_
    refine lv_icmp_ge (tgt := 55) hx hb dX1_mendingPrice_38 (by decide) (fun h => absurd h (by decide)) (fun _ => ?_)
    refine lv_aload_n hx hb dX1_mendingPrice_41 rfl (lv_at hl 4 rfl) ?_
    refine va_get (D := D) (ci := 1) (v := .ref z1) (C := RX1) (T := TX1) (N := 8) hx hb hts inX1 hown hK hP 0 rfl rfl 1 (by decide) (hts _ tw_236) (fun _ h9 => h9) rfl dX1_mendingPrice_42 ?_
    refine lv_iload hx hb dX1_mendingPrice_45 (lv_at hl 0 rfl) ?_
    refine lv_iconst (v := 0) hx hb dX1_mendingPrice_47 (by decide) ?_
    refine va_iast hx hb hK hP hD hS 1 1 rfl rfl (by unfold vp_in; decide) dX1_mendingPrice_48 (fun H locs hP hD hS => ?_)
    have hQ9 := pd_mk [(z0, .inr (1, (fX1 c0 z1 z2 z3 (nI pn) pf p0 (nI ((10 * pp_1) * 1000))))), (aI k z1 4 (upd (nF d_4) (Int32.toNatClampNeg 1) 0)), (aI k z2 100 pco), (c0, .inr (4, (fX4 c1 c2 (nI cc) (nI rz) ro sd)))] hP hD
    clear hP hD
    obtain ⟨hP, hD⟩ := hQ9
    rw [show upd (nF d_4) (Int32.toNatClampNeg 1) 0 = nF (fun j => if j = 1 then 0 else d_4 j) from nF_upd _ _ _] at hP hD
    obtain ⟨d_6, hd_6⟩ : ∃ z : Nat → Nat, z = (fun j => if j = 1 then 0 else d_4 j) := ⟨_, rfl⟩
    rw [← hd_6] at hP hD
    have hbb_6 : ∀ j, d_6 j ≤ 24 := by rw [hd_6]; exact up_le hbb_4 (by omega)
    refine lv_iinc (v := 2) (lv' := [(5, .int 2), (4, .int (nI pp_1)), (3, .int le_1), (2, .int me_1), (0, .ref z0), (1, .int p0)]) hx hb dX1_mendingPrice_49 hl (k := 0) rfl (by decide) (by decide) rfl (fun ls hl => ?_)
    refine lv_goto (tgt := 35) hx hb dX1_mendingPrice_52 (by decide) ?_
    refine lv_iload hx hb dX1_mendingPrice_35 (lv_at hl 0 rfl) ?_
    refine lv_iconst (v := 4) hx hb dX1_mendingPrice_37 (by decide) ?_
    refine lv_icmp_ge (tgt := 55) hx hb dX1_mendingPrice_38 (by decide) (fun h => absurd h (by decide)) (fun _ => ?_)
    refine lv_aload_n hx hb dX1_mendingPrice_41 rfl (lv_at hl 4 rfl) ?_
    refine va_get (D := D) (ci := 1) (v := .ref z1) (C := RX1) (T := TX1) (N := 8) hx hb hts inX1 hown hK hP 0 rfl rfl 1 (by decide) (hts _ tw_236) (fun _ h9 => h9) rfl dX1_mendingPrice_42 ?_
    refine lv_iload hx hb dX1_mendingPrice_45 (lv_at hl 0 rfl) ?_
    refine lv_iconst (v := 0) hx hb dX1_mendingPrice_47 (by decide) ?_
    refine va_iast hx hb hK hP hD hS 1 1 rfl rfl (by unfold vp_in; decide) dX1_mendingPrice_48 (fun H locs hP hD hS => ?_)
    have hQ9 := pd_mk [(z0, .inr (1, (fX1 c0 z1 z2 z3 (nI pn) pf p0 (nI ((10 * pp_1) * 1000))))), (aI k z1 4 (upd (nF d_6) (Int32.toNatClampNeg 2) 0)), (aI k z2 100 pco), (c0, .inr (4, (fX4 c1 c2 (nI cc) (nI rz) ro sd)))] hP hD
    clear hP hD
    obtain ⟨hP, hD⟩ := hQ9
    rw [show upd (nF d_6) (Int32.toNatClampNeg 2) 0 = nF (fun j => if j = 2 then 0 else d_6 j) from nF_upd _ _ _] at hP hD
    obtain ⟨d_8, hd_8⟩ : ∃ z : Nat → Nat, z = (fun j => if j = 2 then 0 else d_6 j) := ⟨_, rfl⟩
    rw [← hd_8] at hP hD
    have hbb_8 : ∀ j, d_8 j ≤ 24 := by rw [hd_8]; exact up_le hbb_6 (by omega)
    refine lv_iinc (v := 3) (lv' := [(5, .int 3), (4, .int (nI pp_1)), (3, .int le_1), (2, .int me_1), (0, .ref z0), (1, .int p0)]) hx hb dX1_mendingPrice_49 hl (k := 0) rfl (by decide) (by decide) rfl (fun ls hl => ?_)
    refine lv_goto (tgt := 35) hx hb dX1_mendingPrice_52 (by decide) ?_
    refine lv_iload hx hb dX1_mendingPrice_35 (lv_at hl 0 rfl) ?_
    refine lv_iconst (v := 4) hx hb dX1_mendingPrice_37 (by decide) ?_
    refine lv_icmp_ge (tgt := 55) hx hb dX1_mendingPrice_38 (by decide) (fun h => absurd h (by decide)) (fun _ => ?_)
    refine lv_aload_n hx hb dX1_mendingPrice_41 rfl (lv_at hl 4 rfl) ?_
    refine va_get (D := D) (ci := 1) (v := .ref z1) (C := RX1) (T := TX1) (N := 8) hx hb hts inX1 hown hK hP 0 rfl rfl 1 (by decide) (hts _ tw_236) (fun _ h9 => h9) rfl dX1_mendingPrice_42 ?_
    refine lv_iload hx hb dX1_mendingPrice_45 (lv_at hl 0 rfl) ?_
    refine lv_iconst (v := 0) hx hb dX1_mendingPrice_47 (by decide) ?_
    refine va_iast hx hb hK hP hD hS 1 1 rfl rfl (by unfold vp_in; decide) dX1_mendingPrice_48 (fun H locs hP hD hS => ?_)
    have hQ9 := pd_mk [(z0, .inr (1, (fX1 c0 z1 z2 z3 (nI pn) pf p0 (nI ((10 * pp_1) * 1000))))), (aI k z1 4 (upd (nF d_8) (Int32.toNatClampNeg 3) 0)), (aI k z2 100 pco), (c0, .inr (4, (fX4 c1 c2 (nI cc) (nI rz) ro sd)))] hP hD
    clear hP hD
    obtain ⟨hP, hD⟩ := hQ9
    rw [show upd (nF d_8) (Int32.toNatClampNeg 3) 0 = nF (fun j => if j = 3 then 0 else d_8 j) from nF_upd _ _ _] at hP hD
    obtain ⟨d_10, hd_10⟩ : ∃ z : Nat → Nat, z = (fun j => if j = 3 then 0 else d_8 j) := ⟨_, rfl⟩
    rw [← hd_10] at hP hD
    have hbb_10 : ∀ j, d_10 j ≤ 24 := by rw [hd_10]; exact up_le hbb_8 (by omega)
    refine lv_iinc (v := 4) (lv' := [(5, .int 4), (4, .int (nI pp_1)), (3, .int le_1), (2, .int me_1), (0, .ref z0), (1, .int p0)]) hx hb dX1_mendingPrice_49 hl (k := 0) rfl (by decide) (by decide) rfl (fun ls hl => ?_)
    refine lv_goto (tgt := 35) hx hb dX1_mendingPrice_52 (by decide) ?_
    refine lv_iload hx hb dX1_mendingPrice_35 (lv_at hl 0 rfl) ?_
    refine lv_iconst (v := 4) hx hb dX1_mendingPrice_37 (by decide) ?_
    refine lv_icmp_ge (tgt := 55) hx hb dX1_mendingPrice_38 (by decide) (fun _ => ?_) (fun h => absurd (by decide) h)
    refine lv_aload_n hx hb dX1_mendingPrice_55 rfl (lv_at hl 4 rfl) ?_
    refine rw_i (D := D) (wr := []) (va_runV (As := []) (rest := []) ⟨hx, hb, hml, hown, hts⟩ ((x_goByTurns l D k st lo c0 z0 z1 z2 z3 pn pf p0 (nI ((10 * pp_1) * 1000)) d_10 pco c1 c2 cc rz ro sd (by first | assumption | omega) (by first | assumption | omega) hbb_10) H.size) (cwV 0 hts (gV tw_918 tw_872 tw_873 tw_84 tw_874) rfl rfl rfl (by decide +kernel) ⟨Nat.le_of_ble_eq_true rfl, Nat.le_of_ble_eq_true rfl⟩) (pV hS hAlo hlo hP hK (va_Dlo hD hAlo) hZ [0, 1, 2, 3] (by decide) rfl (ci := 1) (q := (RX1, TX1, 8)) (q0 := 0) rfl rfl) rfl rfl hl.1 rfl (lv_room (Nat.le_of_ble_eq_true rfl)) dX1_mendingPrice_56 ⟨Nat.le_of_ble_eq_true rfl, Nat.le_of_ble_eq_true rfl⟩) hS hA hP hD [0, 1, 2, 3] [] rfl rfl (by decide) (by decide) (fun r_11 u H locs hw_11 hP hD hS => ?_)
    obtain ⟨pb__11, rfl⟩ : ∃ z, z = u := ⟨_, rfl⟩
    have hQ9 := pd_mk [(z0, .inr (1, (fX1 c0 z1 z2 z3 (nI pn) pf p0 (nI ((10 * pp_1) * 1000))))), (aI k z1 4 (nF pb__11)), (aI k z2 100 pco), (c0, .inr (4, (fX4 c1 c2 (nI cc) (nI rz) ro sd)))] hP hD
    clear hP hD
    obtain ⟨hP, hD⟩ := hQ9
    try dsimp only at hw_11
    refine lv_pop hx hb dX1_mendingPrice_59 rfl ?_
    refine lv_aload_n hx hb dX1_mendingPrice_60 rfl (lv_at hl 4 rfl) ?_
    refine ro_i (D := D) (va_runV (As := []) (rest := []) ⟨hx, hb, hml, hown, hts⟩ ((x_costOfAll l D k st lo c0 z0 z1 z2 z3 pn pf p0 (nI ((10 * pp_1) * 1000)) pb__11 pco c1 c2 cc rz ro sd (by first | assumption | omega) (by first | assumption | omega) hw_11) H.size) (cwV 0 hts (gV tw_919 tw_898 tw_899 tw_84 tw_900) rfl rfl rfl (by decide +kernel) ⟨Nat.le_of_ble_eq_true rfl, Nat.le_of_ble_eq_true rfl⟩) (pV hS hAlo hlo hP hK (va_Dlo hD hAlo) hZ [0, 1, 2, 3] (by decide) rfl (ci := 1) (q := (RX1, TX1, 8)) (q0 := 0) rfl rfl) rfl rfl hl.1 rfl (lv_room (Nat.le_of_ble_eq_true rfl)) dX1_mendingPrice_61 ⟨Nat.le_of_ble_eq_true rfl, Nat.le_of_ble_eq_true rfl⟩) hS hA hP (fun r_12 H locs hw_12 hP hS => ?_)
    try dsimp only at hw_12
    refine lv_istore (lv' := [(5, .int r_12), (4, .int (nI pp_1)), (3, .int le_1), (2, .int me_1), (0, .ref z0), (1, .int p0)]) hx hb dX1_mendingPrice_64 hl (by decide) rfl (fun ls hl => ?_)
    refine lv_iload hx hb dX1_mendingPrice_66 (lv_at hl 1 rfl) ?_
    refine lv_if_eq (tgt := 77) hx hb dX1_mendingPrice_68 (by decide) (fun c_13 => ?_) (fun c_13 => ?_)
    · have c_13 := (nI_eq (a := pp_1) (b := 0) (by omega) (by omega)).mp c_13
      refine lv_iload hx hb dX1_mendingPrice_77 (lv_at hl 0 rfl) ?_
      refine lv_istore_n (lv' := [(3, .int r_12), (5, .int r_12), (4, .int (nI pp_1)), (2, .int me_1), (0, .ref z0), (1, .int p0)]) hx hb dX1_mendingPrice_79 rfl hl (by decide) rfl (fun ls hl => ?_)
      refine lv_iload hx hb dX1_mendingPrice_80 (lv_at hl 2 rfl) ?_
      refine lv_istore_n (lv' := [(2, .int (nI pp_1)), (3, .int r_12), (5, .int r_12), (4, .int (nI pp_1)), (0, .ref z0), (1, .int p0)]) hx hb dX1_mendingPrice_82 rfl hl (by decide) rfl (fun ls hl => ?_)
      refine lv_iinc (v := (nI (pp_1 + 1))) (lv' := [(4, .int (nI (pp_1 + 1))), (2, .int (nI pp_1)), (3, .int r_12), (5, .int r_12), (0, .ref z0), (1, .int p0)]) hx hb dX1_mendingPrice_83 hl (k := 3) rfl (nI_add pp_1 1) (by decide) rfl (fun ls hl => ?_)
      refine lv_goto (tgt := 12) hx hb dX1_mendingPrice_86 (by decide) ?_
      exact ih_1 _ (pp_1 + 1, (nI pp_1), r_12, (nI ((10 * pp_1) * 1000)), pb__11) _ _ _ (by omega) ⟨rfl, ⟨by omega, hw_11⟩, hP, hD, hS, (lv_sub hl [0, 2, 1, 4, 5] rfl)⟩
    · have c_13 : ¬ (pp_1 = 0) := fun h => c_13 ((nI_eq (a := pp_1) (b := 0) (by omega) (by omega)).mpr h)
      refine lv_iload hx hb dX1_mendingPrice_71 (lv_at hl 0 rfl) ?_
      refine lv_iload_n hx hb dX1_mendingPrice_73 rfl (lv_at hl 2 rfl) ?_
      refine lv_icmp_ge (tgt := 83) hx hb dX1_mendingPrice_74 (by decide) (fun c_14 => ?_) (fun c_14 => ?_)
      · refine lv_iinc (v := (nI (pp_1 + 1))) (lv' := [(4, .int (nI (pp_1 + 1))), (5, .int r_12), (3, .int le_1), (2, .int me_1), (0, .ref z0), (1, .int p0)]) hx hb dX1_mendingPrice_83 hl (k := 1) rfl (nI_add pp_1 1) (by decide) rfl (fun ls hl => ?_)
        refine lv_goto (tgt := 12) hx hb dX1_mendingPrice_86 (by decide) ?_
        exact ih_1 _ (pp_1 + 1, me_1, le_1, (nI ((10 * pp_1) * 1000)), pb__11) _ _ _ (by omega) ⟨rfl, ⟨by omega, hw_11⟩, hP, hD, hS, (lv_sub hl [0, 2, 3, 4, 5] rfl)⟩
      · refine lv_iload hx hb dX1_mendingPrice_77 (lv_at hl 0 rfl) ?_
        refine lv_istore_n (lv' := [(3, .int r_12), (5, .int r_12), (4, .int (nI pp_1)), (2, .int me_1), (0, .ref z0), (1, .int p0)]) hx hb dX1_mendingPrice_79 rfl hl (by decide) rfl (fun ls hl => ?_)
        refine lv_iload hx hb dX1_mendingPrice_80 (lv_at hl 2 rfl) ?_
        refine lv_istore_n (lv' := [(2, .int (nI pp_1)), (3, .int r_12), (5, .int r_12), (4, .int (nI pp_1)), (0, .ref z0), (1, .int p0)]) hx hb dX1_mendingPrice_82 rfl hl (by decide) rfl (fun ls hl => ?_)
        refine lv_iinc (v := (nI (pp_1 + 1))) (lv' := [(4, .int (nI (pp_1 + 1))), (2, .int (nI pp_1)), (3, .int r_12), (5, .int r_12), (0, .ref z0), (1, .int p0)]) hx hb dX1_mendingPrice_83 hl (k := 3) rfl (nI_add pp_1 1) (by decide) rfl (fun ls hl => ?_)
        refine lv_goto (tgt := 12) hx hb dX1_mendingPrice_86 (by decide) ?_
        exact ih_1 _ (pp_1 + 1, (nI pp_1), r_12, (nI ((10 * pp_1) * 1000)), pb__11) _ _ _ (by omega) ⟨rfl, ⟨by omega, hw_11⟩, hP, hD, hS, (lv_sub hl [0, 2, 1, 4, 5] rfl)⟩

theorem tw_8 : Cond.selects RX7 yX7_isStreet yX7_isStreet ∈ LW := LWm (i := 8) (by decide +kernel) rfl
theorem tw_9 : Cond.selects RX7 yX7_isDoor yX7_isDoor ∈ LW := LWm (i := 9) (by decide +kernel) rfl
theorem tw_10 : Cond.selects RX7 yX7_isRound yX7_isRound ∈ LW := LWm (i := 10) (by decide +kernel) rfl
theorem tw_11 : Cond.selects RX7 yX7_refuseSight yX7_refuseSight ∈ LW := LWm (i := 11) (by decide +kernel) rfl
theorem tw_18 : Cond.selects RX7 yX7_isSet yX7_isSet ∈ LW := LWm (i := 18) (by decide +kernel) rfl
theorem tw_94 : Cond.initialized RJ6 ∈ LW := LWm1 (i := 16) (by decide +kernel) rfl
theorem tw_111 : Cond.fieldLink RX7 81 "LastPlace$Text" "size" "I" ∈ LW := LWm1 (i := 33) (by decide +kernel) rfl
theorem tw_120 : Cond.fieldLink RX7 292 "LastPlace$Text" "faultNumber" "I" ∈ LW := LWm1 (i := 42) (by decide +kernel) rfl
theorem tw_122 : Cond.fieldLink RX7 289 "LastPlace$Text" "faultByte" "I" ∈ LW := LWm1 (i := 44) (by decide +kernel) rfl
theorem tw_149 : Cond.fieldLink RX7 116 "LastPlace$Street" "values" "[I" ∈ LW := LWm1 (i := 71) (by decide +kernel) rfl
theorem tw_151 : Cond.fieldLink RX7 124 "LastPlace$Street" "frees" "[I" ∈ LW := LWm1 (i := 73) (by decide +kernel) rfl
theorem tw_153 : Cond.fieldLink RX7 127 "LastPlace$Street" "prices" "[I" ∈ LW := LWm1 (i := 75) (by decide +kernel) rfl
theorem tw_180 : Cond.fieldLink RX7 214 "LastPlace$Scene" "carCount" "I" ∈ LW := LWm1 (i := 102) (by decide +kernel) rfl
theorem tw_184 : Cond.fieldLink RX7 176 "LastPlace$Scene" "rowSize" "I" ∈ LW := LWm1 (i := 106) (by decide +kernel) rfl
theorem tw_187 : Cond.fieldLink RX7 183 "LastPlace$Scene" "rowFree" "I" ∈ LW := LWm1 (i := 109) (by decide +kernel) rfl
theorem tw_269 : Cond.fieldLink RX7 155 "LastPlace$BestWay" "starts" "[I" ∈ LW := LWm1 (i := 191) (by decide +kernel) rfl
theorem tw_271 : Cond.fieldLink RX7 158 "LastPlace$BestWay" "ends" "[I" ∈ LW := LWm1 (i := 193) (by decide +kernel) rfl
theorem tw_305 : Cond.fieldLink RX7 12 "LastPlace" "text" "LLastPlace$Text;" ∈ LW := LWm1 (i := 227) (by decide +kernel) rfl
theorem tw_306 : Cond.fieldLink RX7 18 "LastPlace" "streets" "[LLastPlace$Street;" ∈ LW := LWm1 (i := 228) (by decide +kernel) rfl
theorem tw_307 : Cond.fieldLink RX7 24 "LastPlace" "ways" "[LLastPlace$BestWay;" ∈ LW := LWm1 (i := 229) (by decide +kernel) rfl
theorem tw_310 : Cond.fieldLink RX7 39 "LastPlace" "ruleCount" "I" ∈ LW := LWm1 (i := 232) (by decide +kernel) rfl
theorem tw_311 : Cond.fieldLink RX7 43 "LastPlace" "latestFault" "I" ∈ LW := LWm1 (i := 233) (by decide +kernel) rfl
theorem tw_312 : Cond.fieldLink RX7 49 "LastPlace" "now" "LLastPlace$Scene;" ∈ LW := LWm1 (i := 234) (by decide +kernel) rfl
theorem tw_315 : Cond.fieldLink RX7 64 "LastPlace" "reckoner" "LLastPlace$Reckoner;" ∈ LW := LWm1 (i := 237) (by decide +kernel) rfl
theorem tw_500 : Cond.methodLink RX7 286 yX6_failed ∈ LW := LWm2 (i := 182) (by decide +kernel) rfl
theorem tw_580 : Cond.methodLink RX7 105 yX5_doors ∈ LW := LWm3 (i := 22) (by decide +kernel) rfl
theorem tw_589 : Cond.methodLink RX7 108 yX7_isStreet ∈ LW := LWm3 (i := 31) (by decide +kernel) rfl
theorem tw_591 : Cond.instanceMethod yX7_isStreet ∈ LW := LWm3 (i := 33) (by decide +kernel) rfl
set_option maxRecDepth 100000 in theorem tw_592 : Cond.code yX7_isStreet cX7_isStreet 2 (some .boolean) ∈ LW := LWm3 (i := 34) rfl rfl
theorem tw_593 : Cond.methodLink RX7 112 yX7_isIn ∈ LW := LWm3 (i := 35) (by decide +kernel) rfl
theorem tw_594 : Cond.static yX7_isIn ∈ LW := LWm3 (i := 36) (by decide +kernel) rfl
set_option maxRecDepth 100000 in theorem tw_595 : Cond.code yX7_isIn cX7_isIn 3 (some .boolean) ∈ LW := LWm3 (i := 37) rfl rfl
theorem tw_600 : Cond.methodLink RX7 120 yX7_isDoor ∈ LW := LWm3 (i := 42) (by decide +kernel) rfl
theorem tw_602 : Cond.instanceMethod yX7_isDoor ∈ LW := LWm3 (i := 44) (by decide +kernel) rfl
set_option maxRecDepth 100000 in theorem tw_603 : Cond.code yX7_isDoor cX7_isDoor 3 (some .boolean) ∈ LW := LWm3 (i := 45) rfl rfl
theorem tw_608 : Cond.methodLink RX7 130 yX5_chanceOf ∈ LW := LWm3 (i := 50) (by decide +kernel) rfl
theorem tw_613 : Cond.methodLink RX7 134 yX7_isRound ∈ LW := LWm3 (i := 55) (by decide +kernel) rfl
theorem tw_615 : Cond.instanceMethod yX7_isRound ∈ LW := LWm3 (i := 57) (by decide +kernel) rfl
set_option maxRecDepth 100000 in theorem tw_616 : Cond.code yX7_isRound cX7_isRound 3 (some .boolean) ∈ LW := LWm3 (i := 58) rfl rfl
theorem tw_617 : Cond.methodLink RX7 137 yX5_takingOf ∈ LW := LWm3 (i := 59) (by decide +kernel) rfl
theorem tw_622 : Cond.methodLink RX7 141 yX7_refuseSight ∈ LW := LWm3 (i := 64) (by decide +kernel) rfl
theorem tw_624 : Cond.instanceMethod yX7_refuseSight ∈ LW := LWm3 (i := 66) (by decide +kernel) rfl
set_option maxRecDepth 100000 in theorem tw_625 : Cond.code yX7_refuseSight cX7_refuseSight 6 (some .int) ∈ LW := LWm3 (i := 67) rfl rfl
theorem tw_626 : Cond.methodLink RX7 283 yX5_sightsAt ∈ LW := LWm3 (i := 68) (by decide +kernel) rfl
theorem tw_627 : Cond.methodLink RX7 145 yX0_worthOf ∈ LW := LWm3 (i := 69) (by decide +kernel) rfl
theorem tw_632 : Cond.methodLink RX7 149 yX0_onwardOf ∈ LW := LWm3 (i := 74) (by decide +kernel) rfl
theorem tw_637 : Cond.methodLink RX7 152 yX0_isTaken ∈ LW := LWm3 (i := 79) (by decide +kernel) rfl
theorem tw_649 : Cond.methodLink RX7 161 yX5_garageOf ∈ LW := LWm3 (i := 91) (by decide +kernel) rfl
theorem tw_654 : Cond.methodLink RX7 165 yX0_barOf ∈ LW := LWm3 (i := 96) (by decide +kernel) rfl
theorem tw_655 : Cond.instanceMethod yX0_barOf ∈ LW := LWm3 (i := 97) (by decide +kernel) rfl
theorem tw_656 : Cond.selects RX0 yX0_barOf yX0_barOf ∈ LW := LWm3 (i := 98) (by decide +kernel) rfl
set_option maxRecDepth 100000 in theorem tw_657 : Cond.code yX0_barOf cX0_barOf 4 (some .int) ∈ LW := LWm3 (i := 99) rfl rfl
theorem tw_752 : Cond.methodLink RX7 186 yX4_sawFree ∈ LW := LWm3 (i := 194) (by decide +kernel) rfl
theorem tw_756 : Cond.methodLink RX7 189 yX0_firstWrong ∈ LW := LWm3 (i := 198) (by decide +kernel) rfl
theorem tw_757 : Cond.instanceMethod yX0_firstWrong ∈ LW := LWm3 (i := 199) (by decide +kernel) rfl
theorem tw_758 : Cond.selects RX0 yX0_firstWrong yX0_firstWrong ∈ LW := LWm3 (i := 200) (by decide +kernel) rfl
set_option maxRecDepth 100000 in theorem tw_759 : Cond.code yX0_firstWrong cX0_firstWrong 9 (some .int) ∈ LW := LWm3 (i := 201) rfl rfl
theorem tw_765 : Cond.methodLink RX7 193 yX2_thoughtOf ∈ LW := LWm3 (i := 207) (by decide +kernel) rfl
theorem tw_766 : Cond.instanceMethod yX2_thoughtOf ∈ LW := LWm3 (i := 208) (by decide +kernel) rfl
theorem tw_767 : Cond.selects RX2 yX2_thoughtOf yX2_thoughtOf ∈ LW := LWm3 (i := 209) (by decide +kernel) rfl
set_option maxRecDepth 100000 in theorem tw_768 : Cond.code yX2_thoughtOf cX2_thoughtOf 14 (some .int) ∈ LW := LWm3 (i := 210) rfl rfl
theorem tw_817 : Cond.methodLink RX7 226 yX7_isSet ∈ LW := LWm4 (i := 19) (by decide +kernel) rfl
theorem tw_819 : Cond.instanceMethod yX7_isSet ∈ LW := LWm4 (i := 21) (by decide +kernel) rfl
set_option maxRecDepth 100000 in theorem tw_820 : Cond.code yX7_isSet cX7_isSet 3 (some .boolean) ∈ LW := LWm4 (i := 22) rfl rfl
theorem tw_945 : Cond.methodLink RX7 275 yJ6_bitCount_0f7a4 ∈ LW := LWm4 (i := 147) (by decide +kernel) rfl
theorem tw_946 : Cond.static yJ6_bitCount_0f7a4 ∈ LW := LWm4 (i := 148) (by decide +kernel) rfl
set_option maxRecDepth 100000 in theorem tw_947 : Cond.code yJ6_bitCount_0f7a4 cJ6_bitCount_0f7a4 1 (some .int) ∈ LW := LWm4 (i := 149) rfl rfl
theorem dX7_isStreet_0 : decode cX7_isStreet 0 = .ok (.iload_n 1, 1) := by decide +kernel
theorem dX7_isStreet_1 : decode cX7_isStreet 1 = .ok (.ifCond .lt 24, 3) := by decide +kernel
theorem dX7_isStreet_4 : decode cX7_isStreet 4 = .ok (.iload_n 1, 1) := by decide +kernel
theorem dX7_isStreet_5 : decode cX7_isStreet 5 = .ok (.iconst 3, 1) := by decide +kernel
theorem dX7_isStreet_6 : decode cX7_isStreet 6 = .ok (.if_icmp .ge 19, 3) := by decide +kernel
theorem dX7_isStreet_9 : decode cX7_isStreet 9 = .ok (.aload_n 0, 1) := by decide +kernel
theorem dX7_isStreet_10 : decode cX7_isStreet 10 = .ok (.getfield 18, 3) := by decide +kernel
theorem dX7_isStreet_13 : decode cX7_isStreet 13 = .ok (.iload_n 1, 1) := by decide +kernel
theorem dX7_isStreet_14 : decode cX7_isStreet 14 = .ok (.aaload, 1) := by decide +kernel
theorem dX7_isStreet_15 : decode cX7_isStreet 15 = .ok (.invokevirtual 105, 3) := by decide +kernel
theorem dX7_isStreet_18 : decode cX7_isStreet 18 = .ok (.ifCond .le 7, 3) := by decide +kernel
theorem dX7_isStreet_21 : decode cX7_isStreet 21 = .ok (.iconst 1, 1) := by decide +kernel
theorem dX7_isStreet_22 : decode cX7_isStreet 22 = .ok (.goto 4, 3) := by decide +kernel
theorem dX7_isStreet_25 : decode cX7_isStreet 25 = .ok (.iconst 0, 1) := by decide +kernel
theorem dX7_isStreet_26 : decode cX7_isStreet 26 = .ok (.ireturn, 1) := by decide +kernel
set_option maxHeartbeats 4000000 in
set_option maxRecDepth 100000 in
theorem x_isStreet (l : Launch) (D : va_G) (k : Nat → ClassId) (st : Nat → Nat) (lo : Nat) (a : Nat → Nat) (rk : Nat) (lfa : Int32) (n0 : Nat) (see0 : Nat) (tm0 : Nat) (g0 : Nat → Int32) (n1 : Nat) (see1 : Nat) (tm1 : Nat) (g1 : Nat → Int32) (n2 : Nat) (see2 : Nat) (tm2 : Nat) (g2 : Nat → Int32) (pz : Int32) (hn0 : n0 ≤ 24) (hn1 : n1 ≤ 24) (hn2 : n2 ≤ 24) : CRi l D k st lo yX7_isStreet cX7_isStreet 2 (some .boolean) ({ frames := 1, cells := 0, slots := 0, locals := 20 }) [.ref (a 0), .int pz] [((a 0), .inr (7, (fX7 (a 1) (a 3) (a 19) (a 35) (a 40) (nI rk) lfa (a 53) (a 56) (a 63) (a 64) (a 68)))), ((a 3), .inl (k 3, 3, .inr (.inr (.inr (.inr (a3 (a 4) (a 9) (a 14))))))), ((a 4), .inr (5, (fX5 (a 5) (a 6) (a 7) (a 8)))), (aI k (a 5) 10 (vv n0 see0 tm0 g0)), ((a 9), .inr (5, (fX5 (a 10) (a 11) (a 12) (a 13)))), (aI k (a 10) 10 (vv n1 see1 tm1 g1)), ((a 14), .inr (5, (fX5 (a 15) (a 16) (a 17) (a 18)))), (aI k (a 15) 10 (vv n2 see2 tm2 g2))] (fun r => (r = 1 ∧ ((pz = 0 ∧ 0 < n0) ∨ (pz = 1 ∧ 0 < n1) ∨ (pz = 2 ∧ 0 < n2))) ∨ r = 0) := by
  intro sz
  refine Met.ofW (cc := cX7_isStreet) (maxL := 2) (ret := (some .boolean)) (by decide) rfl ?_
  intro p e s m args below meth c s₁ B hml hv
  obtain ⟨rfl, hsz, hlo, hP, hK, hDL, hZ⟩ := hv
  have hx := B.exec
  have hb := B.bytes
  have hr := B.returns
  have hts := WS_ts B.pre
  have hown : s.vm.findClass RX7 = some m.cls := findClass_of_methodNamed B.named
  have hlocks := B.notSynchronized
  subst hsz
  have hA : ∀ q : Nat, s.heap.size ≤ q → (fun q : Nat => s.heap.size ≤ q) q := fun _ h => h
  have hAlo : ∀ q : Nat, (fun q : Nat => s.heap.size ≤ q) q → lo ≤ q := fun q h => Nat.le_trans hlo h
  have hS : va_S (fun q : Nat => s.heap.size ≤ q) s.heap s.heap [] := va_S.rf
  have hl := lv_entry ([.ref (a 0), .int pz]) (n := 2) (Nat.le_of_ble_eq_true rfl)
  rw [lg_entry_eq]
  generalize (lg_sl ([.ref (a 0), .int pz]) ++ List.replicate (2 - (lg_sl ([.ref (a 0), .int pz])).length) Slot.unset).toArray = ls at hl ⊢
  have hl : lv_has ls 2 [(0, .ref (a 0)), (1, .int pz)] := hl
  refine lv_iload_n hx hb dX7_isStreet_0 rfl (lv_at hl 1 rfl) ?_
  refine lv_if_lt (tgt := 25) hx hb dX7_isStreet_1 (by decide) (fun c_1 => ?_) (fun c_1 => ?_)
  · refine lv_iconst (v := 0) hx hb dX7_isStreet_25 (by decide) ?_
    exact W.zret (v := 0) (ty := .boolean) hx hb hr rfl (fun t ht hW => ⟨⟨0, (), rfl, .inr rfl, trivial⟩, hS.F ht⟩) hS.2.2 dX7_isStreet_26
  · refine lv_iload_n hx hb dX7_isStreet_4 rfl (lv_at hl 1 rfl) ?_
    refine lv_iconst (v := 3) hx hb dX7_isStreet_5 (by decide) ?_
    refine lv_icmp_ge (tgt := 25) hx hb dX7_isStreet_6 (by decide) (fun c_2 => ?_) (fun c_2 => ?_)
    · refine lv_iconst (v := 0) hx hb dX7_isStreet_25 (by decide) ?_
      exact W.zret (v := 0) (ty := .boolean) hx hb hr rfl (fun t ht hW => ⟨⟨0, (), rfl, .inr rfl, trivial⟩, hS.F ht⟩) hS.2.2 dX7_isStreet_26
    · rcases xspl3 c_1 c_2 with rfl | rfl | rfl
      · refine lv_aload_n hx hb dX7_isStreet_9 rfl (lv_at hl 0 rfl) ?_
        refine va_get (D := D) (ci := 7) (v := .ref (a 3)) (C := RX7) (T := TX7) (N := 12) hx hb hts inX7 hown hK hP 0 rfl rfl 1 (by decide) (hts _ tw_306) (fun _ h9 => h9) rfl dX7_isStreet_10 ?_
        refine lv_iload_n hx hb dX7_isStreet_13 rfl (lv_at hl 1 rfl) ?_
        refine va_aldq hx hb hK hP 1 3 rfl rfl (by unfold vp_in; decide) dX7_isStreet_14 ?_
        refine lv_tr (y := .ref (a 4)) rfl ?_
        refine ro_i (D := D) (va_runV (As := []) (rest := []) ⟨hx, hb, hml, hown, hts⟩ ((x_doors l D k st lo (a 4) (a 5) (a 6) (a 7) (a 8) n0 see0 tm0 g0) s.heap.size) (cwV 0 hts (gV tw_580 tw_478 tw_479 tw_81 tw_480) rfl rfl rfl (by decide +kernel) ⟨Nat.le_of_ble_eq_true rfl, Nat.le_of_ble_eq_true rfl⟩) (pV hS hAlo hlo hP hK hDL hZ [2, 3] (by decide) rfl (ci := 5) (q := (RX5, TX5, 4)) (q0 := 0) rfl rfl) rfl rfl hl.1 rfl (lv_room (Nat.le_of_ble_eq_true rfl)) dX7_isStreet_15 ⟨Nat.le_of_ble_eq_true rfl, Nat.le_of_ble_eq_true rfl⟩) hS hA hP (fun r_3 H locs hw_3 hP hS => ?_)
        try dsimp only at hw_3
        subst hw_3
        refine lv_if_le (tgt := 25) hx hb dX7_isStreet_18 (by decide) (fun c_4 => ?_) (fun c_4 => ?_)
        · have c_4 := (nI_leI (a := n0) (b := 0) (by omega) (by omega)).mp c_4
          refine lv_iconst (v := 0) hx hb dX7_isStreet_25 (by decide) ?_
          exact W.zret (v := 0) (ty := .boolean) hx hb hr rfl (fun t ht hW => ⟨⟨0, (), rfl, .inr rfl, trivial⟩, hS.F ht⟩) hS.2.2 dX7_isStreet_26
        · have c_4 : ¬ (n0 ≤ 0) := fun h => c_4 ((nI_leI (a := n0) (b := 0) (by omega) (by omega)).mpr h)
          refine lv_iconst (v := 1) hx hb dX7_isStreet_21 (by decide) ?_
          refine lv_goto (tgt := 26) hx hb dX7_isStreet_22 (by decide) ?_
          exact W.zret (v := 1) (ty := .boolean) hx hb hr rfl (fun t ht hW => ⟨⟨1, (), rfl, .inl ⟨rfl, .inl ⟨rfl, by omega⟩⟩, trivial⟩, hS.F ht⟩) hS.2.2 dX7_isStreet_26
      · refine lv_aload_n hx hb dX7_isStreet_9 rfl (lv_at hl 0 rfl) ?_
        refine va_get (D := D) (ci := 7) (v := .ref (a 3)) (C := RX7) (T := TX7) (N := 12) hx hb hts inX7 hown hK hP 0 rfl rfl 1 (by decide) (hts _ tw_306) (fun _ h9 => h9) rfl dX7_isStreet_10 ?_
        refine lv_iload_n hx hb dX7_isStreet_13 rfl (lv_at hl 1 rfl) ?_
        refine va_aldq hx hb hK hP 1 3 rfl rfl (by unfold vp_in; decide) dX7_isStreet_14 ?_
        refine lv_tr (y := .ref (a 9)) rfl ?_
        refine ro_i (D := D) (va_runV (As := []) (rest := []) ⟨hx, hb, hml, hown, hts⟩ ((x_doors l D k st lo (a 9) (a 10) (a 11) (a 12) (a 13) n1 see1 tm1 g1) s.heap.size) (cwV 0 hts (gV tw_580 tw_478 tw_479 tw_81 tw_480) rfl rfl rfl (by decide +kernel) ⟨Nat.le_of_ble_eq_true rfl, Nat.le_of_ble_eq_true rfl⟩) (pV hS hAlo hlo hP hK hDL hZ [4, 5] (by decide) rfl (ci := 5) (q := (RX5, TX5, 4)) (q0 := 0) rfl rfl) rfl rfl hl.1 rfl (lv_room (Nat.le_of_ble_eq_true rfl)) dX7_isStreet_15 ⟨Nat.le_of_ble_eq_true rfl, Nat.le_of_ble_eq_true rfl⟩) hS hA hP (fun r_5 H locs hw_5 hP hS => ?_)
        try dsimp only at hw_5
        subst hw_5
        refine lv_if_le (tgt := 25) hx hb dX7_isStreet_18 (by decide) (fun c_6 => ?_) (fun c_6 => ?_)
        · have c_6 := (nI_leI (a := n1) (b := 0) (by omega) (by omega)).mp c_6
          refine lv_iconst (v := 0) hx hb dX7_isStreet_25 (by decide) ?_
          exact W.zret (v := 0) (ty := .boolean) hx hb hr rfl (fun t ht hW => ⟨⟨0, (), rfl, .inr rfl, trivial⟩, hS.F ht⟩) hS.2.2 dX7_isStreet_26
        · have c_6 : ¬ (n1 ≤ 0) := fun h => c_6 ((nI_leI (a := n1) (b := 0) (by omega) (by omega)).mpr h)
          refine lv_iconst (v := 1) hx hb dX7_isStreet_21 (by decide) ?_
          refine lv_goto (tgt := 26) hx hb dX7_isStreet_22 (by decide) ?_
          exact W.zret (v := 1) (ty := .boolean) hx hb hr rfl (fun t ht hW => ⟨⟨1, (), rfl, .inl ⟨rfl, .inr (.inl ⟨rfl, by omega⟩)⟩, trivial⟩, hS.F ht⟩) hS.2.2 dX7_isStreet_26
      · refine lv_aload_n hx hb dX7_isStreet_9 rfl (lv_at hl 0 rfl) ?_
        refine va_get (D := D) (ci := 7) (v := .ref (a 3)) (C := RX7) (T := TX7) (N := 12) hx hb hts inX7 hown hK hP 0 rfl rfl 1 (by decide) (hts _ tw_306) (fun _ h9 => h9) rfl dX7_isStreet_10 ?_
        refine lv_iload_n hx hb dX7_isStreet_13 rfl (lv_at hl 1 rfl) ?_
        refine va_aldq hx hb hK hP 1 3 rfl rfl (by unfold vp_in; decide) dX7_isStreet_14 ?_
        refine lv_tr (y := .ref (a 14)) rfl ?_
        refine ro_i (D := D) (va_runV (As := []) (rest := []) ⟨hx, hb, hml, hown, hts⟩ ((x_doors l D k st lo (a 14) (a 15) (a 16) (a 17) (a 18) n2 see2 tm2 g2) s.heap.size) (cwV 0 hts (gV tw_580 tw_478 tw_479 tw_81 tw_480) rfl rfl rfl (by decide +kernel) ⟨Nat.le_of_ble_eq_true rfl, Nat.le_of_ble_eq_true rfl⟩) (pV hS hAlo hlo hP hK hDL hZ [6, 7] (by decide) rfl (ci := 5) (q := (RX5, TX5, 4)) (q0 := 0) rfl rfl) rfl rfl hl.1 rfl (lv_room (Nat.le_of_ble_eq_true rfl)) dX7_isStreet_15 ⟨Nat.le_of_ble_eq_true rfl, Nat.le_of_ble_eq_true rfl⟩) hS hA hP (fun r_7 H locs hw_7 hP hS => ?_)
        try dsimp only at hw_7
        subst hw_7
        refine lv_if_le (tgt := 25) hx hb dX7_isStreet_18 (by decide) (fun c_8 => ?_) (fun c_8 => ?_)
        · have c_8 := (nI_leI (a := n2) (b := 0) (by omega) (by omega)).mp c_8
          refine lv_iconst (v := 0) hx hb dX7_isStreet_25 (by decide) ?_
          exact W.zret (v := 0) (ty := .boolean) hx hb hr rfl (fun t ht hW => ⟨⟨0, (), rfl, .inr rfl, trivial⟩, hS.F ht⟩) hS.2.2 dX7_isStreet_26
        · have c_8 : ¬ (n2 ≤ 0) := fun h => c_8 ((nI_leI (a := n2) (b := 0) (by omega) (by omega)).mpr h)
          refine lv_iconst (v := 1) hx hb dX7_isStreet_21 (by decide) ?_
          refine lv_goto (tgt := 26) hx hb dX7_isStreet_22 (by decide) ?_
          exact W.zret (v := 1) (ty := .boolean) hx hb hr rfl (fun t ht hW => ⟨⟨1, (), rfl, .inl ⟨rfl, .inr (.inr ⟨rfl, by omega⟩)⟩, trivial⟩, hS.F ht⟩) hS.2.2 dX7_isStreet_26

theorem dX7_isDoor_0 : decode cX7_isDoor 0 = .ok (.aload_n 0, 1) := by decide +kernel
theorem dX7_isDoor_1 : decode cX7_isDoor 1 = .ok (.iload_n 1, 1) := by decide +kernel
theorem dX7_isDoor_2 : decode cX7_isDoor 2 = .ok (.invokevirtual 108, 3) := by decide +kernel
theorem dX7_isDoor_5 : decode cX7_isDoor 5 = .ok (.ifCond .eq 24, 3) := by decide +kernel
theorem dX7_isDoor_8 : decode cX7_isDoor 8 = .ok (.iload_n 2, 1) := by decide +kernel
theorem dX7_isDoor_9 : decode cX7_isDoor 9 = .ok (.ifCond .lt 20, 3) := by decide +kernel
theorem dX7_isDoor_12 : decode cX7_isDoor 12 = .ok (.iload_n 2, 1) := by decide +kernel
theorem dX7_isDoor_13 : decode cX7_isDoor 13 = .ok (.aload_n 0, 1) := by decide +kernel
theorem dX7_isDoor_14 : decode cX7_isDoor 14 = .ok (.getfield 18, 3) := by decide +kernel
theorem dX7_isDoor_17 : decode cX7_isDoor 17 = .ok (.iload_n 1, 1) := by decide +kernel
theorem dX7_isDoor_18 : decode cX7_isDoor 18 = .ok (.aaload, 1) := by decide +kernel
theorem dX7_isDoor_19 : decode cX7_isDoor 19 = .ok (.invokevirtual 105, 3) := by decide +kernel
theorem dX7_isDoor_22 : decode cX7_isDoor 22 = .ok (.if_icmp .ge 7, 3) := by decide +kernel
theorem dX7_isDoor_25 : decode cX7_isDoor 25 = .ok (.iconst 1, 1) := by decide +kernel
theorem dX7_isDoor_26 : decode cX7_isDoor 26 = .ok (.goto 4, 3) := by decide +kernel
theorem dX7_isDoor_29 : decode cX7_isDoor 29 = .ok (.iconst 0, 1) := by decide +kernel
theorem dX7_isDoor_30 : decode cX7_isDoor 30 = .ok (.ireturn, 1) := by decide +kernel
set_option maxHeartbeats 4000000 in
set_option maxRecDepth 100000 in
theorem x_isDoor (l : Launch) (D : va_G) (k : Nat → ClassId) (st : Nat → Nat) (lo : Nat) (a : Nat → Nat) (rk : Nat) (lfa : Int32) (n0 : Nat) (see0 : Nat) (tm0 : Nat) (g0 : Nat → Int32) (n1 : Nat) (see1 : Nat) (tm1 : Nat) (g1 : Nat → Int32) (n2 : Nat) (see2 : Nat) (tm2 : Nat) (g2 : Nat → Int32) (pz : Int32) (p1 : Int32) (hn0 : n0 ≤ 24) (hn1 : n1 ≤ 24) (hn2 : n2 ≤ 24) : CRi l D k st lo yX7_isDoor cX7_isDoor 3 (some .boolean) ({ frames := 2, cells := 0, slots := 0, locals := 41 }) [.ref (a 0), .int pz, .int p1] [((a 0), .inr (7, (fX7 (a 1) (a 3) (a 19) (a 35) (a 40) (nI rk) lfa (a 53) (a 56) (a 63) (a 64) (a 68)))), ((a 3), .inl (k 3, 3, .inr (.inr (.inr (.inr (a3 (a 4) (a 9) (a 14))))))), ((a 4), .inr (5, (fX5 (a 5) (a 6) (a 7) (a 8)))), (aI k (a 5) 10 (vv n0 see0 tm0 g0)), ((a 9), .inr (5, (fX5 (a 10) (a 11) (a 12) (a 13)))), (aI k (a 10) 10 (vv n1 see1 tm1 g1)), ((a 14), .inr (5, (fX5 (a 15) (a 16) (a 17) (a 18)))), (aI k (a 15) 10 (vv n2 see2 tm2 g2))] (fun r => (r = 1 ∧ ((pz = 0 ∧ ∃ i : Nat, i < n0 ∧ p1 = nI i) ∨ (pz = 1 ∧ ∃ i : Nat, i < n1 ∧ p1 = nI i) ∨ (pz = 2 ∧ ∃ i : Nat, i < n2 ∧ p1 = nI i))) ∨ r = 0) := by
  intro sz
  refine Met.ofW (cc := cX7_isDoor) (maxL := 3) (ret := (some .boolean)) (by decide) rfl ?_
  intro p e s m args below meth c s₁ B hml hv
  obtain ⟨rfl, hsz, hlo, hP, hK, hDL, hZ⟩ := hv
  have hx := B.exec
  have hb := B.bytes
  have hr := B.returns
  have hts := WS_ts B.pre
  have hown : s.vm.findClass RX7 = some m.cls := findClass_of_methodNamed B.named
  have hlocks := B.notSynchronized
  subst hsz
  have hA : ∀ q : Nat, s.heap.size ≤ q → (fun q : Nat => s.heap.size ≤ q) q := fun _ h => h
  have hAlo : ∀ q : Nat, (fun q : Nat => s.heap.size ≤ q) q → lo ≤ q := fun q h => Nat.le_trans hlo h
  have hS : va_S (fun q : Nat => s.heap.size ≤ q) s.heap s.heap [] := va_S.rf
  have hl := lv_entry ([.ref (a 0), .int pz, .int p1]) (n := 3) (Nat.le_of_ble_eq_true rfl)
  rw [lg_entry_eq]
  generalize (lg_sl ([.ref (a 0), .int pz, .int p1]) ++ List.replicate (3 - (lg_sl ([.ref (a 0), .int pz, .int p1])).length) Slot.unset).toArray = ls at hl ⊢
  have hl : lv_has ls 3 [(0, .ref (a 0)), (1, .int pz), (2, .int p1)] := hl
  refine lv_aload_n hx hb dX7_isDoor_0 rfl (lv_at hl 0 rfl) ?_
  refine lv_iload_n hx hb dX7_isDoor_1 rfl (lv_at hl 1 rfl) ?_
  refine ro_i (D := D) (va_runV (As := [.int pz]) (rest := []) ⟨hx, hb, hml, hown, hts⟩ ((x_isStreet l D k st lo a rk lfa n0 see0 tm0 g0 n1 see1 tm1 g1 n2 see2 tm2 g2 pz (by first | assumption | omega) (by first | assumption | omega) (by first | assumption | omega)) s.heap.size) (cwV 1 hts (gV tw_589 tw_591 tw_8 tw_79 tw_592) rfl rfl rfl (by decide +kernel) ⟨Nat.le_of_ble_eq_true rfl, Nat.le_of_ble_eq_true rfl⟩) (pV hS hAlo hlo hP hK hDL hZ [0, 1, 2, 3, 4, 5, 6, 7] (by decide) rfl (ci := 7) (q := (RX7, TX7, 12)) (q0 := 0) rfl rfl) rfl rfl hl.1 rfl (lv_room (Nat.le_of_ble_eq_true rfl)) dX7_isDoor_2 ⟨Nat.le_of_ble_eq_true rfl, Nat.le_of_ble_eq_true rfl⟩) hS hA hP (fun r_1 H locs hw_1 hP hS => ?_)
  try dsimp only at hw_1
  rcases hw_1 with ⟨rfl, ⟨rfl, hw_1⟩ | ⟨rfl, hw_1⟩ | ⟨rfl, hw_1⟩⟩ | rfl
  · refine lv_if_eq (tgt := 29) hx hb dX7_isDoor_5 (by decide) (fun h => absurd h (by decide)) (fun _ => ?_)
    refine lv_iload_n hx hb dX7_isDoor_8 rfl (lv_at hl 2 rfl) ?_
    refine lv_if_lt (tgt := 29) hx hb dX7_isDoor_9 (by decide) (fun c_2 => ?_) (fun c_2 => ?_)
    · refine lv_iconst (v := 0) hx hb dX7_isDoor_29 (by decide) ?_
      exact W.zret (v := 0) (ty := .boolean) hx hb hr rfl (fun t ht hW => ⟨⟨0, (), rfl, .inr rfl, trivial⟩, hS.F ht⟩) hS.2.2 dX7_isDoor_30
    · obtain ⟨i_9, hi_9, rfl⟩ := nI_of c_2
      refine lv_iload_n hx hb dX7_isDoor_12 rfl (lv_at hl 2 rfl) ?_
      refine lv_aload_n hx hb dX7_isDoor_13 rfl (lv_at hl 0 rfl) ?_
      refine va_get (D := D) (ci := 7) (v := .ref (a 3)) (C := RX7) (T := TX7) (N := 12) hx hb hts inX7 hown hK hP 0 rfl rfl 1 (by decide) (hts _ tw_306) (fun _ h9 => h9) rfl dX7_isDoor_14 ?_
      refine lv_iload_n hx hb dX7_isDoor_17 rfl (lv_at hl 1 rfl) ?_
      refine va_aldq hx hb hK hP 1 3 rfl rfl (by unfold vp_in; decide) dX7_isDoor_18 ?_
      refine lv_tr (y := .ref (a 4)) rfl ?_
      refine ro_i (D := D) (va_runV (As := []) (rest := [.int (nI i_9)]) ⟨hx, hb, hml, hown, hts⟩ ((x_doors l D k st lo (a 4) (a 5) (a 6) (a 7) (a 8) n0 see0 tm0 g0) H.size) (cwV 0 hts (gV tw_580 tw_478 tw_479 tw_81 tw_480) rfl rfl rfl (by decide +kernel) ⟨Nat.le_of_ble_eq_true rfl, Nat.le_of_ble_eq_true rfl⟩) (pV hS hAlo hlo hP hK hDL hZ [2, 3] (by decide) rfl (ci := 5) (q := (RX5, TX5, 4)) (q0 := 0) rfl rfl) rfl rfl hl.1 rfl (lv_room (Nat.le_of_ble_eq_true rfl)) dX7_isDoor_19 ⟨Nat.le_of_ble_eq_true rfl, Nat.le_of_ble_eq_true rfl⟩) hS hA hP (fun r_3 H locs hw_3 hP hS => ?_)
      try dsimp only at hw_3
      subst hw_3
      refine lv_icmp_ge (tgt := 29) hx hb dX7_isDoor_22 (by decide) (fun c_4 => ?_) (fun c_4 => ?_)
      · have c_4 := (nI_leI (a := n0) (b := i_9) (by omega) (by omega)).mp c_4
        refine lv_iconst (v := 0) hx hb dX7_isDoor_29 (by decide) ?_
        exact W.zret (v := 0) (ty := .boolean) hx hb hr rfl (fun t ht hW => ⟨⟨0, (), rfl, .inr rfl, trivial⟩, hS.F ht⟩) hS.2.2 dX7_isDoor_30
      · have c_4 : ¬ (n0 ≤ i_9) := fun h => c_4 ((nI_leI (a := n0) (b := i_9) (by omega) (by omega)).mpr h)
        refine lv_iconst (v := 1) hx hb dX7_isDoor_25 (by decide) ?_
        refine lv_goto (tgt := 30) hx hb dX7_isDoor_26 (by decide) ?_
        exact W.zret (v := 1) (ty := .boolean) hx hb hr rfl (fun t ht hW => ⟨⟨1, (), rfl, .inl ⟨rfl, .inl ⟨rfl, i_9, by omega, rfl⟩⟩, trivial⟩, hS.F ht⟩) hS.2.2 dX7_isDoor_30
  · refine lv_if_eq (tgt := 29) hx hb dX7_isDoor_5 (by decide) (fun h => absurd h (by decide)) (fun _ => ?_)
    refine lv_iload_n hx hb dX7_isDoor_8 rfl (lv_at hl 2 rfl) ?_
    refine lv_if_lt (tgt := 29) hx hb dX7_isDoor_9 (by decide) (fun c_5 => ?_) (fun c_5 => ?_)
    · refine lv_iconst (v := 0) hx hb dX7_isDoor_29 (by decide) ?_
      exact W.zret (v := 0) (ty := .boolean) hx hb hr rfl (fun t ht hW => ⟨⟨0, (), rfl, .inr rfl, trivial⟩, hS.F ht⟩) hS.2.2 dX7_isDoor_30
    · obtain ⟨i_9, hi_9, rfl⟩ := nI_of c_5
      refine lv_iload_n hx hb dX7_isDoor_12 rfl (lv_at hl 2 rfl) ?_
      refine lv_aload_n hx hb dX7_isDoor_13 rfl (lv_at hl 0 rfl) ?_
      refine va_get (D := D) (ci := 7) (v := .ref (a 3)) (C := RX7) (T := TX7) (N := 12) hx hb hts inX7 hown hK hP 0 rfl rfl 1 (by decide) (hts _ tw_306) (fun _ h9 => h9) rfl dX7_isDoor_14 ?_
      refine lv_iload_n hx hb dX7_isDoor_17 rfl (lv_at hl 1 rfl) ?_
      refine va_aldq hx hb hK hP 1 3 rfl rfl (by unfold vp_in; decide) dX7_isDoor_18 ?_
      refine lv_tr (y := .ref (a 9)) rfl ?_
      refine ro_i (D := D) (va_runV (As := []) (rest := [.int (nI i_9)]) ⟨hx, hb, hml, hown, hts⟩ ((x_doors l D k st lo (a 9) (a 10) (a 11) (a 12) (a 13) n1 see1 tm1 g1) H.size) (cwV 0 hts (gV tw_580 tw_478 tw_479 tw_81 tw_480) rfl rfl rfl (by decide +kernel) ⟨Nat.le_of_ble_eq_true rfl, Nat.le_of_ble_eq_true rfl⟩) (pV hS hAlo hlo hP hK hDL hZ [4, 5] (by decide) rfl (ci := 5) (q := (RX5, TX5, 4)) (q0 := 0) rfl rfl) rfl rfl hl.1 rfl (lv_room (Nat.le_of_ble_eq_true rfl)) dX7_isDoor_19 ⟨Nat.le_of_ble_eq_true rfl, Nat.le_of_ble_eq_true rfl⟩) hS hA hP (fun r_6 H locs hw_6 hP hS => ?_)
      try dsimp only at hw_6
      subst hw_6
      refine lv_icmp_ge (tgt := 29) hx hb dX7_isDoor_22 (by decide) (fun c_7 => ?_) (fun c_7 => ?_)
      · have c_7 := (nI_leI (a := n1) (b := i_9) (by omega) (by omega)).mp c_7
        refine lv_iconst (v := 0) hx hb dX7_isDoor_29 (by decide) ?_
        exact W.zret (v := 0) (ty := .boolean) hx hb hr rfl (fun t ht hW => ⟨⟨0, (), rfl, .inr rfl, trivial⟩, hS.F ht⟩) hS.2.2 dX7_isDoor_30
      · have c_7 : ¬ (n1 ≤ i_9) := fun h => c_7 ((nI_leI (a := n1) (b := i_9) (by omega) (by omega)).mpr h)
        refine lv_iconst (v := 1) hx hb dX7_isDoor_25 (by decide) ?_
        refine lv_goto (tgt := 30) hx hb dX7_isDoor_26 (by decide) ?_
        exact W.zret (v := 1) (ty := .boolean) hx hb hr rfl (fun t ht hW => ⟨⟨1, (), rfl, .inl ⟨rfl, .inr (.inl ⟨rfl, i_9, by omega, rfl⟩)⟩, trivial⟩, hS.F ht⟩) hS.2.2 dX7_isDoor_30
  · refine lv_if_eq (tgt := 29) hx hb dX7_isDoor_5 (by decide) (fun h => absurd h (by decide)) (fun _ => ?_)
    refine lv_iload_n hx hb dX7_isDoor_8 rfl (lv_at hl 2 rfl) ?_
    refine lv_if_lt (tgt := 29) hx hb dX7_isDoor_9 (by decide) (fun c_8 => ?_) (fun c_8 => ?_)
    · refine lv_iconst (v := 0) hx hb dX7_isDoor_29 (by decide) ?_
      exact W.zret (v := 0) (ty := .boolean) hx hb hr rfl (fun t ht hW => ⟨⟨0, (), rfl, .inr rfl, trivial⟩, hS.F ht⟩) hS.2.2 dX7_isDoor_30
    · obtain ⟨i_9, hi_9, rfl⟩ := nI_of c_8
      refine lv_iload_n hx hb dX7_isDoor_12 rfl (lv_at hl 2 rfl) ?_
      refine lv_aload_n hx hb dX7_isDoor_13 rfl (lv_at hl 0 rfl) ?_
      refine va_get (D := D) (ci := 7) (v := .ref (a 3)) (C := RX7) (T := TX7) (N := 12) hx hb hts inX7 hown hK hP 0 rfl rfl 1 (by decide) (hts _ tw_306) (fun _ h9 => h9) rfl dX7_isDoor_14 ?_
      refine lv_iload_n hx hb dX7_isDoor_17 rfl (lv_at hl 1 rfl) ?_
      refine va_aldq hx hb hK hP 1 3 rfl rfl (by unfold vp_in; decide) dX7_isDoor_18 ?_
      refine lv_tr (y := .ref (a 14)) rfl ?_
      refine ro_i (D := D) (va_runV (As := []) (rest := [.int (nI i_9)]) ⟨hx, hb, hml, hown, hts⟩ ((x_doors l D k st lo (a 14) (a 15) (a 16) (a 17) (a 18) n2 see2 tm2 g2) H.size) (cwV 0 hts (gV tw_580 tw_478 tw_479 tw_81 tw_480) rfl rfl rfl (by decide +kernel) ⟨Nat.le_of_ble_eq_true rfl, Nat.le_of_ble_eq_true rfl⟩) (pV hS hAlo hlo hP hK hDL hZ [6, 7] (by decide) rfl (ci := 5) (q := (RX5, TX5, 4)) (q0 := 0) rfl rfl) rfl rfl hl.1 rfl (lv_room (Nat.le_of_ble_eq_true rfl)) dX7_isDoor_19 ⟨Nat.le_of_ble_eq_true rfl, Nat.le_of_ble_eq_true rfl⟩) hS hA hP (fun r_9 H locs hw_9 hP hS => ?_)
      try dsimp only at hw_9
      subst hw_9
      refine lv_icmp_ge (tgt := 29) hx hb dX7_isDoor_22 (by decide) (fun c_10 => ?_) (fun c_10 => ?_)
      · have c_10 := (nI_leI (a := n2) (b := i_9) (by omega) (by omega)).mp c_10
        refine lv_iconst (v := 0) hx hb dX7_isDoor_29 (by decide) ?_
        exact W.zret (v := 0) (ty := .boolean) hx hb hr rfl (fun t ht hW => ⟨⟨0, (), rfl, .inr rfl, trivial⟩, hS.F ht⟩) hS.2.2 dX7_isDoor_30
      · have c_10 : ¬ (n2 ≤ i_9) := fun h => c_10 ((nI_leI (a := n2) (b := i_9) (by omega) (by omega)).mpr h)
        refine lv_iconst (v := 1) hx hb dX7_isDoor_25 (by decide) ?_
        refine lv_goto (tgt := 30) hx hb dX7_isDoor_26 (by decide) ?_
        exact W.zret (v := 1) (ty := .boolean) hx hb hr rfl (fun t ht hW => ⟨⟨1, (), rfl, .inl ⟨rfl, .inr (.inr ⟨rfl, i_9, by omega, rfl⟩)⟩, trivial⟩, hS.F ht⟩) hS.2.2 dX7_isDoor_30
  · refine lv_if_eq (tgt := 29) hx hb dX7_isDoor_5 (by decide) (fun _ => ?_) (fun h => absurd (by decide) h)
    refine lv_iconst (v := 0) hx hb dX7_isDoor_29 (by decide) ?_
    exact W.zret (v := 0) (ty := .boolean) hx hb hr rfl (fun t ht hW => ⟨⟨0, (), rfl, .inr rfl, trivial⟩, hS.F ht⟩) hS.2.2 dX7_isDoor_30

theorem f_x_isRound_0_rows : True := trivial
theorem dX7_isRound_0 : decode cX7_isRound 0 = .ok (.iload_n 2, 1) := by decide +kernel
theorem dX7_isRound_1 : decode cX7_isRound 1 = .ok (.iconst 0, 1) := by decide +kernel
theorem dX7_isRound_2 : decode cX7_isRound 2 = .ok (.aload_n 0, 1) := by decide +kernel
theorem dX7_isRound_3 : decode cX7_isRound 3 = .ok (.getfield 18, 3) := by decide +kernel
theorem dX7_isRound_6 : decode cX7_isRound 6 = .ok (.iload_n 1, 1) := by decide +kernel
theorem dX7_isRound_7 : decode cX7_isRound 7 = .ok (.aaload, 1) := by decide +kernel
theorem dX7_isRound_8 : decode cX7_isRound 8 = .ok (.getfield 116, 3) := by decide +kernel
theorem dX7_isRound_11 : decode cX7_isRound 11 = .ok (.bipush 8, 2) := by decide +kernel
theorem dX7_isRound_13 : decode cX7_isRound 13 = .ok (.iaload, 1) := by decide +kernel
theorem dX7_isRound_14 : decode cX7_isRound 14 = .ok (.invokestatic 112, 3) := by decide +kernel
theorem dX7_isRound_17 : decode cX7_isRound 17 = .ok (.ireturn, 1) := by decide +kernel
theorem dX7_isSet_0 : decode cX7_isSet 0 = .ok (.iload_n 2, 1) := by decide +kernel
theorem dX7_isSet_1 : decode cX7_isSet 1 = .ok (.ifCond .lt 22, 3) := by decide +kernel
theorem dX7_isSet_4 : decode cX7_isSet 4 = .ok (.iload_n 2, 1) := by decide +kernel
theorem dX7_isSet_5 : decode cX7_isSet 5 = .ok (.iconst 1, 1) := by decide +kernel
theorem dX7_isSet_6 : decode cX7_isSet 6 = .ok (.aload_n 0, 1) := by decide +kernel
theorem dX7_isSet_7 : decode cX7_isSet 7 = .ok (.getfield 18, 3) := by decide +kernel
theorem dX7_isSet_10 : decode cX7_isSet 10 = .ok (.iload_n 1, 1) := by decide +kernel
theorem dX7_isSet_11 : decode cX7_isSet 11 = .ok (.aaload, 1) := by decide +kernel
theorem dX7_isSet_12 : decode cX7_isSet 12 = .ok (.invokevirtual 105, 3) := by decide +kernel
theorem dX7_isSet_15 : decode cX7_isSet 15 = .ok (.ishl, 1) := by decide +kernel
theorem dX7_isSet_16 : decode cX7_isSet 16 = .ok (.if_icmp .ge 7, 3) := by decide +kernel
theorem dX7_isSet_19 : decode cX7_isSet 19 = .ok (.iconst 1, 1) := by decide +kernel
theorem dX7_isSet_20 : decode cX7_isSet 20 = .ok (.goto 4, 3) := by decide +kernel
theorem dX7_isSet_23 : decode cX7_isSet 23 = .ok (.iconst 0, 1) := by decide +kernel
theorem dX7_isSet_24 : decode cX7_isSet 24 = .ok (.ireturn, 1) := by decide +kernel
set_option maxHeartbeats 4000000 in
set_option maxRecDepth 100000 in
theorem x_isSet_0 (l : Launch) (D : va_G) (k : Nat → ClassId) (st : Nat → Nat) (lo : Nat) (a : Nat → Nat) (rk : Nat) (lfa : Int32) (n0 : Nat) (see0 : Nat) (tm0 : Nat) (g0 : Nat → Int32) (p1 : Int32)  : CRi l D k st lo yX7_isSet cX7_isSet 3 (some .boolean) ({ frames := 1, cells := 0, slots := 0, locals := 20 }) [.ref (a 0), .int 0, .int p1] [((a 0), .inr (7, (fX7 (a 1) (a 3) (a 19) (a 35) (a 40) (nI rk) lfa (a 53) (a 56) (a 63) (a 64) (a 68)))), ((a 3), .inl (k 3, 3, .inr (.inr (.inr (.inr (a3 (a 4) (a 9) (a 14))))))), ((a 4), .inr (5, (fX5 (a 5) (a 6) (a 7) (a 8)))), (aI k (a 5) 10 (vv n0 see0 tm0 g0))] (fun r => r = 1 ∨ r = 0) := by
  intro sz
  refine Met.ofW (cc := cX7_isSet) (maxL := 3) (ret := (some .boolean)) (by decide) rfl ?_
  intro p e s m args below meth c s₁ B hml hv
  obtain ⟨rfl, hsz, hlo, hP, hK, hDL, hZ⟩ := hv
  have hx := B.exec
  have hb := B.bytes
  have hr := B.returns
  have hts := WS_ts B.pre
  have hown : s.vm.findClass RX7 = some m.cls := findClass_of_methodNamed B.named
  have hlocks := B.notSynchronized
  subst hsz
  have hA : ∀ q : Nat, s.heap.size ≤ q → (fun q : Nat => s.heap.size ≤ q) q := fun _ h => h
  have hAlo : ∀ q : Nat, (fun q : Nat => s.heap.size ≤ q) q → lo ≤ q := fun q h => Nat.le_trans hlo h
  have hS : va_S (fun q : Nat => s.heap.size ≤ q) s.heap s.heap [] := va_S.rf
  have hl := lv_entry ([.ref (a 0), .int 0, .int p1]) (n := 3) (Nat.le_of_ble_eq_true rfl)
  rw [lg_entry_eq]
  generalize (lg_sl ([.ref (a 0), .int 0, .int p1]) ++ List.replicate (3 - (lg_sl ([.ref (a 0), .int 0, .int p1])).length) Slot.unset).toArray = ls at hl ⊢
  have hl : lv_has ls 3 [(0, .ref (a 0)), (1, .int 0), (2, .int p1)] := hl
  refine lv_iload_n hx hb dX7_isSet_0 rfl (lv_at hl 2 rfl) ?_
  refine lv_if_lt (tgt := 23) hx hb dX7_isSet_1 (by decide) (fun c_1 => ?_) (fun c_1 => ?_)
  · refine lv_iconst (v := 0) hx hb dX7_isSet_23 (by decide) ?_
    exact W.zret (v := 0) (ty := .boolean) hx hb hr rfl (fun t ht hW => ⟨⟨0, (), rfl, .inr rfl, trivial⟩, hS.F ht⟩) hS.2.2 dX7_isSet_24
  · refine lv_iload_n hx hb dX7_isSet_4 rfl (lv_at hl 2 rfl) ?_
    refine lv_iconst (v := 1) hx hb dX7_isSet_5 (by decide) ?_
    refine lv_aload_n hx hb dX7_isSet_6 rfl (lv_at hl 0 rfl) ?_
    refine va_get (D := D) (ci := 7) (v := .ref (a 3)) (C := RX7) (T := TX7) (N := 12) hx hb hts inX7 hown hK hP 0 rfl rfl 1 (by decide) (hts _ tw_306) (fun _ h9 => h9) rfl dX7_isSet_7 ?_
    refine lv_iload_n hx hb dX7_isSet_10 rfl (lv_at hl 1 rfl) ?_
    refine va_aldq hx hb hK hP 1 3 rfl rfl (by unfold vp_in; decide) dX7_isSet_11 ?_
    refine lv_tr (y := .ref (a 4)) rfl ?_
    refine ro_i (D := D) (va_runV (As := []) (rest := [.int 1, .int p1]) ⟨hx, hb, hml, hown, hts⟩ ((x_doors l D k st lo (a 4) (a 5) (a 6) (a 7) (a 8) n0 see0 tm0 g0) s.heap.size) (cwV 0 hts (gV tw_580 tw_478 tw_479 tw_81 tw_480) rfl rfl rfl (by decide +kernel) ⟨Nat.le_of_ble_eq_true rfl, Nat.le_of_ble_eq_true rfl⟩) (pV hS hAlo hlo hP hK hDL hZ [2, 3] (by decide) rfl (ci := 5) (q := (RX5, TX5, 4)) (q0 := 0) rfl rfl) rfl rfl hl.1 rfl (lv_room (Nat.le_of_ble_eq_true rfl)) dX7_isSet_12 ⟨Nat.le_of_ble_eq_true rfl, Nat.le_of_ble_eq_true rfl⟩) hS hA hP (fun r_2 H locs hw_2 hP hS => ?_)
    try dsimp only at hw_2
    subst hw_2
    refine lv_ishl hx hb dX7_isSet_15 ?_
    refine lv_topi (fun x_3 ex_3 => ?_)
    refine lv_icmp_ge (tgt := 23) hx hb dX7_isSet_16 (by decide) (fun c_4 => ?_) (fun c_4 => ?_)
    · refine lv_iconst (v := 0) hx hb dX7_isSet_23 (by decide) ?_
      exact W.zret (v := 0) (ty := .boolean) hx hb hr rfl (fun t ht hW => ⟨⟨0, (), rfl, .inr rfl, trivial⟩, hS.F ht⟩) hS.2.2 dX7_isSet_24
    · refine lv_iconst (v := 1) hx hb dX7_isSet_19 (by decide) ?_
      refine lv_goto (tgt := 24) hx hb dX7_isSet_20 (by decide) ?_
      exact W.zret (v := 1) (ty := .boolean) hx hb hr rfl (fun t ht hW => ⟨⟨1, (), rfl, .inl rfl, trivial⟩, hS.F ht⟩) hS.2.2 dX7_isSet_24


set_option maxHeartbeats 4000000 in
set_option maxRecDepth 100000 in
theorem x_isSet_1 (l : Launch) (D : va_G) (k : Nat → ClassId) (st : Nat → Nat) (lo : Nat) (a : Nat → Nat) (rk : Nat) (lfa : Int32) (n1 : Nat) (see1 : Nat) (tm1 : Nat) (g1 : Nat → Int32) (p1 : Int32)  : CRi l D k st lo yX7_isSet cX7_isSet 3 (some .boolean) ({ frames := 1, cells := 0, slots := 0, locals := 20 }) [.ref (a 0), .int 1, .int p1] [((a 0), .inr (7, (fX7 (a 1) (a 3) (a 19) (a 35) (a 40) (nI rk) lfa (a 53) (a 56) (a 63) (a 64) (a 68)))), ((a 3), .inl (k 3, 3, .inr (.inr (.inr (.inr (a3 (a 4) (a 9) (a 14))))))), ((a 9), .inr (5, (fX5 (a 10) (a 11) (a 12) (a 13)))), (aI k (a 10) 10 (vv n1 see1 tm1 g1))] (fun r => r = 1 ∨ r = 0) := by
  intro sz
  refine Met.ofW (cc := cX7_isSet) (maxL := 3) (ret := (some .boolean)) (by decide) rfl ?_
  intro p e s m args below meth c s₁ B hml hv
  obtain ⟨rfl, hsz, hlo, hP, hK, hDL, hZ⟩ := hv
  have hx := B.exec
  have hb := B.bytes
  have hr := B.returns
  have hts := WS_ts B.pre
  have hown : s.vm.findClass RX7 = some m.cls := findClass_of_methodNamed B.named
  have hlocks := B.notSynchronized
  subst hsz
  have hA : ∀ q : Nat, s.heap.size ≤ q → (fun q : Nat => s.heap.size ≤ q) q := fun _ h => h
  have hAlo : ∀ q : Nat, (fun q : Nat => s.heap.size ≤ q) q → lo ≤ q := fun q h => Nat.le_trans hlo h
  have hS : va_S (fun q : Nat => s.heap.size ≤ q) s.heap s.heap [] := va_S.rf
  have hl := lv_entry ([.ref (a 0), .int 1, .int p1]) (n := 3) (Nat.le_of_ble_eq_true rfl)
  rw [lg_entry_eq]
  generalize (lg_sl ([.ref (a 0), .int 1, .int p1]) ++ List.replicate (3 - (lg_sl ([.ref (a 0), .int 1, .int p1])).length) Slot.unset).toArray = ls at hl ⊢
  have hl : lv_has ls 3 [(0, .ref (a 0)), (1, .int 1), (2, .int p1)] := hl
  refine lv_iload_n hx hb dX7_isSet_0 rfl (lv_at hl 2 rfl) ?_
  refine lv_if_lt (tgt := 23) hx hb dX7_isSet_1 (by decide) (fun c_1 => ?_) (fun c_1 => ?_)
  · refine lv_iconst (v := 0) hx hb dX7_isSet_23 (by decide) ?_
    exact W.zret (v := 0) (ty := .boolean) hx hb hr rfl (fun t ht hW => ⟨⟨0, (), rfl, .inr rfl, trivial⟩, hS.F ht⟩) hS.2.2 dX7_isSet_24
  · refine lv_iload_n hx hb dX7_isSet_4 rfl (lv_at hl 2 rfl) ?_
    refine lv_iconst (v := 1) hx hb dX7_isSet_5 (by decide) ?_
    refine lv_aload_n hx hb dX7_isSet_6 rfl (lv_at hl 0 rfl) ?_
    refine va_get (D := D) (ci := 7) (v := .ref (a 3)) (C := RX7) (T := TX7) (N := 12) hx hb hts inX7 hown hK hP 0 rfl rfl 1 (by decide) (hts _ tw_306) (fun _ h9 => h9) rfl dX7_isSet_7 ?_
    refine lv_iload_n hx hb dX7_isSet_10 rfl (lv_at hl 1 rfl) ?_
    refine va_aldq hx hb hK hP 1 3 rfl rfl (by unfold vp_in; decide) dX7_isSet_11 ?_
    refine lv_tr (y := .ref (a 9)) rfl ?_
    refine ro_i (D := D) (va_runV (As := []) (rest := [.int 1, .int p1]) ⟨hx, hb, hml, hown, hts⟩ ((x_doors l D k st lo (a 9) (a 10) (a 11) (a 12) (a 13) n1 see1 tm1 g1) s.heap.size) (cwV 0 hts (gV tw_580 tw_478 tw_479 tw_81 tw_480) rfl rfl rfl (by decide +kernel) ⟨Nat.le_of_ble_eq_true rfl, Nat.le_of_ble_eq_true rfl⟩) (pV hS hAlo hlo hP hK hDL hZ [2, 3] (by decide) rfl (ci := 5) (q := (RX5, TX5, 4)) (q0 := 0) rfl rfl) rfl rfl hl.1 rfl (lv_room (Nat.le_of_ble_eq_true rfl)) dX7_isSet_12 ⟨Nat.le_of_ble_eq_true rfl, Nat.le_of_ble_eq_true rfl⟩) hS hA hP (fun r_2 H locs hw_2 hP hS => ?_)
    try dsimp only at hw_2
    subst hw_2
    refine lv_ishl hx hb dX7_isSet_15 ?_
    refine lv_topi (fun x_3 ex_3 => ?_)
    refine lv_icmp_ge (tgt := 23) hx hb dX7_isSet_16 (by decide) (fun c_4 => ?_) (fun c_4 => ?_)
    · refine lv_iconst (v := 0) hx hb dX7_isSet_23 (by decide) ?_
      exact W.zret (v := 0) (ty := .boolean) hx hb hr rfl (fun t ht hW => ⟨⟨0, (), rfl, .inr rfl, trivial⟩, hS.F ht⟩) hS.2.2 dX7_isSet_24
    · refine lv_iconst (v := 1) hx hb dX7_isSet_19 (by decide) ?_
      refine lv_goto (tgt := 24) hx hb dX7_isSet_20 (by decide) ?_
      exact W.zret (v := 1) (ty := .boolean) hx hb hr rfl (fun t ht hW => ⟨⟨1, (), rfl, .inl rfl, trivial⟩, hS.F ht⟩) hS.2.2 dX7_isSet_24


set_option maxHeartbeats 4000000 in
set_option maxRecDepth 100000 in
theorem x_isSet_2 (l : Launch) (D : va_G) (k : Nat → ClassId) (st : Nat → Nat) (lo : Nat) (a : Nat → Nat) (rk : Nat) (lfa : Int32) (n2 : Nat) (see2 : Nat) (tm2 : Nat) (g2 : Nat → Int32) (p1 : Int32)  : CRi l D k st lo yX7_isSet cX7_isSet 3 (some .boolean) ({ frames := 1, cells := 0, slots := 0, locals := 20 }) [.ref (a 0), .int 2, .int p1] [((a 0), .inr (7, (fX7 (a 1) (a 3) (a 19) (a 35) (a 40) (nI rk) lfa (a 53) (a 56) (a 63) (a 64) (a 68)))), ((a 3), .inl (k 3, 3, .inr (.inr (.inr (.inr (a3 (a 4) (a 9) (a 14))))))), ((a 14), .inr (5, (fX5 (a 15) (a 16) (a 17) (a 18)))), (aI k (a 15) 10 (vv n2 see2 tm2 g2))] (fun r => r = 1 ∨ r = 0) := by
  intro sz
  refine Met.ofW (cc := cX7_isSet) (maxL := 3) (ret := (some .boolean)) (by decide) rfl ?_
  intro p e s m args below meth c s₁ B hml hv
  obtain ⟨rfl, hsz, hlo, hP, hK, hDL, hZ⟩ := hv
  have hx := B.exec
  have hb := B.bytes
  have hr := B.returns
  have hts := WS_ts B.pre
  have hown : s.vm.findClass RX7 = some m.cls := findClass_of_methodNamed B.named
  have hlocks := B.notSynchronized
  subst hsz
  have hA : ∀ q : Nat, s.heap.size ≤ q → (fun q : Nat => s.heap.size ≤ q) q := fun _ h => h
  have hAlo : ∀ q : Nat, (fun q : Nat => s.heap.size ≤ q) q → lo ≤ q := fun q h => Nat.le_trans hlo h
  have hS : va_S (fun q : Nat => s.heap.size ≤ q) s.heap s.heap [] := va_S.rf
  have hl := lv_entry ([.ref (a 0), .int 2, .int p1]) (n := 3) (Nat.le_of_ble_eq_true rfl)
  rw [lg_entry_eq]
  generalize (lg_sl ([.ref (a 0), .int 2, .int p1]) ++ List.replicate (3 - (lg_sl ([.ref (a 0), .int 2, .int p1])).length) Slot.unset).toArray = ls at hl ⊢
  have hl : lv_has ls 3 [(0, .ref (a 0)), (1, .int 2), (2, .int p1)] := hl
  refine lv_iload_n hx hb dX7_isSet_0 rfl (lv_at hl 2 rfl) ?_
  refine lv_if_lt (tgt := 23) hx hb dX7_isSet_1 (by decide) (fun c_1 => ?_) (fun c_1 => ?_)
  · refine lv_iconst (v := 0) hx hb dX7_isSet_23 (by decide) ?_
    exact W.zret (v := 0) (ty := .boolean) hx hb hr rfl (fun t ht hW => ⟨⟨0, (), rfl, .inr rfl, trivial⟩, hS.F ht⟩) hS.2.2 dX7_isSet_24
  · refine lv_iload_n hx hb dX7_isSet_4 rfl (lv_at hl 2 rfl) ?_
    refine lv_iconst (v := 1) hx hb dX7_isSet_5 (by decide) ?_
    refine lv_aload_n hx hb dX7_isSet_6 rfl (lv_at hl 0 rfl) ?_
    refine va_get (D := D) (ci := 7) (v := .ref (a 3)) (C := RX7) (T := TX7) (N := 12) hx hb hts inX7 hown hK hP 0 rfl rfl 1 (by decide) (hts _ tw_306) (fun _ h9 => h9) rfl dX7_isSet_7 ?_
    refine lv_iload_n hx hb dX7_isSet_10 rfl (lv_at hl 1 rfl) ?_
    refine va_aldq hx hb hK hP 1 3 rfl rfl (by unfold vp_in; decide) dX7_isSet_11 ?_
    refine lv_tr (y := .ref (a 14)) rfl ?_
    refine ro_i (D := D) (va_runV (As := []) (rest := [.int 1, .int p1]) ⟨hx, hb, hml, hown, hts⟩ ((x_doors l D k st lo (a 14) (a 15) (a 16) (a 17) (a 18) n2 see2 tm2 g2) s.heap.size) (cwV 0 hts (gV tw_580 tw_478 tw_479 tw_81 tw_480) rfl rfl rfl (by decide +kernel) ⟨Nat.le_of_ble_eq_true rfl, Nat.le_of_ble_eq_true rfl⟩) (pV hS hAlo hlo hP hK hDL hZ [2, 3] (by decide) rfl (ci := 5) (q := (RX5, TX5, 4)) (q0 := 0) rfl rfl) rfl rfl hl.1 rfl (lv_room (Nat.le_of_ble_eq_true rfl)) dX7_isSet_12 ⟨Nat.le_of_ble_eq_true rfl, Nat.le_of_ble_eq_true rfl⟩) hS hA hP (fun r_2 H locs hw_2 hP hS => ?_)
    try dsimp only at hw_2
    subst hw_2
    refine lv_ishl hx hb dX7_isSet_15 ?_
    refine lv_topi (fun x_3 ex_3 => ?_)
    refine lv_icmp_ge (tgt := 23) hx hb dX7_isSet_16 (by decide) (fun c_4 => ?_) (fun c_4 => ?_)
    · refine lv_iconst (v := 0) hx hb dX7_isSet_23 (by decide) ?_
      exact W.zret (v := 0) (ty := .boolean) hx hb hr rfl (fun t ht hW => ⟨⟨0, (), rfl, .inr rfl, trivial⟩, hS.F ht⟩) hS.2.2 dX7_isSet_24
    · refine lv_iconst (v := 1) hx hb dX7_isSet_19 (by decide) ?_
      refine lv_goto (tgt := 24) hx hb dX7_isSet_20 (by decide) ?_
      exact W.zret (v := 1) (ty := .boolean) hx hb hr rfl (fun t ht hW => ⟨⟨1, (), rfl, .inl rfl, trivial⟩, hS.F ht⟩) hS.2.2 dX7_isSet_24

theorem f_x_isRule_rows : True := trivial
theorem dX7_isRule_0 : decode cX7_isRule 0 = .ok (.iload_n 1, 1) := by decide +kernel
theorem dX7_isRule_1 : decode cX7_isRule 1 = .ok (.ifCond .lt 15, 3) := by decide +kernel
theorem dX7_isRule_4 : decode cX7_isRule 4 = .ok (.iload_n 1, 1) := by decide +kernel
theorem dX7_isRule_5 : decode cX7_isRule 5 = .ok (.aload_n 0, 1) := by decide +kernel
theorem dX7_isRule_6 : decode cX7_isRule 6 = .ok (.getfield 39, 3) := by decide +kernel
theorem dX7_isRule_9 : decode cX7_isRule 9 = .ok (.if_icmp .ge 7, 3) := by decide +kernel
theorem dX7_isRule_12 : decode cX7_isRule 12 = .ok (.iconst 1, 1) := by decide +kernel
theorem dX7_isRule_13 : decode cX7_isRule 13 = .ok (.goto 4, 3) := by decide +kernel
theorem dX7_isRule_16 : decode cX7_isRule 16 = .ok (.iconst 0, 1) := by decide +kernel
theorem dX7_isRule_17 : decode cX7_isRule 17 = .ok (.ireturn, 1) := by decide +kernel
theorem dX7_isCar_0 : decode cX7_isCar 0 = .ok (.iload_n 1, 1) := by decide +kernel
theorem dX7_isCar_1 : decode cX7_isCar 1 = .ok (.ifCond .lt 18, 3) := by decide +kernel
theorem dX7_isCar_4 : decode cX7_isCar 4 = .ok (.iload_n 1, 1) := by decide +kernel
theorem dX7_isCar_5 : decode cX7_isCar 5 = .ok (.aload_n 0, 1) := by decide +kernel
theorem dX7_isCar_6 : decode cX7_isCar 6 = .ok (.getfield 49, 3) := by decide +kernel
theorem dX7_isCar_9 : decode cX7_isCar 9 = .ok (.getfield 214, 3) := by decide +kernel
theorem dX7_isCar_12 : decode cX7_isCar 12 = .ok (.if_icmp .ge 7, 3) := by decide +kernel
theorem dX7_isCar_15 : decode cX7_isCar 15 = .ok (.iconst 1, 1) := by decide +kernel
theorem dX7_isCar_16 : decode cX7_isCar 16 = .ok (.goto 4, 3) := by decide +kernel
theorem dX7_isCar_19 : decode cX7_isCar 19 = .ok (.iconst 0, 1) := by decide +kernel
theorem dX7_isCar_20 : decode cX7_isCar 20 = .ok (.ireturn, 1) := by decide +kernel
set_option maxHeartbeats 4000000 in
set_option maxRecDepth 100000 in
theorem x_isCar (l : Launch) (D : va_G) (k : Nat → ClassId) (st : Nat → Nat) (lo : Nat) (a : Nat → Nat) (rk : Nat) (lfa : Int32) (cc : Nat) (rz : Nat) (ro : Int32) (sd : Int32) (pz : Int32) (hcc : cc ≤ 4) : CRi l D k st lo yX7_isCar cX7_isCar 2 (some .boolean) ({ frames := 0, cells := 0, slots := 0, locals := 0 }) [.ref (a 0), .int pz] [((a 0), .inr (7, (fX7 (a 1) (a 3) (a 19) (a 35) (a 40) (nI rk) lfa (a 53) (a 56) (a 63) (a 64) (a 68)))), ((a 53), .inr (4, (fX4 (a 54) (a 55) (nI cc) (nI rz) ro sd)))] (fun r => (r = 1 ∧ ∃ j : Nat, j < cc ∧ pz = nI j) ∨ r = 0) := by
  intro sz
  refine Met.ofW (cc := cX7_isCar) (maxL := 2) (ret := (some .boolean)) (by decide) rfl ?_
  intro p e s m args below meth c s₁ B hml hv
  obtain ⟨rfl, hsz, hlo, hP, hK, hDL, hZ⟩ := hv
  have hx := B.exec
  have hb := B.bytes
  have hr := B.returns
  have hts := WS_ts B.pre
  have hown : s.vm.findClass RX7 = some m.cls := findClass_of_methodNamed B.named
  have hlocks := B.notSynchronized
  subst hsz
  have hA : ∀ q : Nat, s.heap.size ≤ q → (fun q : Nat => s.heap.size ≤ q) q := fun _ h => h
  have hAlo : ∀ q : Nat, (fun q : Nat => s.heap.size ≤ q) q → lo ≤ q := fun q h => Nat.le_trans hlo h
  have hS : va_S (fun q : Nat => s.heap.size ≤ q) s.heap s.heap [] := va_S.rf
  have hl := lv_entry ([.ref (a 0), .int pz]) (n := 2) (Nat.le_of_ble_eq_true rfl)
  rw [lg_entry_eq]
  generalize (lg_sl ([.ref (a 0), .int pz]) ++ List.replicate (2 - (lg_sl ([.ref (a 0), .int pz])).length) Slot.unset).toArray = ls at hl ⊢
  have hl : lv_has ls 2 [(0, .ref (a 0)), (1, .int pz)] := hl
  refine lv_iload_n hx hb dX7_isCar_0 rfl (lv_at hl 1 rfl) ?_
  refine lv_if_lt (tgt := 19) hx hb dX7_isCar_1 (by decide) (fun c_1 => ?_) (fun c_1 => ?_)
  · refine lv_iconst (v := 0) hx hb dX7_isCar_19 (by decide) ?_
    exact W.zret (v := 0) (ty := .boolean) hx hb hr rfl (fun t ht hW => ⟨⟨0, (), rfl, .inr rfl, trivial⟩, hS.F ht⟩) hS.2.2 dX7_isCar_20
  · obtain ⟨i_9, hi_9, rfl⟩ := nI_of c_1
    refine lv_iload_n hx hb dX7_isCar_4 rfl (lv_at hl 1 rfl) ?_
    refine lv_aload_n hx hb dX7_isCar_5 rfl (lv_at hl 0 rfl) ?_
    refine va_get (D := D) (ci := 7) (v := .ref (a 53)) (C := RX7) (T := TX7) (N := 12) hx hb hts inX7 hown hK hP 0 rfl rfl 7 (by decide) (hts _ tw_312) (fun _ h9 => h9) rfl dX7_isCar_6 ?_
    refine va_get (D := D) (ci := 4) (v := .int (nI cc)) (C := RX4) (T := TX4) (N := 6) hx hb hts inX4 hown hK hP 1 rfl rfl 2 (by decide) (hts _ tw_180) (fun _ h9 => h9) rfl dX7_isCar_9 ?_
    refine lv_icmp_ge (tgt := 19) hx hb dX7_isCar_12 (by decide) (fun c_2 => ?_) (fun c_2 => ?_)
    · have c_2 := (nI_leI (a := cc) (b := i_9) (by omega) (by omega)).mp c_2
      refine lv_iconst (v := 0) hx hb dX7_isCar_19 (by decide) ?_
      exact W.zret (v := 0) (ty := .boolean) hx hb hr rfl (fun t ht hW => ⟨⟨0, (), rfl, .inr rfl, trivial⟩, hS.F ht⟩) hS.2.2 dX7_isCar_20
    · have c_2 : ¬ (cc ≤ i_9) := fun h => c_2 ((nI_leI (a := cc) (b := i_9) (by omega) (by omega)).mpr h)
      refine lv_iconst (v := 1) hx hb dX7_isCar_15 (by decide) ?_
      refine lv_goto (tgt := 20) hx hb dX7_isCar_16 (by decide) ?_
      exact W.zret (v := 1) (ty := .boolean) hx hb hr rfl (fun t ht hW => ⟨⟨1, (), rfl, .inl ⟨rfl, i_9, by omega, rfl⟩, trivial⟩, hS.F ht⟩) hS.2.2 dX7_isCar_20

theorem f_x_refuseSight_rows : True := trivial
theorem dX7_refuseSight_0 : decode cX7_refuseSight 0 = .ok (.aload_n 0, 1) := by decide +kernel
theorem dX7_refuseSight_1 : decode cX7_refuseSight 1 = .ok (.iload_n 1, 1) := by decide +kernel
theorem dX7_refuseSight_2 : decode cX7_refuseSight 2 = .ok (.iload_n 3, 1) := by decide +kernel
theorem dX7_refuseSight_3 : decode cX7_refuseSight 3 = .ok (.invokevirtual 120, 3) := by decide +kernel
theorem dX7_refuseSight_6 : decode cX7_refuseSight 6 = .ok (.ifCond .ne 7, 3) := by decide +kernel
theorem dX7_refuseSight_9 : decode cX7_refuseSight 9 = .ok (.sipush (-1001), 3) := by decide +kernel
theorem dX7_refuseSight_12 : decode cX7_refuseSight 12 = .ok (.ireturn, 1) := by decide +kernel
theorem dX7_refuseSight_13 : decode cX7_refuseSight 13 = .ok (.aload_n 0, 1) := by decide +kernel
theorem dX7_refuseSight_14 : decode cX7_refuseSight 14 = .ok (.iload_n 1, 1) := by decide +kernel
theorem dX7_refuseSight_15 : decode cX7_refuseSight 15 = .ok (.iload_n 2, 1) := by decide +kernel
theorem dX7_refuseSight_16 : decode cX7_refuseSight 16 = .ok (.invokevirtual 134, 3) := by decide +kernel
theorem dX7_refuseSight_19 : decode cX7_refuseSight 19 = .ok (.ifCond .eq 27, 3) := by decide +kernel
theorem dX7_refuseSight_22 : decode cX7_refuseSight 22 = .ok (.iload 4, 2) := by decide +kernel
theorem dX7_refuseSight_24 : decode cX7_refuseSight 24 = .ok (.ifCond .lt 22, 3) := by decide +kernel
theorem dX7_refuseSight_27 : decode cX7_refuseSight 27 = .ok (.iload 4, 2) := by decide +kernel
theorem dX7_refuseSight_29 : decode cX7_refuseSight 29 = .ok (.aload_n 0, 1) := by decide +kernel
theorem dX7_refuseSight_30 : decode cX7_refuseSight 30 = .ok (.getfield 18, 3) := by decide +kernel
theorem dX7_refuseSight_33 : decode cX7_refuseSight 33 = .ok (.iload_n 1, 1) := by decide +kernel
theorem dX7_refuseSight_34 : decode cX7_refuseSight 34 = .ok (.aaload, 1) := by decide +kernel
theorem dX7_refuseSight_35 : decode cX7_refuseSight 35 = .ok (.iload_n 3, 1) := by decide +kernel
theorem dX7_refuseSight_36 : decode cX7_refuseSight 36 = .ok (.invokevirtual 283, 3) := by decide +kernel
theorem dX7_refuseSight_39 : decode cX7_refuseSight 39 = .ok (.if_icmp .ge 7, 3) := by decide +kernel
theorem dX7_refuseSight_42 : decode cX7_refuseSight 42 = .ok (.iconst 1, 1) := by decide +kernel
theorem dX7_refuseSight_43 : decode cX7_refuseSight 43 = .ok (.goto 4, 3) := by decide +kernel
theorem dX7_refuseSight_46 : decode cX7_refuseSight 46 = .ok (.iconst 0, 1) := by decide +kernel
theorem dX7_refuseSight_47 : decode cX7_refuseSight 47 = .ok (.istore 5, 2) := by decide +kernel
theorem dX7_refuseSight_49 : decode cX7_refuseSight 49 = .ok (.iload 5, 2) := by decide +kernel
theorem dX7_refuseSight_51 : decode cX7_refuseSight 51 = .ok (.ifCond .eq 7, 3) := by decide +kernel
theorem dX7_refuseSight_54 : decode cX7_refuseSight 54 = .ok (.iconst 0, 1) := by decide +kernel
theorem dX7_refuseSight_55 : decode cX7_refuseSight 55 = .ok (.goto 6, 3) := by decide +kernel
theorem dX7_refuseSight_58 : decode cX7_refuseSight 58 = .ok (.sipush (-1002), 3) := by decide +kernel
theorem dX7_refuseSight_61 : decode cX7_refuseSight 61 = .ok (.ireturn, 1) := by decide +kernel
theorem dX7_refuseSet_0 : decode cX7_refuseSet 0 = .ok (.aload_n 0, 1) := by decide +kernel
theorem dX7_refuseSet_1 : decode cX7_refuseSet 1 = .ok (.iload_n 1, 1) := by decide +kernel
theorem dX7_refuseSet_2 : decode cX7_refuseSet 2 = .ok (.invokevirtual 108, 3) := by decide +kernel
theorem dX7_refuseSet_5 : decode cX7_refuseSet 5 = .ok (.ifCond .ne 7, 3) := by decide +kernel
theorem dX7_refuseSet_8 : decode cX7_refuseSet 8 = .ok (.sipush (-1001), 3) := by decide +kernel
theorem dX7_refuseSet_11 : decode cX7_refuseSet 11 = .ok (.ireturn, 1) := by decide +kernel
theorem dX7_refuseSet_12 : decode cX7_refuseSet 12 = .ok (.aload_n 0, 1) := by decide +kernel
theorem dX7_refuseSet_13 : decode cX7_refuseSet 13 = .ok (.iload_n 1, 1) := by decide +kernel
theorem dX7_refuseSet_14 : decode cX7_refuseSet 14 = .ok (.iload_n 2, 1) := by decide +kernel
theorem dX7_refuseSet_15 : decode cX7_refuseSet 15 = .ok (.invokevirtual 226, 3) := by decide +kernel
theorem dX7_refuseSet_18 : decode cX7_refuseSet 18 = .ok (.ifCond .eq 7, 3) := by decide +kernel
theorem dX7_refuseSet_21 : decode cX7_refuseSet 21 = .ok (.iconst 0, 1) := by decide +kernel
theorem dX7_refuseSet_22 : decode cX7_refuseSet 22 = .ok (.goto 6, 3) := by decide +kernel
theorem dX7_refuseSet_25 : decode cX7_refuseSet 25 = .ok (.sipush (-1002), 3) := by decide +kernel
theorem dX7_refuseSet_28 : decode cX7_refuseSet 28 = .ok (.ireturn, 1) := by decide +kernel
set_option maxHeartbeats 4000000 in
set_option maxRecDepth 100000 in
theorem x_refuseSet (l : Launch) (D : va_G) (k : Nat → ClassId) (st : Nat → Nat) (lo : Nat) (a : Nat → Nat) (rk : Nat) (lfa : Int32) (n0 : Nat) (see0 : Nat) (tm0 : Nat) (g0 : Nat → Int32) (n1 : Nat) (see1 : Nat) (tm1 : Nat) (g1 : Nat → Int32) (n2 : Nat) (see2 : Nat) (tm2 : Nat) (g2 : Nat → Int32) (pz : Int32) (p1 : Int32) (hn0 : n0 ≤ 24) (hn1 : n1 ≤ 24) (hn2 : n2 ≤ 24) : CRi l D k st lo yX7_refuseSet cX7_refuseSet 3 (some .int) ({ frames := 2, cells := 0, slots := 0, locals := 42 }) [.ref (a 0), .int pz, .int p1] [((a 0), .inr (7, (fX7 (a 1) (a 3) (a 19) (a 35) (a 40) (nI rk) lfa (a 53) (a 56) (a 63) (a 64) (a 68)))), ((a 3), .inl (k 3, 3, .inr (.inr (.inr (.inr (a3 (a 4) (a 9) (a 14))))))), ((a 4), .inr (5, (fX5 (a 5) (a 6) (a 7) (a 8)))), (aI k (a 5) 10 (vv n0 see0 tm0 g0)), ((a 9), .inr (5, (fX5 (a 10) (a 11) (a 12) (a 13)))), (aI k (a 10) 10 (vv n1 see1 tm1 g1)), ((a 14), .inr (5, (fX5 (a 15) (a 16) (a 17) (a 18)))), (aI k (a 15) 10 (vv n2 see2 tm2 g2))] (fun r => (r = 0 ∧ (pz = 0 ∨ pz = 1 ∨ pz = 2)) ∨ r = -1001 ∨ r = -1002) := by
  intro sz
  refine Met.ofW (cc := cX7_refuseSet) (maxL := 3) (ret := (some .int)) (by decide) rfl ?_
  intro p e s m args below meth c s₁ B hml hv
  obtain ⟨rfl, hsz, hlo, hP, hK, hDL, hZ⟩ := hv
  have hx := B.exec
  have hb := B.bytes
  have hr := B.returns
  have hts := WS_ts B.pre
  have hown : s.vm.findClass RX7 = some m.cls := findClass_of_methodNamed B.named
  have hlocks := B.notSynchronized
  subst hsz
  have hA : ∀ q : Nat, s.heap.size ≤ q → (fun q : Nat => s.heap.size ≤ q) q := fun _ h => h
  have hAlo : ∀ q : Nat, (fun q : Nat => s.heap.size ≤ q) q → lo ≤ q := fun q h => Nat.le_trans hlo h
  have hS : va_S (fun q : Nat => s.heap.size ≤ q) s.heap s.heap [] := va_S.rf
  have hl := lv_entry ([.ref (a 0), .int pz, .int p1]) (n := 3) (Nat.le_of_ble_eq_true rfl)
  rw [lg_entry_eq]
  generalize (lg_sl ([.ref (a 0), .int pz, .int p1]) ++ List.replicate (3 - (lg_sl ([.ref (a 0), .int pz, .int p1])).length) Slot.unset).toArray = ls at hl ⊢
  have hl : lv_has ls 3 [(0, .ref (a 0)), (1, .int pz), (2, .int p1)] := hl
  refine lv_aload_n hx hb dX7_refuseSet_0 rfl (lv_at hl 0 rfl) ?_
  refine lv_iload_n hx hb dX7_refuseSet_1 rfl (lv_at hl 1 rfl) ?_
  refine ro_i (D := D) (va_runV (As := [.int pz]) (rest := []) ⟨hx, hb, hml, hown, hts⟩ ((x_isStreet l D k st lo a rk lfa n0 see0 tm0 g0 n1 see1 tm1 g1 n2 see2 tm2 g2 pz (by first | assumption | omega) (by first | assumption | omega) (by first | assumption | omega)) s.heap.size) (cwV 1 hts (gV tw_589 tw_591 tw_8 tw_79 tw_592) rfl rfl rfl (by decide +kernel) ⟨Nat.le_of_ble_eq_true rfl, Nat.le_of_ble_eq_true rfl⟩) (pV hS hAlo hlo hP hK hDL hZ [0, 1, 2, 3, 4, 5, 6, 7] (by decide) rfl (ci := 7) (q := (RX7, TX7, 12)) (q0 := 0) rfl rfl) rfl rfl hl.1 rfl (lv_room (Nat.le_of_ble_eq_true rfl)) dX7_refuseSet_2 ⟨Nat.le_of_ble_eq_true rfl, Nat.le_of_ble_eq_true rfl⟩) hS hA hP (fun r_1 H locs hw_1 hP hS => ?_)
  try dsimp only at hw_1
  rcases hw_1 with ⟨rfl, ⟨rfl, hw_1⟩ | ⟨rfl, hw_1⟩ | ⟨rfl, hw_1⟩⟩ | rfl
  · refine lv_if_ne (tgt := 12) hx hb dX7_refuseSet_5 (by decide) (fun _ => ?_) (fun h => absurd h (by decide))
    refine lv_aload_n hx hb dX7_refuseSet_12 rfl (lv_at hl 0 rfl) ?_
    refine lv_iload_n hx hb dX7_refuseSet_13 rfl (lv_at hl 1 rfl) ?_
    refine lv_iload_n hx hb dX7_refuseSet_14 rfl (lv_at hl 2 rfl) ?_
    refine ro_i (D := D) (va_runV (As := [.int 0, .int p1]) (rest := []) ⟨hx, hb, hml, hown, hts⟩ ((x_isSet_0 l D k st lo a rk lfa n0 see0 tm0 g0 p1) H.size) (cwV 2 hts (gV tw_817 tw_819 tw_18 tw_79 tw_820) rfl rfl rfl (by decide +kernel) ⟨Nat.le_of_ble_eq_true rfl, Nat.le_of_ble_eq_true rfl⟩) (pV hS hAlo hlo hP hK hDL hZ [0, 1, 2, 3] (by decide) rfl (ci := 7) (q := (RX7, TX7, 12)) (q0 := 0) rfl rfl) rfl rfl hl.1 rfl (lv_room (Nat.le_of_ble_eq_true rfl)) dX7_refuseSet_15 ⟨Nat.le_of_ble_eq_true rfl, Nat.le_of_ble_eq_true rfl⟩) hS hA hP (fun r_2 H locs hw_2 hP hS => ?_)
    try dsimp only at hw_2
    rcases hw_2 with rfl | rfl
    · refine lv_if_eq (tgt := 25) hx hb dX7_refuseSet_18 (by decide) (fun h => absurd h (by decide)) (fun _ => ?_)
      refine lv_iconst (v := 0) hx hb dX7_refuseSet_21 (by decide) ?_
      refine lv_goto (tgt := 28) hx hb dX7_refuseSet_22 (by decide) ?_
      exact W.iret (v := 0) hx hb hr (fun t ht hW => ⟨⟨0, (), rfl, .inl ⟨rfl, .inl rfl⟩, trivial⟩, hS.F ht⟩) hS.2.2 dX7_refuseSet_28
    · refine lv_if_eq (tgt := 25) hx hb dX7_refuseSet_18 (by decide) (fun _ => ?_) (fun h => absurd (by decide) h)
      refine lv_sipush (v := (-1002)) hx hb dX7_refuseSet_25 (by decide) ?_
      exact W.iret (v := (-1002)) hx hb hr (fun t ht hW => ⟨⟨(-1002), (), rfl, .inr (.inr rfl), trivial⟩, hS.F ht⟩) hS.2.2 dX7_refuseSet_28
  · refine lv_if_ne (tgt := 12) hx hb dX7_refuseSet_5 (by decide) (fun _ => ?_) (fun h => absurd h (by decide))
    refine lv_aload_n hx hb dX7_refuseSet_12 rfl (lv_at hl 0 rfl) ?_
    refine lv_iload_n hx hb dX7_refuseSet_13 rfl (lv_at hl 1 rfl) ?_
    refine lv_iload_n hx hb dX7_refuseSet_14 rfl (lv_at hl 2 rfl) ?_
    refine ro_i (D := D) (va_runV (As := [.int 1, .int p1]) (rest := []) ⟨hx, hb, hml, hown, hts⟩ ((x_isSet_1 l D k st lo a rk lfa n1 see1 tm1 g1 p1) H.size) (cwV 2 hts (gV tw_817 tw_819 tw_18 tw_79 tw_820) rfl rfl rfl (by decide +kernel) ⟨Nat.le_of_ble_eq_true rfl, Nat.le_of_ble_eq_true rfl⟩) (pV hS hAlo hlo hP hK hDL hZ [0, 1, 4, 5] (by decide) rfl (ci := 7) (q := (RX7, TX7, 12)) (q0 := 0) rfl rfl) rfl rfl hl.1 rfl (lv_room (Nat.le_of_ble_eq_true rfl)) dX7_refuseSet_15 ⟨Nat.le_of_ble_eq_true rfl, Nat.le_of_ble_eq_true rfl⟩) hS hA hP (fun r_3 H locs hw_3 hP hS => ?_)
    try dsimp only at hw_3
    rcases hw_3 with rfl | rfl
    · refine lv_if_eq (tgt := 25) hx hb dX7_refuseSet_18 (by decide) (fun h => absurd h (by decide)) (fun _ => ?_)
      refine lv_iconst (v := 0) hx hb dX7_refuseSet_21 (by decide) ?_
      refine lv_goto (tgt := 28) hx hb dX7_refuseSet_22 (by decide) ?_
      exact W.iret (v := 0) hx hb hr (fun t ht hW => ⟨⟨0, (), rfl, .inl ⟨rfl, .inr (.inl rfl)⟩, trivial⟩, hS.F ht⟩) hS.2.2 dX7_refuseSet_28
    · refine lv_if_eq (tgt := 25) hx hb dX7_refuseSet_18 (by decide) (fun _ => ?_) (fun h => absurd (by decide) h)
      refine lv_sipush (v := (-1002)) hx hb dX7_refuseSet_25 (by decide) ?_
      exact W.iret (v := (-1002)) hx hb hr (fun t ht hW => ⟨⟨(-1002), (), rfl, .inr (.inr rfl), trivial⟩, hS.F ht⟩) hS.2.2 dX7_refuseSet_28
  · refine lv_if_ne (tgt := 12) hx hb dX7_refuseSet_5 (by decide) (fun _ => ?_) (fun h => absurd h (by decide))
    refine lv_aload_n hx hb dX7_refuseSet_12 rfl (lv_at hl 0 rfl) ?_
    refine lv_iload_n hx hb dX7_refuseSet_13 rfl (lv_at hl 1 rfl) ?_
    refine lv_iload_n hx hb dX7_refuseSet_14 rfl (lv_at hl 2 rfl) ?_
    refine ro_i (D := D) (va_runV (As := [.int 2, .int p1]) (rest := []) ⟨hx, hb, hml, hown, hts⟩ ((x_isSet_2 l D k st lo a rk lfa n2 see2 tm2 g2 p1) H.size) (cwV 2 hts (gV tw_817 tw_819 tw_18 tw_79 tw_820) rfl rfl rfl (by decide +kernel) ⟨Nat.le_of_ble_eq_true rfl, Nat.le_of_ble_eq_true rfl⟩) (pV hS hAlo hlo hP hK hDL hZ [0, 1, 6, 7] (by decide) rfl (ci := 7) (q := (RX7, TX7, 12)) (q0 := 0) rfl rfl) rfl rfl hl.1 rfl (lv_room (Nat.le_of_ble_eq_true rfl)) dX7_refuseSet_15 ⟨Nat.le_of_ble_eq_true rfl, Nat.le_of_ble_eq_true rfl⟩) hS hA hP (fun r_4 H locs hw_4 hP hS => ?_)
    try dsimp only at hw_4
    rcases hw_4 with rfl | rfl
    · refine lv_if_eq (tgt := 25) hx hb dX7_refuseSet_18 (by decide) (fun h => absurd h (by decide)) (fun _ => ?_)
      refine lv_iconst (v := 0) hx hb dX7_refuseSet_21 (by decide) ?_
      refine lv_goto (tgt := 28) hx hb dX7_refuseSet_22 (by decide) ?_
      exact W.iret (v := 0) hx hb hr (fun t ht hW => ⟨⟨0, (), rfl, .inl ⟨rfl, .inr (.inr rfl)⟩, trivial⟩, hS.F ht⟩) hS.2.2 dX7_refuseSet_28
    · refine lv_if_eq (tgt := 25) hx hb dX7_refuseSet_18 (by decide) (fun _ => ?_) (fun h => absurd (by decide) h)
      refine lv_sipush (v := (-1002)) hx hb dX7_refuseSet_25 (by decide) ?_
      exact W.iret (v := (-1002)) hx hb hr (fun t ht hW => ⟨⟨(-1002), (), rfl, .inr (.inr rfl), trivial⟩, hS.F ht⟩) hS.2.2 dX7_refuseSet_28
  · refine lv_if_ne (tgt := 12) hx hb dX7_refuseSet_5 (by decide) (fun h => absurd (by decide) h) (fun _ => ?_)
    refine lv_sipush (v := (-1001)) hx hb dX7_refuseSet_8 (by decide) ?_
    exact W.iret (v := (-1001)) hx hb hr (fun t ht hW => ⟨⟨(-1001), (), rfl, .inr (.inl rfl), trivial⟩, hS.F ht⟩) hS.2.2 dX7_refuseSet_11

theorem f_x_closeText_rows : True := trivial
theorem dX7_closeText_0 : decode cX7_closeText 0 = .ok (.aload_n 0, 1) := by decide +kernel
theorem dX7_closeText_1 : decode cX7_closeText 1 = .ok (.getfield 12, 3) := by decide +kernel
theorem dX7_closeText_4 : decode cX7_closeText 4 = .ok (.iconst 0, 1) := by decide +kernel
theorem dX7_closeText_5 : decode cX7_closeText 5 = .ok (.putfield 81, 3) := by decide +kernel
theorem dX7_closeText_8 : decode cX7_closeText 8 = .ok (.aload_n 0, 1) := by decide +kernel
theorem dX7_closeText_9 : decode cX7_closeText 9 = .ok (.getfield 12, 3) := by decide +kernel
theorem dX7_closeText_12 : decode cX7_closeText 12 = .ok (.invokevirtual 286, 3) := by decide +kernel
theorem dX7_closeText_15 : decode cX7_closeText 15 = .ok (.ifCond .ne 10, 3) := by decide +kernel
theorem dX7_closeText_18 : decode cX7_closeText 18 = .ok (.aload_n 0, 1) := by decide +kernel
theorem dX7_closeText_19 : decode cX7_closeText 19 = .ok (.iconst (-1), 1) := by decide +kernel
theorem dX7_closeText_20 : decode cX7_closeText 20 = .ok (.putfield 43, 3) := by decide +kernel
theorem dX7_closeText_23 : decode cX7_closeText 23 = .ok (.iconst 0, 1) := by decide +kernel
theorem dX7_closeText_24 : decode cX7_closeText 24 = .ok (.ireturn, 1) := by decide +kernel
theorem dX7_closeText_25 : decode cX7_closeText 25 = .ok (.aload_n 0, 1) := by decide +kernel
theorem dX7_closeText_26 : decode cX7_closeText 26 = .ok (.aload_n 0, 1) := by decide +kernel
theorem dX7_closeText_27 : decode cX7_closeText 27 = .ok (.getfield 12, 3) := by decide +kernel
theorem dX7_closeText_30 : decode cX7_closeText 30 = .ok (.getfield 289, 3) := by decide +kernel
theorem dX7_closeText_33 : decode cX7_closeText 33 = .ok (.putfield 43, 3) := by decide +kernel
theorem dX7_closeText_36 : decode cX7_closeText 36 = .ok (.bipush (-10), 2) := by decide +kernel
theorem dX7_closeText_38 : decode cX7_closeText 38 = .ok (.aload_n 0, 1) := by decide +kernel
theorem dX7_closeText_39 : decode cX7_closeText 39 = .ok (.getfield 12, 3) := by decide +kernel
theorem dX7_closeText_42 : decode cX7_closeText 42 = .ok (.getfield 292, 3) := by decide +kernel
theorem dX7_closeText_45 : decode cX7_closeText 45 = .ok (.isub, 1) := by decide +kernel
theorem dX7_closeText_46 : decode cX7_closeText 46 = .ok (.ireturn, 1) := by decide +kernel
theorem f_x_fault_rows : True := trivial
theorem dX7_fault_0 : decode cX7_fault 0 = .ok (.aload_n 0, 1) := by decide +kernel
theorem dX7_fault_1 : decode cX7_fault 1 = .ok (.getfield 43, 3) := by decide +kernel
theorem dX7_fault_4 : decode cX7_fault 4 = .ok (.ireturn, 1) := by decide +kernel
theorem f_x_told_rows : True := trivial
theorem dX7_told_0 : decode cX7_told 0 = .ok (.aload_n 0, 1) := by decide +kernel
theorem dX7_told_1 : decode cX7_told 1 = .ok (.iload_n 1, 1) := by decide +kernel
theorem dX7_told_2 : decode cX7_told 2 = .ok (.invokevirtual 108, 3) := by decide +kernel
theorem dX7_told_5 : decode cX7_told 5 = .ok (.ifCond .ne 7, 3) := by decide +kernel
theorem dX7_told_8 : decode cX7_told 8 = .ok (.sipush (-1001), 3) := by decide +kernel
theorem dX7_told_11 : decode cX7_told 11 = .ok (.ireturn, 1) := by decide +kernel
theorem dX7_told_12 : decode cX7_told 12 = .ok (.iload_n 2, 1) := by decide +kernel
theorem dX7_told_13 : decode cX7_told 13 = .ok (.iconst 0, 1) := by decide +kernel
theorem dX7_told_14 : decode cX7_told 14 = .ok (.bipush 9, 2) := by decide +kernel
theorem dX7_told_16 : decode cX7_told 16 = .ok (.invokestatic 112, 3) := by decide +kernel
theorem dX7_told_19 : decode cX7_told 19 = .ok (.ifCond .eq 17, 3) := by decide +kernel
theorem dX7_told_22 : decode cX7_told 22 = .ok (.aload_n 0, 1) := by decide +kernel
theorem dX7_told_23 : decode cX7_told 23 = .ok (.getfield 18, 3) := by decide +kernel
theorem dX7_told_26 : decode cX7_told 26 = .ok (.iload_n 1, 1) := by decide +kernel
theorem dX7_told_27 : decode cX7_told 27 = .ok (.aaload, 1) := by decide +kernel
theorem dX7_told_28 : decode cX7_told 28 = .ok (.getfield 116, 3) := by decide +kernel
theorem dX7_told_31 : decode cX7_told 31 = .ok (.iload_n 2, 1) := by decide +kernel
theorem dX7_told_32 : decode cX7_told 32 = .ok (.iaload, 1) := by decide +kernel
theorem dX7_told_33 : decode cX7_told 33 = .ok (.goto 6, 3) := by decide +kernel
theorem dX7_told_36 : decode cX7_told 36 = .ok (.sipush (-1002), 3) := by decide +kernel
theorem dX7_told_39 : decode cX7_told 39 = .ok (.ireturn, 1) := by decide +kernel
theorem f_x_door_rows : True := trivial
theorem dX7_door_0 : decode cX7_door 0 = .ok (.aload_n 0, 1) := by decide +kernel
theorem dX7_door_1 : decode cX7_door 1 = .ok (.iload_n 1, 1) := by decide +kernel
theorem dX7_door_2 : decode cX7_door 2 = .ok (.iload_n 2, 1) := by decide +kernel
theorem dX7_door_3 : decode cX7_door 3 = .ok (.invokevirtual 120, 3) := by decide +kernel
theorem dX7_door_6 : decode cX7_door 6 = .ok (.ifCond .ne 7, 3) := by decide +kernel
theorem dX7_door_9 : decode cX7_door 9 = .ok (.sipush (-1001), 3) := by decide +kernel
theorem dX7_door_12 : decode cX7_door 12 = .ok (.ireturn, 1) := by decide +kernel
theorem dX7_door_13 : decode cX7_door 13 = .ok (.iload_n 3, 1) := by decide +kernel
theorem dX7_door_14 : decode cX7_door 14 = .ok (.iconst 0, 1) := by decide +kernel
theorem dX7_door_15 : decode cX7_door 15 = .ok (.iconst 1, 1) := by decide +kernel
theorem dX7_door_16 : decode cX7_door 16 = .ok (.invokestatic 112, 3) := by decide +kernel
theorem dX7_door_19 : decode cX7_door 19 = .ok (.ifCond .ne 7, 3) := by decide +kernel
theorem dX7_door_22 : decode cX7_door 22 = .ok (.sipush (-1002), 3) := by decide +kernel
theorem dX7_door_25 : decode cX7_door 25 = .ok (.ireturn, 1) := by decide +kernel
theorem dX7_door_26 : decode cX7_door 26 = .ok (.iload_n 3, 1) := by decide +kernel
theorem dX7_door_27 : decode cX7_door 27 = .ok (.ifCond .ne 17, 3) := by decide +kernel
theorem dX7_door_30 : decode cX7_door 30 = .ok (.aload_n 0, 1) := by decide +kernel
theorem dX7_door_31 : decode cX7_door 31 = .ok (.getfield 18, 3) := by decide +kernel
theorem dX7_door_34 : decode cX7_door 34 = .ok (.iload_n 1, 1) := by decide +kernel
theorem dX7_door_35 : decode cX7_door 35 = .ok (.aaload, 1) := by decide +kernel
theorem dX7_door_36 : decode cX7_door 36 = .ok (.getfield 124, 3) := by decide +kernel
theorem dX7_door_39 : decode cX7_door 39 = .ok (.iload_n 2, 1) := by decide +kernel
theorem dX7_door_40 : decode cX7_door 40 = .ok (.iaload, 1) := by decide +kernel
theorem dX7_door_41 : decode cX7_door 41 = .ok (.goto 14, 3) := by decide +kernel
theorem dX7_door_44 : decode cX7_door 44 = .ok (.aload_n 0, 1) := by decide +kernel
theorem dX7_door_45 : decode cX7_door 45 = .ok (.getfield 18, 3) := by decide +kernel
theorem dX7_door_48 : decode cX7_door 48 = .ok (.iload_n 1, 1) := by decide +kernel
theorem dX7_door_49 : decode cX7_door 49 = .ok (.aaload, 1) := by decide +kernel
theorem dX7_door_50 : decode cX7_door 50 = .ok (.getfield 127, 3) := by decide +kernel
theorem dX7_door_53 : decode cX7_door 53 = .ok (.iload_n 2, 1) := by decide +kernel
theorem dX7_door_54 : decode cX7_door 54 = .ok (.iaload, 1) := by decide +kernel
theorem dX7_door_55 : decode cX7_door 55 = .ok (.ireturn, 1) := by decide +kernel
theorem f_x_chance_rows : True := trivial
theorem dX7_chance_0 : decode cX7_chance 0 = .ok (.aload_n 0, 1) := by decide +kernel
theorem dX7_chance_1 : decode cX7_chance 1 = .ok (.iload_n 1, 1) := by decide +kernel
theorem dX7_chance_2 : decode cX7_chance 2 = .ok (.iload_n 2, 1) := by decide +kernel
theorem dX7_chance_3 : decode cX7_chance 3 = .ok (.invokevirtual 120, 3) := by decide +kernel
theorem dX7_chance_6 : decode cX7_chance 6 = .ok (.ifCond .eq 17, 3) := by decide +kernel
theorem dX7_chance_9 : decode cX7_chance 9 = .ok (.aload_n 0, 1) := by decide +kernel
theorem dX7_chance_10 : decode cX7_chance 10 = .ok (.getfield 18, 3) := by decide +kernel
theorem dX7_chance_13 : decode cX7_chance 13 = .ok (.iload_n 1, 1) := by decide +kernel
theorem dX7_chance_14 : decode cX7_chance 14 = .ok (.aaload, 1) := by decide +kernel
theorem dX7_chance_15 : decode cX7_chance 15 = .ok (.iload_n 2, 1) := by decide +kernel
theorem dX7_chance_16 : decode cX7_chance 16 = .ok (.iload_n 3, 1) := by decide +kernel
theorem dX7_chance_17 : decode cX7_chance 17 = .ok (.invokevirtual 130, 3) := by decide +kernel
theorem dX7_chance_20 : decode cX7_chance 20 = .ok (.goto 6, 3) := by decide +kernel
theorem dX7_chance_23 : decode cX7_chance 23 = .ok (.sipush (-1001), 3) := by decide +kernel
theorem dX7_chance_26 : decode cX7_chance 26 = .ok (.ireturn, 1) := by decide +kernel
theorem f_x_taking_rows : True := trivial
theorem dX7_taking_0 : decode cX7_taking 0 = .ok (.aload_n 0, 1) := by decide +kernel
theorem dX7_taking_1 : decode cX7_taking 1 = .ok (.iload_n 1, 1) := by decide +kernel
theorem dX7_taking_2 : decode cX7_taking 2 = .ok (.iload_n 3, 1) := by decide +kernel
theorem dX7_taking_3 : decode cX7_taking 3 = .ok (.invokevirtual 120, 3) := by decide +kernel
theorem dX7_taking_6 : decode cX7_taking 6 = .ok (.ifCond .ne 7, 3) := by decide +kernel
theorem dX7_taking_9 : decode cX7_taking 9 = .ok (.sipush (-1001), 3) := by decide +kernel
theorem dX7_taking_12 : decode cX7_taking 12 = .ok (.ireturn, 1) := by decide +kernel
theorem dX7_taking_13 : decode cX7_taking 13 = .ok (.aload_n 0, 1) := by decide +kernel
theorem dX7_taking_14 : decode cX7_taking 14 = .ok (.iload_n 1, 1) := by decide +kernel
theorem dX7_taking_15 : decode cX7_taking 15 = .ok (.iload_n 2, 1) := by decide +kernel
theorem dX7_taking_16 : decode cX7_taking 16 = .ok (.invokevirtual 134, 3) := by decide +kernel
theorem dX7_taking_19 : decode cX7_taking 19 = .ok (.ifCond .eq 17, 3) := by decide +kernel
theorem dX7_taking_22 : decode cX7_taking 22 = .ok (.aload_n 0, 1) := by decide +kernel
theorem dX7_taking_23 : decode cX7_taking 23 = .ok (.getfield 18, 3) := by decide +kernel
theorem dX7_taking_26 : decode cX7_taking 26 = .ok (.iload_n 1, 1) := by decide +kernel
theorem dX7_taking_27 : decode cX7_taking 27 = .ok (.aaload, 1) := by decide +kernel
theorem dX7_taking_28 : decode cX7_taking 28 = .ok (.iload_n 2, 1) := by decide +kernel
theorem dX7_taking_29 : decode cX7_taking 29 = .ok (.iload_n 3, 1) := by decide +kernel
theorem dX7_taking_30 : decode cX7_taking 30 = .ok (.invokevirtual 137, 3) := by decide +kernel
theorem dX7_taking_33 : decode cX7_taking 33 = .ok (.goto 6, 3) := by decide +kernel
theorem dX7_taking_36 : decode cX7_taking 36 = .ok (.sipush (-1002), 3) := by decide +kernel
theorem dX7_taking_39 : decode cX7_taking 39 = .ok (.ireturn, 1) := by decide +kernel
theorem f_x_worth_rows : True := trivial
theorem dX7_worth_0 : decode cX7_worth 0 = .ok (.aload_n 0, 1) := by decide +kernel
theorem dX7_worth_1 : decode cX7_worth 1 = .ok (.iload_n 1, 1) := by decide +kernel
theorem dX7_worth_2 : decode cX7_worth 2 = .ok (.iload_n 2, 1) := by decide +kernel
theorem dX7_worth_3 : decode cX7_worth 3 = .ok (.iload_n 3, 1) := by decide +kernel
theorem dX7_worth_4 : decode cX7_worth 4 = .ok (.iload 4, 2) := by decide +kernel
theorem dX7_worth_6 : decode cX7_worth 6 = .ok (.invokevirtual 141, 3) := by decide +kernel
theorem dX7_worth_9 : decode cX7_worth 9 = .ok (.istore 5, 2) := by decide +kernel
theorem dX7_worth_11 : decode cX7_worth 11 = .ok (.iload 5, 2) := by decide +kernel
theorem dX7_worth_13 : decode cX7_worth 13 = .ok (.ifCond .eq 8, 3) := by decide +kernel
theorem dX7_worth_16 : decode cX7_worth 16 = .ok (.iload 5, 2) := by decide +kernel
theorem dX7_worth_18 : decode cX7_worth 18 = .ok (.goto 16, 3) := by decide +kernel
theorem dX7_worth_21 : decode cX7_worth 21 = .ok (.aload_n 0, 1) := by decide +kernel
theorem dX7_worth_22 : decode cX7_worth 22 = .ok (.getfield 24, 3) := by decide +kernel
theorem dX7_worth_25 : decode cX7_worth 25 = .ok (.iload_n 1, 1) := by decide +kernel
theorem dX7_worth_26 : decode cX7_worth 26 = .ok (.aaload, 1) := by decide +kernel
theorem dX7_worth_27 : decode cX7_worth 27 = .ok (.iload_n 2, 1) := by decide +kernel
theorem dX7_worth_28 : decode cX7_worth 28 = .ok (.iload_n 3, 1) := by decide +kernel
theorem dX7_worth_29 : decode cX7_worth 29 = .ok (.iload 4, 2) := by decide +kernel
theorem dX7_worth_31 : decode cX7_worth 31 = .ok (.invokevirtual 145, 3) := by decide +kernel
theorem dX7_worth_34 : decode cX7_worth 34 = .ok (.ireturn, 1) := by decide +kernel
theorem f_x_goingOn_rows : True := trivial
theorem dX7_goingOn_0 : decode cX7_goingOn 0 = .ok (.aload_n 0, 1) := by decide +kernel
theorem dX7_goingOn_1 : decode cX7_goingOn 1 = .ok (.iload_n 1, 1) := by decide +kernel
theorem dX7_goingOn_2 : decode cX7_goingOn 2 = .ok (.iload_n 2, 1) := by decide +kernel
theorem dX7_goingOn_3 : decode cX7_goingOn 3 = .ok (.iload_n 3, 1) := by decide +kernel
theorem dX7_goingOn_4 : decode cX7_goingOn 4 = .ok (.iload 4, 2) := by decide +kernel
theorem dX7_goingOn_6 : decode cX7_goingOn 6 = .ok (.invokevirtual 141, 3) := by decide +kernel
theorem dX7_goingOn_9 : decode cX7_goingOn 9 = .ok (.istore 5, 2) := by decide +kernel
theorem dX7_goingOn_11 : decode cX7_goingOn 11 = .ok (.iload 5, 2) := by decide +kernel
theorem dX7_goingOn_13 : decode cX7_goingOn 13 = .ok (.ifCond .eq 8, 3) := by decide +kernel
theorem dX7_goingOn_16 : decode cX7_goingOn 16 = .ok (.iload 5, 2) := by decide +kernel
theorem dX7_goingOn_18 : decode cX7_goingOn 18 = .ok (.goto 16, 3) := by decide +kernel
theorem dX7_goingOn_21 : decode cX7_goingOn 21 = .ok (.aload_n 0, 1) := by decide +kernel
theorem dX7_goingOn_22 : decode cX7_goingOn 22 = .ok (.getfield 24, 3) := by decide +kernel
theorem dX7_goingOn_25 : decode cX7_goingOn 25 = .ok (.iload_n 1, 1) := by decide +kernel
theorem dX7_goingOn_26 : decode cX7_goingOn 26 = .ok (.aaload, 1) := by decide +kernel
theorem dX7_goingOn_27 : decode cX7_goingOn 27 = .ok (.iload_n 2, 1) := by decide +kernel
theorem dX7_goingOn_28 : decode cX7_goingOn 28 = .ok (.iload_n 3, 1) := by decide +kernel
theorem dX7_goingOn_29 : decode cX7_goingOn 29 = .ok (.iload 4, 2) := by decide +kernel
theorem dX7_goingOn_31 : decode cX7_goingOn 31 = .ok (.invokevirtual 149, 3) := by decide +kernel
theorem dX7_goingOn_34 : decode cX7_goingOn 34 = .ok (.ireturn, 1) := by decide +kernel
theorem f_x_takes_rows : True := trivial
theorem dX7_takes_0 : decode cX7_takes 0 = .ok (.aload_n 0, 1) := by decide +kernel
theorem dX7_takes_1 : decode cX7_takes 1 = .ok (.iload_n 1, 1) := by decide +kernel
theorem dX7_takes_2 : decode cX7_takes 2 = .ok (.iload_n 2, 1) := by decide +kernel
theorem dX7_takes_3 : decode cX7_takes 3 = .ok (.iload_n 3, 1) := by decide +kernel
theorem dX7_takes_4 : decode cX7_takes 4 = .ok (.iload 4, 2) := by decide +kernel
theorem dX7_takes_6 : decode cX7_takes 6 = .ok (.invokevirtual 141, 3) := by decide +kernel
theorem dX7_takes_9 : decode cX7_takes 9 = .ok (.istore 5, 2) := by decide +kernel
theorem dX7_takes_11 : decode cX7_takes 11 = .ok (.iload 5, 2) := by decide +kernel
theorem dX7_takes_13 : decode cX7_takes 13 = .ok (.ifCond .eq 6, 3) := by decide +kernel
theorem dX7_takes_16 : decode cX7_takes 16 = .ok (.iload 5, 2) := by decide +kernel
theorem dX7_takes_18 : decode cX7_takes 18 = .ok (.ireturn, 1) := by decide +kernel
theorem dX7_takes_19 : decode cX7_takes 19 = .ok (.iload 4, 2) := by decide +kernel
theorem dX7_takes_21 : decode cX7_takes 21 = .ok (.iconst 1, 1) := by decide +kernel
theorem dX7_takes_22 : decode cX7_takes 22 = .ok (.iand, 1) := by decide +kernel
theorem dX7_takes_23 : decode cX7_takes 23 = .ok (.ifCond .ne 7, 3) := by decide +kernel
theorem dX7_takes_26 : decode cX7_takes 26 = .ok (.sipush (-1003), 3) := by decide +kernel
theorem dX7_takes_29 : decode cX7_takes 29 = .ok (.ireturn, 1) := by decide +kernel
theorem dX7_takes_30 : decode cX7_takes 30 = .ok (.aload_n 0, 1) := by decide +kernel
theorem dX7_takes_31 : decode cX7_takes 31 = .ok (.getfield 24, 3) := by decide +kernel
theorem dX7_takes_34 : decode cX7_takes 34 = .ok (.iload_n 1, 1) := by decide +kernel
theorem dX7_takes_35 : decode cX7_takes 35 = .ok (.aaload, 1) := by decide +kernel
theorem dX7_takes_36 : decode cX7_takes 36 = .ok (.iload_n 2, 1) := by decide +kernel
theorem dX7_takes_37 : decode cX7_takes 37 = .ok (.iload_n 3, 1) := by decide +kernel
theorem dX7_takes_38 : decode cX7_takes 38 = .ok (.iload 4, 2) := by decide +kernel
theorem dX7_takes_40 : decode cX7_takes 40 = .ok (.invokevirtual 152, 3) := by decide +kernel
theorem dX7_takes_43 : decode cX7_takes 43 = .ok (.ifCond .eq 7, 3) := by decide +kernel
theorem dX7_takes_46 : decode cX7_takes 46 = .ok (.iconst 1, 1) := by decide +kernel
theorem dX7_takes_47 : decode cX7_takes 47 = .ok (.goto 4, 3) := by decide +kernel
theorem dX7_takes_50 : decode cX7_takes 50 = .ok (.iconst 0, 1) := by decide +kernel
theorem dX7_takes_51 : decode cX7_takes 51 = .ok (.ireturn, 1) := by decide +kernel
theorem f_x_start_rows : True := trivial
theorem dX7_start_0 : decode cX7_start 0 = .ok (.aload_n 0, 1) := by decide +kernel
theorem dX7_start_1 : decode cX7_start 1 = .ok (.iload_n 1, 1) := by decide +kernel
theorem dX7_start_2 : decode cX7_start 2 = .ok (.invokevirtual 108, 3) := by decide +kernel
theorem dX7_start_5 : decode cX7_start 5 = .ok (.ifCond .ne 7, 3) := by decide +kernel
theorem dX7_start_8 : decode cX7_start 8 = .ok (.sipush (-1001), 3) := by decide +kernel
theorem dX7_start_11 : decode cX7_start 11 = .ok (.ireturn, 1) := by decide +kernel
theorem dX7_start_12 : decode cX7_start 12 = .ok (.aload_n 0, 1) := by decide +kernel
theorem dX7_start_13 : decode cX7_start 13 = .ok (.iload_n 1, 1) := by decide +kernel
theorem dX7_start_14 : decode cX7_start 14 = .ok (.iload_n 2, 1) := by decide +kernel
theorem dX7_start_15 : decode cX7_start 15 = .ok (.invokevirtual 134, 3) := by decide +kernel
theorem dX7_start_18 : decode cX7_start 18 = .ok (.ifCond .eq 17, 3) := by decide +kernel
theorem dX7_start_21 : decode cX7_start 21 = .ok (.aload_n 0, 1) := by decide +kernel
theorem dX7_start_22 : decode cX7_start 22 = .ok (.getfield 24, 3) := by decide +kernel
theorem dX7_start_25 : decode cX7_start 25 = .ok (.iload_n 1, 1) := by decide +kernel
theorem dX7_start_26 : decode cX7_start 26 = .ok (.aaload, 1) := by decide +kernel
theorem dX7_start_27 : decode cX7_start 27 = .ok (.getfield 155, 3) := by decide +kernel
theorem dX7_start_30 : decode cX7_start 30 = .ok (.iload_n 2, 1) := by decide +kernel
theorem dX7_start_31 : decode cX7_start 31 = .ok (.iaload, 1) := by decide +kernel
theorem dX7_start_32 : decode cX7_start 32 = .ok (.goto 6, 3) := by decide +kernel
theorem dX7_start_35 : decode cX7_start 35 = .ok (.sipush (-1002), 3) := by decide +kernel
theorem dX7_start_38 : decode cX7_start 38 = .ok (.ireturn, 1) := by decide +kernel
theorem f_x_end_rows : True := trivial
theorem dX7_end_0 : decode cX7_end 0 = .ok (.aload_n 0, 1) := by decide +kernel
theorem dX7_end_1 : decode cX7_end 1 = .ok (.iload_n 1, 1) := by decide +kernel
theorem dX7_end_2 : decode cX7_end 2 = .ok (.invokevirtual 108, 3) := by decide +kernel
theorem dX7_end_5 : decode cX7_end 5 = .ok (.ifCond .ne 7, 3) := by decide +kernel
theorem dX7_end_8 : decode cX7_end 8 = .ok (.sipush (-1001), 3) := by decide +kernel
theorem dX7_end_11 : decode cX7_end 11 = .ok (.ireturn, 1) := by decide +kernel
theorem dX7_end_12 : decode cX7_end 12 = .ok (.aload_n 0, 1) := by decide +kernel
theorem dX7_end_13 : decode cX7_end 13 = .ok (.iload_n 1, 1) := by decide +kernel
theorem dX7_end_14 : decode cX7_end 14 = .ok (.iload_n 2, 1) := by decide +kernel
theorem dX7_end_15 : decode cX7_end 15 = .ok (.invokevirtual 134, 3) := by decide +kernel
theorem dX7_end_18 : decode cX7_end 18 = .ok (.ifCond .eq 12, 3) := by decide +kernel
theorem dX7_end_21 : decode cX7_end 21 = .ok (.iload_n 3, 1) := by decide +kernel
theorem dX7_end_22 : decode cX7_end 22 = .ok (.iconst 0, 1) := by decide +kernel
theorem dX7_end_23 : decode cX7_end 23 = .ok (.iconst 1, 1) := by decide +kernel
theorem dX7_end_24 : decode cX7_end 24 = .ok (.invokestatic 112, 3) := by decide +kernel
theorem dX7_end_27 : decode cX7_end 27 = .ok (.ifCond .ne 7, 3) := by decide +kernel
theorem dX7_end_30 : decode cX7_end 30 = .ok (.sipush (-1002), 3) := by decide +kernel
theorem dX7_end_33 : decode cX7_end 33 = .ok (.ireturn, 1) := by decide +kernel
theorem dX7_end_34 : decode cX7_end 34 = .ok (.iload_n 3, 1) := by decide +kernel
theorem dX7_end_35 : decode cX7_end 35 = .ok (.ifCond .ne 15, 3) := by decide +kernel
theorem dX7_end_38 : decode cX7_end 38 = .ok (.aload_n 0, 1) := by decide +kernel
theorem dX7_end_39 : decode cX7_end 39 = .ok (.getfield 24, 3) := by decide +kernel
theorem dX7_end_42 : decode cX7_end 42 = .ok (.iload_n 1, 1) := by decide +kernel
theorem dX7_end_43 : decode cX7_end 43 = .ok (.aaload, 1) := by decide +kernel
theorem dX7_end_44 : decode cX7_end 44 = .ok (.getfield 158, 3) := by decide +kernel
theorem dX7_end_47 : decode cX7_end 47 = .ok (.iload_n 2, 1) := by decide +kernel
theorem dX7_end_48 : decode cX7_end 48 = .ok (.iaload, 1) := by decide +kernel
theorem dX7_end_49 : decode cX7_end 49 = .ok (.ireturn, 1) := by decide +kernel
theorem dX7_end_50 : decode cX7_end 50 = .ok (.aload_n 0, 1) := by decide +kernel
theorem dX7_end_51 : decode cX7_end 51 = .ok (.getfield 24, 3) := by decide +kernel
theorem dX7_end_54 : decode cX7_end 54 = .ok (.iload_n 1, 1) := by decide +kernel
theorem dX7_end_55 : decode cX7_end 55 = .ok (.aaload, 1) := by decide +kernel
theorem dX7_end_56 : decode cX7_end 56 = .ok (.getfield 158, 3) := by decide +kernel
theorem dX7_end_59 : decode cX7_end 59 = .ok (.iload_n 2, 1) := by decide +kernel
theorem dX7_end_60 : decode cX7_end 60 = .ok (.iaload, 1) := by decide +kernel
theorem dX7_end_61 : decode cX7_end 61 = .ok (.aload_n 0, 1) := by decide +kernel
theorem dX7_end_62 : decode cX7_end 62 = .ok (.getfield 18, 3) := by decide +kernel
theorem dX7_end_65 : decode cX7_end 65 = .ok (.iload_n 1, 1) := by decide +kernel
theorem dX7_end_66 : decode cX7_end 66 = .ok (.aaload, 1) := by decide +kernel
theorem dX7_end_67 : decode cX7_end 67 = .ok (.iload_n 2, 1) := by decide +kernel
theorem dX7_end_68 : decode cX7_end 68 = .ok (.invokevirtual 161, 3) := by decide +kernel
theorem dX7_end_71 : decode cX7_end 71 = .ok (.if_icmp .ge 7, 3) := by decide +kernel
theorem dX7_end_74 : decode cX7_end 74 = .ok (.iconst 1, 1) := by decide +kernel
theorem dX7_end_75 : decode cX7_end 75 = .ok (.goto 4, 3) := by decide +kernel
theorem dX7_end_78 : decode cX7_end 78 = .ok (.iconst 0, 1) := by decide +kernel
theorem dX7_end_79 : decode cX7_end 79 = .ok (.ireturn, 1) := by decide +kernel
theorem f_x_bar_rows : True := trivial
theorem dX7_bar_0 : decode cX7_bar 0 = .ok (.aload_n 0, 1) := by decide +kernel
theorem dX7_bar_1 : decode cX7_bar 1 = .ok (.iload_n 1, 1) := by decide +kernel
theorem dX7_bar_2 : decode cX7_bar 2 = .ok (.invokevirtual 108, 3) := by decide +kernel
theorem dX7_bar_5 : decode cX7_bar 5 = .ok (.ifCond .ne 7, 3) := by decide +kernel
theorem dX7_bar_8 : decode cX7_bar 8 = .ok (.sipush (-1001), 3) := by decide +kernel
theorem dX7_bar_11 : decode cX7_bar 11 = .ok (.ireturn, 1) := by decide +kernel
theorem dX7_bar_12 : decode cX7_bar 12 = .ok (.aload_n 0, 1) := by decide +kernel
theorem dX7_bar_13 : decode cX7_bar 13 = .ok (.iload_n 1, 1) := by decide +kernel
theorem dX7_bar_14 : decode cX7_bar 14 = .ok (.iload_n 2, 1) := by decide +kernel
theorem dX7_bar_15 : decode cX7_bar 15 = .ok (.invokevirtual 134, 3) := by decide +kernel
theorem dX7_bar_18 : decode cX7_bar 18 = .ok (.ifCond .eq 16, 3) := by decide +kernel
theorem dX7_bar_21 : decode cX7_bar 21 = .ok (.aload_n 0, 1) := by decide +kernel
theorem dX7_bar_22 : decode cX7_bar 22 = .ok (.getfield 24, 3) := by decide +kernel
theorem dX7_bar_25 : decode cX7_bar 25 = .ok (.iload_n 1, 1) := by decide +kernel
theorem dX7_bar_26 : decode cX7_bar 26 = .ok (.aaload, 1) := by decide +kernel
theorem dX7_bar_27 : decode cX7_bar 27 = .ok (.iload_n 2, 1) := by decide +kernel
theorem dX7_bar_28 : decode cX7_bar 28 = .ok (.invokevirtual 165, 3) := by decide +kernel
theorem dX7_bar_31 : decode cX7_bar 31 = .ok (.goto 6, 3) := by decide +kernel
theorem dX7_bar_34 : decode cX7_bar 34 = .ok (.sipush (-1002), 3) := by decide +kernel
theorem dX7_bar_37 : decode cX7_bar 37 = .ok (.ireturn, 1) := by decide +kernel
theorem f_x_which_rows : True := trivial
theorem dX7_which_0 : decode cX7_which 0 = .ok (.aload_n 0, 1) := by decide +kernel
theorem dX7_which_1 : decode cX7_which 1 = .ok (.iload_n 1, 1) := by decide +kernel
theorem dX7_which_2 : decode cX7_which 2 = .ok (.invokevirtual 108, 3) := by decide +kernel
theorem dX7_which_5 : decode cX7_which 5 = .ok (.ifCond .eq 11, 3) := by decide +kernel
theorem dX7_which_8 : decode cX7_which 8 = .ok (.aload_n 0, 1) := by decide +kernel
theorem dX7_which_9 : decode cX7_which 9 = .ok (.iload_n 2, 1) := by decide +kernel
theorem dX7_which_10 : decode cX7_which 10 = .ok (.invokevirtual 108, 3) := by decide +kernel
theorem dX7_which_13 : decode cX7_which 13 = .ok (.ifCond .ne 7, 3) := by decide +kernel
theorem dX7_which_16 : decode cX7_which 16 = .ok (.sipush (-1001), 3) := by decide +kernel
theorem dX7_which_19 : decode cX7_which 19 = .ok (.ireturn, 1) := by decide +kernel
theorem dX7_which_20 : decode cX7_which 20 = .ok (.aload_n 0, 1) := by decide +kernel
theorem dX7_which_21 : decode cX7_which 21 = .ok (.getfield 24, 3) := by decide +kernel
theorem dX7_which_24 : decode cX7_which 24 = .ok (.iload_n 2, 1) := by decide +kernel
theorem dX7_which_25 : decode cX7_which 25 = .ok (.aaload, 1) := by decide +kernel
theorem dX7_which_26 : decode cX7_which 26 = .ok (.getfield 155, 3) := by decide +kernel
theorem dX7_which_29 : decode cX7_which 29 = .ok (.iconst 0, 1) := by decide +kernel
theorem dX7_which_30 : decode cX7_which 30 = .ok (.iaload, 1) := by decide +kernel
theorem dX7_which_31 : decode cX7_which 31 = .ok (.aload_n 0, 1) := by decide +kernel
theorem dX7_which_32 : decode cX7_which 32 = .ok (.getfield 24, 3) := by decide +kernel
theorem dX7_which_35 : decode cX7_which 35 = .ok (.iload_n 1, 1) := by decide +kernel
theorem dX7_which_36 : decode cX7_which 36 = .ok (.aaload, 1) := by decide +kernel
theorem dX7_which_37 : decode cX7_which 37 = .ok (.getfield 155, 3) := by decide +kernel
theorem dX7_which_40 : decode cX7_which 40 = .ok (.iconst 0, 1) := by decide +kernel
theorem dX7_which_41 : decode cX7_which 41 = .ok (.iaload, 1) := by decide +kernel
theorem dX7_which_42 : decode cX7_which 42 = .ok (.if_icmp .ge 7, 3) := by decide +kernel
theorem dX7_which_45 : decode cX7_which 45 = .ok (.iload_n 2, 1) := by decide +kernel
theorem dX7_which_46 : decode cX7_which 46 = .ok (.goto 4, 3) := by decide +kernel
theorem dX7_which_49 : decode cX7_which 49 = .ok (.iload_n 1, 1) := by decide +kernel
theorem dX7_which_50 : decode cX7_which 50 = .ok (.ireturn, 1) := by decide +kernel
theorem f_x_judge_rows : True := trivial
theorem dX7_judge_0 : decode cX7_judge 0 = .ok (.aload_n 0, 1) := by decide +kernel
theorem dX7_judge_1 : decode cX7_judge 1 = .ok (.iload_n 1, 1) := by decide +kernel
theorem dX7_judge_2 : decode cX7_judge 2 = .ok (.invokevirtual 108, 3) := by decide +kernel
theorem dX7_judge_5 : decode cX7_judge 5 = .ok (.ifCond .ne 7, 3) := by decide +kernel
theorem dX7_judge_8 : decode cX7_judge 8 = .ok (.sipush (-1001), 3) := by decide +kernel
theorem dX7_judge_11 : decode cX7_judge 11 = .ok (.ireturn, 1) := by decide +kernel
theorem dX7_judge_12 : decode cX7_judge 12 = .ok (.aload_n 0, 1) := by decide +kernel
theorem dX7_judge_13 : decode cX7_judge 13 = .ok (.iload_n 1, 1) := by decide +kernel
theorem dX7_judge_14 : decode cX7_judge 14 = .ok (.iload_n 2, 1) := by decide +kernel
theorem dX7_judge_15 : decode cX7_judge 15 = .ok (.invokevirtual 134, 3) := by decide +kernel
theorem dX7_judge_18 : decode cX7_judge 18 = .ok (.ifCond .ne 7, 3) := by decide +kernel
theorem dX7_judge_21 : decode cX7_judge 21 = .ok (.sipush (-1002), 3) := by decide +kernel
theorem dX7_judge_24 : decode cX7_judge 24 = .ok (.ireturn, 1) := by decide +kernel
theorem dX7_judge_25 : decode cX7_judge 25 = .ok (.aload_n 0, 1) := by decide +kernel
theorem dX7_judge_26 : decode cX7_judge 26 = .ok (.getfield 49, 3) := by decide +kernel
theorem dX7_judge_29 : decode cX7_judge 29 = .ok (.getfield 176, 3) := by decide +kernel
theorem dX7_judge_32 : decode cX7_judge 32 = .ok (.iconst 1, 1) := by decide +kernel
theorem dX7_judge_33 : decode cX7_judge 33 = .ok (.isub, 1) := by decide +kernel
theorem dX7_judge_34 : decode cX7_judge 34 = .ok (.istore 4, 2) := by decide +kernel
theorem dX7_judge_36 : decode cX7_judge 36 = .ok (.iload 4, 2) := by decide +kernel
theorem dX7_judge_38 : decode cX7_judge 38 = .ok (.ifCond .lt 33, 3) := by decide +kernel
theorem dX7_judge_41 : decode cX7_judge 41 = .ok (.iload 4, 2) := by decide +kernel
theorem dX7_judge_43 : decode cX7_judge 43 = .ok (.aload_n 0, 1) := by decide +kernel
theorem dX7_judge_44 : decode cX7_judge 44 = .ok (.getfield 18, 3) := by decide +kernel
theorem dX7_judge_47 : decode cX7_judge 47 = .ok (.iload_n 1, 1) := by decide +kernel
theorem dX7_judge_48 : decode cX7_judge 48 = .ok (.aaload, 1) := by decide +kernel
theorem dX7_judge_49 : decode cX7_judge 49 = .ok (.invokevirtual 105, 3) := by decide +kernel
theorem dX7_judge_52 : decode cX7_judge 52 = .ok (.if_icmp .ge 19, 3) := by decide +kernel
theorem dX7_judge_55 : decode cX7_judge 55 = .ok (.iload_n 3, 1) := by decide +kernel
theorem dX7_judge_56 : decode cX7_judge 56 = .ok (.ifCond .eq 19, 3) := by decide +kernel
theorem dX7_judge_59 : decode cX7_judge 59 = .ok (.aload_n 0, 1) := by decide +kernel
theorem dX7_judge_60 : decode cX7_judge 60 = .ok (.getfield 49, 3) := by decide +kernel
theorem dX7_judge_63 : decode cX7_judge 63 = .ok (.iload 4, 2) := by decide +kernel
theorem dX7_judge_65 : decode cX7_judge 65 = .ok (.invokevirtual 186, 3) := by decide +kernel
theorem dX7_judge_68 : decode cX7_judge 68 = .ok (.ifCond .ne 7, 3) := by decide +kernel
theorem dX7_judge_71 : decode cX7_judge 71 = .ok (.sipush (-1003), 3) := by decide +kernel
theorem dX7_judge_74 : decode cX7_judge 74 = .ok (.ireturn, 1) := by decide +kernel
theorem dX7_judge_75 : decode cX7_judge 75 = .ok (.aload_n 0, 1) := by decide +kernel
theorem dX7_judge_76 : decode cX7_judge 76 = .ok (.getfield 24, 3) := by decide +kernel
theorem dX7_judge_79 : decode cX7_judge 79 = .ok (.iload_n 1, 1) := by decide +kernel
theorem dX7_judge_80 : decode cX7_judge 80 = .ok (.aaload, 1) := by decide +kernel
theorem dX7_judge_81 : decode cX7_judge 81 = .ok (.iload_n 2, 1) := by decide +kernel
theorem dX7_judge_82 : decode cX7_judge 82 = .ok (.aload_n 0, 1) := by decide +kernel
theorem dX7_judge_83 : decode cX7_judge 83 = .ok (.getfield 49, 3) := by decide +kernel
theorem dX7_judge_86 : decode cX7_judge 86 = .ok (.iload_n 3, 1) := by decide +kernel
theorem dX7_judge_87 : decode cX7_judge 87 = .ok (.invokevirtual 189, 3) := by decide +kernel
theorem dX7_judge_90 : decode cX7_judge 90 = .ok (.ireturn, 1) := by decide +kernel
theorem f_x_thought_rows : True := trivial
theorem dX7_thought_0 : decode cX7_thought 0 = .ok (.aload_n 0, 1) := by decide +kernel
theorem dX7_thought_1 : decode cX7_thought 1 = .ok (.iload_n 1, 1) := by decide +kernel
theorem dX7_thought_2 : decode cX7_thought 2 = .ok (.invokevirtual 108, 3) := by decide +kernel
theorem dX7_thought_5 : decode cX7_thought 5 = .ok (.ifCond .eq 11, 3) := by decide +kernel
theorem dX7_thought_8 : decode cX7_thought 8 = .ok (.aload_n 0, 1) := by decide +kernel
theorem dX7_thought_9 : decode cX7_thought 9 = .ok (.iload_n 2, 1) := by decide +kernel
theorem dX7_thought_10 : decode cX7_thought 10 = .ok (.invokevirtual 108, 3) := by decide +kernel
theorem dX7_thought_13 : decode cX7_thought 13 = .ok (.ifCond .ne 7, 3) := by decide +kernel
theorem dX7_thought_16 : decode cX7_thought 16 = .ok (.sipush (-1001), 3) := by decide +kernel
theorem dX7_thought_19 : decode cX7_thought 19 = .ok (.ireturn, 1) := by decide +kernel
theorem dX7_thought_20 : decode cX7_thought 20 = .ok (.aload_n 0, 1) := by decide +kernel
theorem dX7_thought_21 : decode cX7_thought 21 = .ok (.getfield 64, 3) := by decide +kernel
theorem dX7_thought_24 : decode cX7_thought 24 = .ok (.aload_n 0, 1) := by decide +kernel
theorem dX7_thought_25 : decode cX7_thought 25 = .ok (.getfield 18, 3) := by decide +kernel
theorem dX7_thought_28 : decode cX7_thought 28 = .ok (.iload_n 1, 1) := by decide +kernel
theorem dX7_thought_29 : decode cX7_thought 29 = .ok (.aaload, 1) := by decide +kernel
theorem dX7_thought_30 : decode cX7_thought 30 = .ok (.aload_n 0, 1) := by decide +kernel
theorem dX7_thought_31 : decode cX7_thought 31 = .ok (.getfield 18, 3) := by decide +kernel
theorem dX7_thought_34 : decode cX7_thought 34 = .ok (.iload_n 2, 1) := by decide +kernel
theorem dX7_thought_35 : decode cX7_thought 35 = .ok (.aaload, 1) := by decide +kernel
theorem dX7_thought_36 : decode cX7_thought 36 = .ok (.aload_n 0, 1) := by decide +kernel
theorem dX7_thought_37 : decode cX7_thought 37 = .ok (.getfield 49, 3) := by decide +kernel
theorem dX7_thought_40 : decode cX7_thought 40 = .ok (.invokevirtual 193, 3) := by decide +kernel
theorem dX7_thought_43 : decode cX7_thought 43 = .ok (.ireturn, 1) := by decide +kernel
theorem f_x_count_rows : True := trivial
theorem dX7_count_0 : decode cX7_count 0 = .ok (.iload_n 1, 1) := by decide +kernel
theorem dX7_count_1 : decode cX7_count 1 = .ok (.tableswitch 75 0 4 #[35, 40, 48, 59, 67], 35) := by decide +kernel
theorem dX7_count_36 : decode cX7_count 36 = .ok (.aload_n 0, 1) := by decide +kernel
theorem dX7_count_37 : decode cX7_count 37 = .ok (.getfield 39, 3) := by decide +kernel
theorem dX7_count_40 : decode cX7_count 40 = .ok (.ireturn, 1) := by decide +kernel
theorem dX7_count_41 : decode cX7_count 41 = .ok (.aload_n 0, 1) := by decide +kernel
theorem dX7_count_42 : decode cX7_count 42 = .ok (.getfield 49, 3) := by decide +kernel
theorem dX7_count_45 : decode cX7_count 45 = .ok (.getfield 176, 3) := by decide +kernel
theorem dX7_count_48 : decode cX7_count 48 = .ok (.ireturn, 1) := by decide +kernel
theorem dX7_count_49 : decode cX7_count 49 = .ok (.aload_n 0, 1) := by decide +kernel
theorem dX7_count_50 : decode cX7_count 50 = .ok (.getfield 49, 3) := by decide +kernel
theorem dX7_count_53 : decode cX7_count 53 = .ok (.getfield 183, 3) := by decide +kernel
theorem dX7_count_56 : decode cX7_count 56 = .ok (.invokestatic 275, 3) := by decide +kernel
theorem dX7_count_59 : decode cX7_count 59 = .ok (.ireturn, 1) := by decide +kernel
theorem dX7_count_60 : decode cX7_count 60 = .ok (.aload_n 0, 1) := by decide +kernel
theorem dX7_count_61 : decode cX7_count 61 = .ok (.getfield 49, 3) := by decide +kernel
theorem dX7_count_64 : decode cX7_count 64 = .ok (.getfield 214, 3) := by decide +kernel
theorem dX7_count_67 : decode cX7_count 67 = .ok (.ireturn, 1) := by decide +kernel
theorem dX7_count_68 : decode cX7_count 68 = .ok (.aload_n 0, 1) := by decide +kernel
theorem dX7_count_69 : decode cX7_count 69 = .ok (.getfield 12, 3) := by decide +kernel
theorem dX7_count_72 : decode cX7_count 72 = .ok (.getfield 81, 3) := by decide +kernel
theorem dX7_count_75 : decode cX7_count 75 = .ok (.ireturn, 1) := by decide +kernel
theorem dX7_count_76 : decode cX7_count 76 = .ok (.sipush (-1002), 3) := by decide +kernel
theorem dX7_count_79 : decode cX7_count 79 = .ok (.ireturn, 1) := by decide +kernel
theorem tw_2 : Cond.selects RX7 yX7_closeText yX7_closeText ∈ LW := LWm (i := 2) (by decide +kernel) rfl
theorem tw_15 : Cond.selects RX7 yX7_isRule yX7_isRule ∈ LW := LWm (i := 15) (by decide +kernel) rfl
theorem tw_17 : Cond.selects RX7 yX7_isCar yX7_isCar ∈ LW := LWm (i := 17) (by decide +kernel) rfl
theorem tw_21 : Cond.selects RX7 yX7_refuseSet yX7_refuseSet ∈ LW := LWm (i := 21) (by decide +kernel) rfl
theorem tw_177 : Cond.fieldLink RX7 223 "LastPlace$Scene" "bars" "[I" ∈ LW := LWm1 (i := 99) (by decide +kernel) rfl
theorem tw_189 : Cond.fieldLink RX7 266 "LastPlace$Scene" "seedNow" "I" ∈ LW := LWm1 (i := 111) (by decide +kernel) rfl
theorem tw_214 : Cond.fieldLink RX7 201 "LastPlace$Reckoner" "waitTicks" "I" ∈ LW := LWm1 (i := 136) (by decide +kernel) rfl
theorem tw_216 : Cond.fieldLink RX7 204 "LastPlace$Reckoner" "waitCost" "I" ∈ LW := LWm1 (i := 138) (by decide +kernel) rfl
theorem tw_237 : Cond.fieldLink RX7 249 "LastPlace$Parking" "bars" "[I" ∈ LW := LWm1 (i := 159) (by decide +kernel) rfl
theorem tw_308 : Cond.fieldLink RX7 29 "LastPlace" "draft" "LLastPlace$Street;" ∈ LW := LWm1 (i := 230) (by decide +kernel) rfl
theorem tw_309 : Cond.fieldLink RX7 35 "LastPlace" "rules" "[LLastPlace$Rule;" ∈ LW := LWm1 (i := 231) (by decide +kernel) rfl
theorem tw_313 : Cond.fieldLink RX7 53 "LastPlace" "images" "[LLastPlace$Scene;" ∈ LW := LWm1 (i := 235) (by decide +kernel) rfl
theorem tw_314 : Cond.fieldLink RX7 57 "LastPlace" "kept" "[Z" ∈ LW := LWm1 (i := 236) (by decide +kernel) rfl
theorem tw_316 : Cond.fieldLink RX7 73 "LastPlace" "parking" "LLastPlace$Parking;" ∈ LW := LWm1 (i := 238) (by decide +kernel) rfl
theorem tw_346 : Cond.methodLink RX7 84 yX6_append ∈ LW := LWm2 (i := 28) (by decide +kernel) rfl
theorem tw_347 : Cond.instanceMethod yX6_append ∈ LW := LWm2 (i := 29) (by decide +kernel) rfl
theorem tw_348 : Cond.selects RX6 yX6_append yX6_append ∈ LW := LWm2 (i := 30) (by decide +kernel) rfl
set_option maxRecDepth 100000 in theorem tw_349 : Cond.code yX6_append cX6_append 2 none ∈ LW := LWm2 (i := 31) rfl rfl
theorem tw_354 : Cond.methodLink RX7 88 yX6_rewind ∈ LW := LWm2 (i := 36) (by decide +kernel) rfl
theorem tw_355 : Cond.instanceMethod yX6_rewind ∈ LW := LWm2 (i := 37) (by decide +kernel) rfl
theorem tw_356 : Cond.selects RX6 yX6_rewind yX6_rewind ∈ LW := LWm2 (i := 38) (by decide +kernel) rfl
set_option maxRecDepth 100000 in theorem tw_357 : Cond.code yX6_rewind cX6_rewind 1 none ∈ LW := LWm2 (i := 39) rfl rfl
theorem tw_358 : Cond.methodLink RX7 91 yX5_readFrom ∈ LW := LWm2 (i := 40) (by decide +kernel) rfl
theorem tw_359 : Cond.instanceMethod yX5_readFrom ∈ LW := LWm2 (i := 41) (by decide +kernel) rfl
theorem tw_360 : Cond.selects RX5 yX5_readFrom yX5_readFrom ∈ LW := LWm2 (i := 42) (by decide +kernel) rfl
set_option maxRecDepth 100000 in theorem tw_361 : Cond.code yX5_readFrom cX5_readFrom 6 none ∈ LW := LWm2 (i := 43) rfl rfl
theorem tw_496 : Cond.methodLink RX7 95 yX7_closeText ∈ LW := LWm2 (i := 178) (by decide +kernel) rfl
theorem tw_498 : Cond.instanceMethod yX7_closeText ∈ LW := LWm2 (i := 180) (by decide +kernel) rfl
set_option maxRecDepth 100000 in theorem tw_499 : Cond.code yX7_closeText cX7_closeText 1 (some .int) ∈ LW := LWm2 (i := 181) rfl rfl
theorem tw_501 : Cond.methodLink RX7 99 yX5_become ∈ LW := LWm2 (i := 183) (by decide +kernel) rfl
theorem tw_502 : Cond.instanceMethod yX5_become ∈ LW := LWm2 (i := 184) (by decide +kernel) rfl
theorem tw_503 : Cond.selects RX5 yX5_become yX5_become ∈ LW := LWm2 (i := 185) (by decide +kernel) rfl
set_option maxRecDepth 100000 in theorem tw_504 : Cond.code yX5_become cX5_become 3 none ∈ LW := LWm2 (i := 186) rfl rfl
theorem tw_512 : Cond.methodLink RX7 102 yX0_reckon ∈ LW := LWm2 (i := 194) (by decide +kernel) rfl
theorem tw_513 : Cond.instanceMethod yX0_reckon ∈ LW := LWm2 (i := 195) (by decide +kernel) rfl
theorem tw_514 : Cond.selects RX0 yX0_reckon yX0_reckon ∈ LW := LWm2 (i := 196) (by decide +kernel) rfl
set_option maxRecDepth 100000 in theorem tw_515 : Cond.code yX0_reckon cX0_reckon 3 none ∈ LW := LWm2 (i := 197) rfl rfl
theorem tw_675 : Cond.methodLink RX7 168 yX3_readFrom ∈ LW := LWm3 (i := 117) (by decide +kernel) rfl
theorem tw_676 : Cond.instanceMethod yX3_readFrom ∈ LW := LWm3 (i := 118) (by decide +kernel) rfl
theorem tw_677 : Cond.selects RX3 yX3_readFrom yX3_readFrom ∈ LW := LWm3 (i := 119) (by decide +kernel) rfl
set_option maxRecDepth 100000 in theorem tw_678 : Cond.code yX3_readFrom cX3_readFrom 3 none ∈ LW := LWm3 (i := 120) rfl rfl
theorem tw_697 : Cond.methodLink RX7 169 yX7_isRule ∈ LW := LWm3 (i := 139) (by decide +kernel) rfl
theorem tw_699 : Cond.instanceMethod yX7_isRule ∈ LW := LWm3 (i := 141) (by decide +kernel) rfl
set_option maxRecDepth 100000 in theorem tw_700 : Cond.code yX7_isRule cX7_isRule 2 (some .boolean) ∈ LW := LWm3 (i := 142) rfl rfl
theorem tw_701 : Cond.methodLink RX7 172 yX2_meanOf ∈ LW := LWm3 (i := 143) (by decide +kernel) rfl
theorem tw_702 : Cond.instanceMethod yX2_meanOf ∈ LW := LWm3 (i := 144) (by decide +kernel) rfl
theorem tw_703 : Cond.selects RX2 yX2_meanOf yX2_meanOf ∈ LW := LWm3 (i := 145) (by decide +kernel) rfl
set_option maxRecDepth 100000 in theorem tw_704 : Cond.code yX2_meanOf cX2_meanOf 7 (some .int) ∈ LW := LWm3 (i := 146) rfl rfl
theorem tw_740 : Cond.methodLink RX7 179 yX4_see ∈ LW := LWm3 (i := 182) (by decide +kernel) rfl
theorem tw_741 : Cond.instanceMethod yX4_see ∈ LW := LWm3 (i := 183) (by decide +kernel) rfl
theorem tw_742 : Cond.selects RX4 yX4_see yX4_see ∈ LW := LWm3 (i := 184) (by decide +kernel) rfl
set_option maxRecDepth 100000 in theorem tw_743 : Cond.code yX4_see cX4_see 2 (some .int) ∈ LW := LWm3 (i := 185) rfl rfl
theorem tw_784 : Cond.methodLink RX7 197 yX2_reckonWait ∈ LW := LWm3 (i := 226) (by decide +kernel) rfl
theorem tw_785 : Cond.instanceMethod yX2_reckonWait ∈ LW := LWm3 (i := 227) (by decide +kernel) rfl
theorem tw_786 : Cond.selects RX2 yX2_reckonWait yX2_reckonWait ∈ LW := LWm3 (i := 228) (by decide +kernel) rfl
set_option maxRecDepth 100000 in theorem tw_787 : Cond.code yX2_reckonWait cX2_reckonWait 7 none ∈ LW := LWm3 (i := 229) rfl rfl
theorem tw_792 : Cond.methodLink RX7 207 yX2_boyOf ∈ LW := LWm3 (i := 234) (by decide +kernel) rfl
theorem tw_793 : Cond.instanceMethod yX2_boyOf ∈ LW := LWm3 (i := 235) (by decide +kernel) rfl
theorem tw_794 : Cond.selects RX2 yX2_boyOf yX2_boyOf ∈ LW := LWm3 (i := 236) (by decide +kernel) rfl
set_option maxRecDepth 100000 in theorem tw_795 : Cond.code yX2_boyOf cX2_boyOf 8 (some .int) ∈ LW := LWm3 (i := 237) rfl rfl
theorem tw_800 : Cond.fieldLink RX7 211 "LastPlace" "MOST" "[I" ∈ LW := LWm4 (i := 2) (by decide +kernel) rfl
theorem tw_801 : Cond.methodLink RX7 217 yX4_addCar ∈ LW := LWm4 (i := 3) (by decide +kernel) rfl
theorem tw_802 : Cond.instanceMethod yX4_addCar ∈ LW := LWm4 (i := 4) (by decide +kernel) rfl
theorem tw_803 : Cond.selects RX4 yX4_addCar yX4_addCar ∈ LW := LWm4 (i := 5) (by decide +kernel) rfl
set_option maxRecDepth 100000 in theorem tw_804 : Cond.code yX4_addCar cX4_addCar 4 (some .int) ∈ LW := LWm4 (i := 6) rfl rfl
theorem tw_809 : Cond.methodLink RX7 220 yX7_isCar ∈ LW := LWm4 (i := 11) (by decide +kernel) rfl
theorem tw_811 : Cond.instanceMethod yX7_isCar ∈ LW := LWm4 (i := 13) (by decide +kernel) rfl
set_option maxRecDepth 100000 in theorem tw_812 : Cond.code yX7_isCar cX7_isCar 2 (some .boolean) ∈ LW := LWm4 (i := 14) rfl rfl
theorem tw_821 : Cond.methodLink RX7 229 yX1_comeTo ∈ LW := LWm4 (i := 23) (by decide +kernel) rfl
theorem tw_822 : Cond.instanceMethod yX1_comeTo ∈ LW := LWm4 (i := 24) (by decide +kernel) rfl
theorem tw_823 : Cond.selects RX1 yX1_comeTo yX1_comeTo ∈ LW := LWm4 (i := 25) (by decide +kernel) rfl
set_option maxRecDepth 100000 in theorem tw_824 : Cond.code yX1_comeTo cX1_comeTo 5 none ∈ LW := LWm4 (i := 26) rfl rfl
theorem tw_830 : Cond.methodLink RX7 233 yX1_placeOf ∈ LW := LWm4 (i := 32) (by decide +kernel) rfl
theorem tw_831 : Cond.instanceMethod yX1_placeOf ∈ LW := LWm4 (i := 33) (by decide +kernel) rfl
theorem tw_832 : Cond.selects RX1 yX1_placeOf yX1_placeOf ∈ LW := LWm4 (i := 34) (by decide +kernel) rfl
set_option maxRecDepth 100000 in theorem tw_833 : Cond.code yX1_placeOf cX1_placeOf 4 (some .int) ∈ LW := LWm4 (i := 35) rfl rfl
theorem tw_842 : Cond.methodLink RX7 236 yX1_costAt ∈ LW := LWm4 (i := 44) (by decide +kernel) rfl
theorem tw_850 : Cond.methodLink RX7 239 yX7_refuseSet ∈ LW := LWm4 (i := 52) (by decide +kernel) rfl
theorem tw_852 : Cond.instanceMethod yX7_refuseSet ∈ LW := LWm4 (i := 54) (by decide +kernel) rfl
set_option maxRecDepth 100000 in theorem tw_853 : Cond.code yX7_refuseSet cX7_refuseSet 3 (some .int) ∈ LW := LWm4 (i := 55) rfl rfl
theorem tw_854 : Cond.methodLink RX7 242 yX1_isAtRest ∈ LW := LWm4 (i := 56) (by decide +kernel) rfl
theorem tw_871 : Cond.methodLink RX7 246 yX1_goByTurns ∈ LW := LWm4 (i := 73) (by decide +kernel) rfl
theorem tw_879 : Cond.methodLink RX7 250 yX4_takeBars ∈ LW := LWm4 (i := 81) (by decide +kernel) rfl
theorem tw_880 : Cond.instanceMethod yX4_takeBars ∈ LW := LWm4 (i := 82) (by decide +kernel) rfl
theorem tw_881 : Cond.selects RX4 yX4_takeBars yX4_takeBars ∈ LW := LWm4 (i := 83) (by decide +kernel) rfl
set_option maxRecDepth 100000 in theorem tw_882 : Cond.code yX4_takeBars cX4_takeBars 2 none ∈ LW := LWm4 (i := 84) rfl rfl
theorem tw_888 : Cond.methodLink RX7 254 yX1_countRests ∈ LW := LWm4 (i := 90) (by decide +kernel) rfl
theorem tw_889 : Cond.instanceMethod yX1_countRests ∈ LW := LWm4 (i := 91) (by decide +kernel) rfl
theorem tw_890 : Cond.selects RX1 yX1_countRests yX1_countRests ∈ LW := LWm4 (i := 92) (by decide +kernel) rfl
set_option maxRecDepth 100000 in theorem tw_891 : Cond.code yX1_countRests cX1_countRests 6 (some .int) ∈ LW := LWm4 (i := 93) rfl rfl
theorem tw_897 : Cond.methodLink RX7 257 yX1_costOfAll ∈ LW := LWm4 (i := 99) (by decide +kernel) rfl
theorem tw_901 : Cond.methodLink RX7 260 yX1_leastOfAll ∈ LW := LWm4 (i := 103) (by decide +kernel) rfl
theorem tw_902 : Cond.instanceMethod yX1_leastOfAll ∈ LW := LWm4 (i := 104) (by decide +kernel) rfl
theorem tw_903 : Cond.selects RX1 yX1_leastOfAll yX1_leastOfAll ∈ LW := LWm4 (i := 105) (by decide +kernel) rfl
set_option maxRecDepth 100000 in theorem tw_904 : Cond.code yX1_leastOfAll cX1_leastOfAll 4 (some .int) ∈ LW := LWm4 (i := 106) rfl rfl
theorem tw_914 : Cond.methodLink RX7 263 yX1_mendingPrice ∈ LW := LWm4 (i := 116) (by decide +kernel) rfl
theorem tw_915 : Cond.instanceMethod yX1_mendingPrice ∈ LW := LWm4 (i := 117) (by decide +kernel) rfl
theorem tw_916 : Cond.selects RX1 yX1_mendingPrice yX1_mendingPrice ∈ LW := LWm4 (i := 118) (by decide +kernel) rfl
set_option maxRecDepth 100000 in theorem tw_917 : Cond.code yX1_mendingPrice cX1_mendingPrice 6 (some .int) ∈ LW := LWm4 (i := 119) rfl rfl
theorem tw_928 : Cond.methodLink RX7 269 yX2_eveningOf ∈ LW := LWm4 (i := 130) (by decide +kernel) rfl
theorem tw_929 : Cond.instanceMethod yX2_eveningOf ∈ LW := LWm4 (i := 131) (by decide +kernel) rfl
theorem tw_930 : Cond.selects RX2 yX2_eveningOf yX2_eveningOf ∈ LW := LWm4 (i := 132) (by decide +kernel) rfl
set_option maxRecDepth 100000 in theorem tw_931 : Cond.code yX2_eveningOf cX2_eveningOf 11 (some .int) ∈ LW := LWm4 (i := 133) rfl rfl
theorem tw_940 : Cond.constantLong RX7 273 (1000) ∈ LW := LWm4 (i := 142) (by decide +kernel) rfl
theorem tw_955 : Cond.methodLink RX7 280 yX4_copyFrom ∈ LW := LWm4 (i := 157) (by decide +kernel) rfl
theorem tw_956 : Cond.instanceMethod yX4_copyFrom ∈ LW := LWm4 (i := 158) (by decide +kernel) rfl
theorem tw_957 : Cond.selects RX4 yX4_copyFrom yX4_copyFrom ∈ LW := LWm4 (i := 159) (by decide +kernel) rfl
set_option maxRecDepth 100000 in theorem tw_958 : Cond.code yX4_copyFrom cX4_copyFrom 2 none ∈ LW := LWm4 (i := 160) rfl rfl
theorem f_x_feed_rows : True := trivial
theorem dX7_feed_0 : decode cX7_feed 0 = .ok (.iload_n 1, 1) := by decide +kernel
theorem dX7_feed_1 : decode cX7_feed 1 = .ok (.iconst 1, 1) := by decide +kernel
theorem dX7_feed_2 : decode cX7_feed 2 = .ok (.if_icmp .lt 9, 3) := by decide +kernel
theorem dX7_feed_5 : decode cX7_feed 5 = .ok (.iload_n 1, 1) := by decide +kernel
theorem dX7_feed_6 : decode cX7_feed 6 = .ok (.bipush 8, 2) := by decide +kernel
theorem dX7_feed_8 : decode cX7_feed 8 = .ok (.if_icmp .le 7, 3) := by decide +kernel
theorem dX7_feed_11 : decode cX7_feed 11 = .ok (.sipush (-1002), 3) := by decide +kernel
theorem dX7_feed_14 : decode cX7_feed 14 = .ok (.ireturn, 1) := by decide +kernel
theorem dX7_feed_15 : decode cX7_feed 15 = .ok (.aload_n 0, 1) := by decide +kernel
theorem dX7_feed_16 : decode cX7_feed 16 = .ok (.getfield 12, 3) := by decide +kernel
theorem dX7_feed_19 : decode cX7_feed 19 = .ok (.getfield 81, 3) := by decide +kernel
theorem dX7_feed_22 : decode cX7_feed 22 = .ok (.iload_n 1, 1) := by decide +kernel
theorem dX7_feed_23 : decode cX7_feed 23 = .ok (.iadd, 1) := by decide +kernel
theorem dX7_feed_24 : decode cX7_feed 24 = .ok (.sipush 240, 3) := by decide +kernel
theorem dX7_feed_27 : decode cX7_feed 27 = .ok (.if_icmp .le 7, 3) := by decide +kernel
theorem dX7_feed_30 : decode cX7_feed 30 = .ok (.sipush (-1004), 3) := by decide +kernel
theorem dX7_feed_33 : decode cX7_feed 33 = .ok (.ireturn, 1) := by decide +kernel
theorem dX7_feed_34 : decode cX7_feed 34 = .ok (.iload_n 1, 1) := by decide +kernel
theorem dX7_feed_35 : decode cX7_feed 35 = .ok (.iconst 1, 1) := by decide +kernel
theorem dX7_feed_36 : decode cX7_feed 36 = .ok (.isub, 1) := by decide +kernel
theorem dX7_feed_37 : decode cX7_feed 37 = .ok (.istore 4, 2) := by decide +kernel
theorem dX7_feed_39 : decode cX7_feed 39 = .ok (.iload 4, 2) := by decide +kernel
theorem dX7_feed_41 : decode cX7_feed 41 = .ok (.ifCond .lt 25, 3) := by decide +kernel
theorem dX7_feed_44 : decode cX7_feed 44 = .ok (.aload_n 0, 1) := by decide +kernel
theorem dX7_feed_45 : decode cX7_feed 45 = .ok (.getfield 12, 3) := by decide +kernel
theorem dX7_feed_48 : decode cX7_feed 48 = .ok (.lload_n 2, 1) := by decide +kernel
theorem dX7_feed_49 : decode cX7_feed 49 = .ok (.bipush 8, 2) := by decide +kernel
theorem dX7_feed_51 : decode cX7_feed 51 = .ok (.iload 4, 2) := by decide +kernel
theorem dX7_feed_53 : decode cX7_feed 53 = .ok (.imul, 1) := by decide +kernel
theorem dX7_feed_54 : decode cX7_feed 54 = .ok (.lshr, 1) := by decide +kernel
theorem dX7_feed_55 : decode cX7_feed 55 = .ok (.l2i, 1) := by decide +kernel
theorem dX7_feed_56 : decode cX7_feed 56 = .ok (.i2b, 1) := by decide +kernel
theorem dX7_feed_57 : decode cX7_feed 57 = .ok (.invokevirtual 84, 3) := by decide +kernel
theorem dX7_feed_60 : decode cX7_feed 60 = .ok (.iinc 4 (-1), 3) := by decide +kernel
theorem dX7_feed_63 : decode cX7_feed 63 = .ok (.goto (-24), 3) := by decide +kernel
theorem dX7_feed_66 : decode cX7_feed 66 = .ok (.aload_n 0, 1) := by decide +kernel
theorem dX7_feed_67 : decode cX7_feed 67 = .ok (.getfield 12, 3) := by decide +kernel
theorem dX7_feed_70 : decode cX7_feed 70 = .ok (.getfield 81, 3) := by decide +kernel
theorem dX7_feed_73 : decode cX7_feed 73 = .ok (.ireturn, 1) := by decide +kernel
theorem f_x_street_rows : True := trivial
theorem dX7_street_0 : decode cX7_street 0 = .ok (.iload_n 1, 1) := by decide +kernel
theorem dX7_street_1 : decode cX7_street 1 = .ok (.ifCond .lt 8, 3) := by decide +kernel
theorem dX7_street_4 : decode cX7_street 4 = .ok (.iload_n 1, 1) := by decide +kernel
theorem dX7_street_5 : decode cX7_street 5 = .ok (.iconst 3, 1) := by decide +kernel
theorem dX7_street_6 : decode cX7_street 6 = .ok (.if_icmp .lt 7, 3) := by decide +kernel
theorem dX7_street_9 : decode cX7_street 9 = .ok (.sipush (-1001), 3) := by decide +kernel
theorem dX7_street_12 : decode cX7_street 12 = .ok (.ireturn, 1) := by decide +kernel
theorem dX7_street_13 : decode cX7_street 13 = .ok (.aload_n 0, 1) := by decide +kernel
theorem dX7_street_14 : decode cX7_street 14 = .ok (.getfield 12, 3) := by decide +kernel
theorem dX7_street_17 : decode cX7_street 17 = .ok (.invokevirtual 88, 3) := by decide +kernel
theorem dX7_street_20 : decode cX7_street 20 = .ok (.aload_n 0, 1) := by decide +kernel
theorem dX7_street_21 : decode cX7_street 21 = .ok (.getfield 29, 3) := by decide +kernel
theorem dX7_street_24 : decode cX7_street 24 = .ok (.aload_n 0, 1) := by decide +kernel
theorem dX7_street_25 : decode cX7_street 25 = .ok (.getfield 12, 3) := by decide +kernel
theorem dX7_street_28 : decode cX7_street 28 = .ok (.invokevirtual 91, 3) := by decide +kernel
theorem dX7_street_31 : decode cX7_street 31 = .ok (.aload_n 0, 1) := by decide +kernel
theorem dX7_street_32 : decode cX7_street 32 = .ok (.invokevirtual 95, 3) := by decide +kernel
theorem dX7_street_35 : decode cX7_street 35 = .ok (.istore_n 2, 1) := by decide +kernel
theorem dX7_street_36 : decode cX7_street 36 = .ok (.iload_n 2, 1) := by decide +kernel
theorem dX7_street_37 : decode cX7_street 37 = .ok (.ifCond .ge 5, 3) := by decide +kernel
theorem dX7_street_40 : decode cX7_street 40 = .ok (.iload_n 2, 1) := by decide +kernel
theorem dX7_street_41 : decode cX7_street 41 = .ok (.ireturn, 1) := by decide +kernel
theorem dX7_street_42 : decode cX7_street 42 = .ok (.aload_n 0, 1) := by decide +kernel
theorem dX7_street_43 : decode cX7_street 43 = .ok (.getfield 18, 3) := by decide +kernel
theorem dX7_street_46 : decode cX7_street 46 = .ok (.iload_n 1, 1) := by decide +kernel
theorem dX7_street_47 : decode cX7_street 47 = .ok (.aaload, 1) := by decide +kernel
theorem dX7_street_48 : decode cX7_street 48 = .ok (.aload_n 0, 1) := by decide +kernel
theorem dX7_street_49 : decode cX7_street 49 = .ok (.getfield 29, 3) := by decide +kernel
theorem dX7_street_52 : decode cX7_street 52 = .ok (.invokevirtual 99, 3) := by decide +kernel
theorem dX7_street_55 : decode cX7_street 55 = .ok (.aload_n 0, 1) := by decide +kernel
theorem dX7_street_56 : decode cX7_street 56 = .ok (.getfield 24, 3) := by decide +kernel
theorem dX7_street_59 : decode cX7_street 59 = .ok (.iload_n 1, 1) := by decide +kernel
theorem dX7_street_60 : decode cX7_street 60 = .ok (.aaload, 1) := by decide +kernel
theorem dX7_street_61 : decode cX7_street 61 = .ok (.invokevirtual 102, 3) := by decide +kernel
theorem dX7_street_64 : decode cX7_street 64 = .ok (.aload_n 0, 1) := by decide +kernel
theorem dX7_street_65 : decode cX7_street 65 = .ok (.getfield 18, 3) := by decide +kernel
theorem dX7_street_68 : decode cX7_street 68 = .ok (.iload_n 1, 1) := by decide +kernel
theorem dX7_street_69 : decode cX7_street 69 = .ok (.aaload, 1) := by decide +kernel
theorem dX7_street_70 : decode cX7_street 70 = .ok (.invokevirtual 105, 3) := by decide +kernel
theorem dX7_street_73 : decode cX7_street 73 = .ok (.ireturn, 1) := by decide +kernel
theorem f_x_rule_rows : True := trivial
theorem dX7_rule_0 : decode cX7_rule 0 = .ok (.aload_n 0, 1) := by decide +kernel
theorem dX7_rule_1 : decode cX7_rule 1 = .ok (.getfield 12, 3) := by decide +kernel
theorem dX7_rule_4 : decode cX7_rule 4 = .ok (.getfield 81, 3) := by decide +kernel
theorem dX7_rule_7 : decode cX7_rule 7 = .ok (.bipush 80, 2) := by decide +kernel
theorem dX7_rule_9 : decode cX7_rule 9 = .ok (.if_icmp .le 7, 3) := by decide +kernel
theorem dX7_rule_12 : decode cX7_rule 12 = .ok (.sipush (-1003), 3) := by decide +kernel
theorem dX7_rule_15 : decode cX7_rule 15 = .ok (.ireturn, 1) := by decide +kernel
theorem dX7_rule_16 : decode cX7_rule 16 = .ok (.aload_n 0, 1) := by decide +kernel
theorem dX7_rule_17 : decode cX7_rule 17 = .ok (.getfield 39, 3) := by decide +kernel
theorem dX7_rule_20 : decode cX7_rule 20 = .ok (.iconst 4, 1) := by decide +kernel
theorem dX7_rule_21 : decode cX7_rule 21 = .ok (.if_icmp .lt 7, 3) := by decide +kernel
theorem dX7_rule_24 : decode cX7_rule 24 = .ok (.sipush (-1004), 3) := by decide +kernel
theorem dX7_rule_27 : decode cX7_rule 27 = .ok (.ireturn, 1) := by decide +kernel
theorem dX7_rule_28 : decode cX7_rule 28 = .ok (.aload_n 0, 1) := by decide +kernel
theorem dX7_rule_29 : decode cX7_rule 29 = .ok (.getfield 12, 3) := by decide +kernel
theorem dX7_rule_32 : decode cX7_rule 32 = .ok (.invokevirtual 88, 3) := by decide +kernel
theorem dX7_rule_35 : decode cX7_rule 35 = .ok (.aload_n 0, 1) := by decide +kernel
theorem dX7_rule_36 : decode cX7_rule 36 = .ok (.getfield 35, 3) := by decide +kernel
theorem dX7_rule_39 : decode cX7_rule 39 = .ok (.aload_n 0, 1) := by decide +kernel
theorem dX7_rule_40 : decode cX7_rule 40 = .ok (.getfield 39, 3) := by decide +kernel
theorem dX7_rule_43 : decode cX7_rule 43 = .ok (.aaload, 1) := by decide +kernel
theorem dX7_rule_44 : decode cX7_rule 44 = .ok (.aload_n 0, 1) := by decide +kernel
theorem dX7_rule_45 : decode cX7_rule 45 = .ok (.getfield 12, 3) := by decide +kernel
theorem dX7_rule_48 : decode cX7_rule 48 = .ok (.invokevirtual 168, 3) := by decide +kernel
theorem dX7_rule_51 : decode cX7_rule 51 = .ok (.aload_n 0, 1) := by decide +kernel
theorem dX7_rule_52 : decode cX7_rule 52 = .ok (.invokevirtual 95, 3) := by decide +kernel
theorem dX7_rule_55 : decode cX7_rule 55 = .ok (.istore_n 1, 1) := by decide +kernel
theorem dX7_rule_56 : decode cX7_rule 56 = .ok (.iload_n 1, 1) := by decide +kernel
theorem dX7_rule_57 : decode cX7_rule 57 = .ok (.ifCond .ge 5, 3) := by decide +kernel
theorem dX7_rule_60 : decode cX7_rule 60 = .ok (.iload_n 1, 1) := by decide +kernel
theorem dX7_rule_61 : decode cX7_rule 61 = .ok (.ireturn, 1) := by decide +kernel
theorem dX7_rule_62 : decode cX7_rule 62 = .ok (.aload_n 0, 1) := by decide +kernel
theorem dX7_rule_63 : decode cX7_rule 63 = .ok (.dup, 1) := by decide +kernel
theorem dX7_rule_64 : decode cX7_rule 64 = .ok (.getfield 39, 3) := by decide +kernel
theorem dX7_rule_67 : decode cX7_rule 67 = .ok (.iconst 1, 1) := by decide +kernel
theorem dX7_rule_68 : decode cX7_rule 68 = .ok (.iadd, 1) := by decide +kernel
theorem dX7_rule_69 : decode cX7_rule 69 = .ok (.putfield 39, 3) := by decide +kernel
theorem dX7_rule_72 : decode cX7_rule 72 = .ok (.aload_n 0, 1) := by decide +kernel
theorem dX7_rule_73 : decode cX7_rule 73 = .ok (.getfield 39, 3) := by decide +kernel
theorem dX7_rule_76 : decode cX7_rule 76 = .ok (.iconst 1, 1) := by decide +kernel
theorem dX7_rule_77 : decode cX7_rule 77 = .ok (.isub, 1) := by decide +kernel
theorem dX7_rule_78 : decode cX7_rule 78 = .ok (.ireturn, 1) := by decide +kernel
theorem f_x_mean_rows : True := trivial
theorem dX7_mean_0 : decode cX7_mean 0 = .ok (.aload_n 0, 1) := by decide +kernel
theorem dX7_mean_1 : decode cX7_mean 1 = .ok (.iload_n 1, 1) := by decide +kernel
theorem dX7_mean_2 : decode cX7_mean 2 = .ok (.invokevirtual 108, 3) := by decide +kernel
theorem dX7_mean_5 : decode cX7_mean 5 = .ok (.ifCond .eq 11, 3) := by decide +kernel
theorem dX7_mean_8 : decode cX7_mean 8 = .ok (.aload_n 0, 1) := by decide +kernel
theorem dX7_mean_9 : decode cX7_mean 9 = .ok (.iload_n 2, 1) := by decide +kernel
theorem dX7_mean_10 : decode cX7_mean 10 = .ok (.invokevirtual 169, 3) := by decide +kernel
theorem dX7_mean_13 : decode cX7_mean 13 = .ok (.ifCond .ne 7, 3) := by decide +kernel
theorem dX7_mean_16 : decode cX7_mean 16 = .ok (.sipush (-1001), 3) := by decide +kernel
theorem dX7_mean_19 : decode cX7_mean 19 = .ok (.ireturn, 1) := by decide +kernel
theorem dX7_mean_20 : decode cX7_mean 20 = .ok (.iload_n 3, 1) := by decide +kernel
theorem dX7_mean_21 : decode cX7_mean 21 = .ok (.iconst 0, 1) := by decide +kernel
theorem dX7_mean_22 : decode cX7_mean 22 = .ok (.iconst 2, 1) := by decide +kernel
theorem dX7_mean_23 : decode cX7_mean 23 = .ok (.invokestatic 112, 3) := by decide +kernel
theorem dX7_mean_26 : decode cX7_mean 26 = .ok (.ifCond .eq 26, 3) := by decide +kernel
theorem dX7_mean_29 : decode cX7_mean 29 = .ok (.aload_n 0, 1) := by decide +kernel
theorem dX7_mean_30 : decode cX7_mean 30 = .ok (.getfield 64, 3) := by decide +kernel
theorem dX7_mean_33 : decode cX7_mean 33 = .ok (.aload_n 0, 1) := by decide +kernel
theorem dX7_mean_34 : decode cX7_mean 34 = .ok (.getfield 18, 3) := by decide +kernel
theorem dX7_mean_37 : decode cX7_mean 37 = .ok (.iload_n 1, 1) := by decide +kernel
theorem dX7_mean_38 : decode cX7_mean 38 = .ok (.aaload, 1) := by decide +kernel
theorem dX7_mean_39 : decode cX7_mean 39 = .ok (.aload_n 0, 1) := by decide +kernel
theorem dX7_mean_40 : decode cX7_mean 40 = .ok (.getfield 35, 3) := by decide +kernel
theorem dX7_mean_43 : decode cX7_mean 43 = .ok (.iload_n 2, 1) := by decide +kernel
theorem dX7_mean_44 : decode cX7_mean 44 = .ok (.aaload, 1) := by decide +kernel
theorem dX7_mean_45 : decode cX7_mean 45 = .ok (.iload_n 3, 1) := by decide +kernel
theorem dX7_mean_46 : decode cX7_mean 46 = .ok (.invokevirtual 172, 3) := by decide +kernel
theorem dX7_mean_49 : decode cX7_mean 49 = .ok (.goto 6, 3) := by decide +kernel
theorem dX7_mean_52 : decode cX7_mean 52 = .ok (.sipush (-1002), 3) := by decide +kernel
theorem dX7_mean_55 : decode cX7_mean 55 = .ok (.ireturn, 1) := by decide +kernel
theorem f_x_saw_rows : True := trivial
theorem dX7_saw_0 : decode cX7_saw 0 = .ok (.aload_n 0, 1) := by decide +kernel
theorem dX7_saw_1 : decode cX7_saw 1 = .ok (.getfield 49, 3) := by decide +kernel
theorem dX7_saw_4 : decode cX7_saw 4 = .ok (.getfield 176, 3) := by decide +kernel
theorem dX7_saw_7 : decode cX7_saw 7 = .ok (.bipush 24, 2) := by decide +kernel
theorem dX7_saw_9 : decode cX7_saw 9 = .ok (.if_icmp .ge 14, 3) := by decide +kernel
theorem dX7_saw_12 : decode cX7_saw 12 = .ok (.aload_n 0, 1) := by decide +kernel
theorem dX7_saw_13 : decode cX7_saw 13 = .ok (.getfield 49, 3) := by decide +kernel
theorem dX7_saw_16 : decode cX7_saw 16 = .ok (.iload_n 1, 1) := by decide +kernel
theorem dX7_saw_17 : decode cX7_saw 17 = .ok (.invokevirtual 179, 3) := by decide +kernel
theorem dX7_saw_20 : decode cX7_saw 20 = .ok (.goto 6, 3) := by decide +kernel
theorem dX7_saw_23 : decode cX7_saw 23 = .ok (.sipush (-1004), 3) := by decide +kernel
theorem dX7_saw_26 : decode cX7_saw 26 = .ok (.ireturn, 1) := by decide +kernel
theorem f_x_clear_rows : True := trivial
theorem dX7_clear_0 : decode cX7_clear 0 = .ok (.aload_n 0, 1) := by decide +kernel
theorem dX7_clear_1 : decode cX7_clear 1 = .ok (.getfield 49, 3) := by decide +kernel
theorem dX7_clear_4 : decode cX7_clear 4 = .ok (.getfield 176, 3) := by decide +kernel
theorem dX7_clear_7 : decode cX7_clear 7 = .ok (.istore_n 1, 1) := by decide +kernel
theorem dX7_clear_8 : decode cX7_clear 8 = .ok (.aload_n 0, 1) := by decide +kernel
theorem dX7_clear_9 : decode cX7_clear 9 = .ok (.getfield 49, 3) := by decide +kernel
theorem dX7_clear_12 : decode cX7_clear 12 = .ok (.iconst 0, 1) := by decide +kernel
theorem dX7_clear_13 : decode cX7_clear 13 = .ok (.putfield 176, 3) := by decide +kernel
theorem dX7_clear_16 : decode cX7_clear 16 = .ok (.aload_n 0, 1) := by decide +kernel
theorem dX7_clear_17 : decode cX7_clear 17 = .ok (.getfield 49, 3) := by decide +kernel
theorem dX7_clear_20 : decode cX7_clear 20 = .ok (.iconst 0, 1) := by decide +kernel
theorem dX7_clear_21 : decode cX7_clear 21 = .ok (.putfield 183, 3) := by decide +kernel
theorem dX7_clear_24 : decode cX7_clear 24 = .ok (.iload_n 1, 1) := by decide +kernel
theorem dX7_clear_25 : decode cX7_clear 25 = .ok (.ireturn, 1) := by decide +kernel
theorem f_x_waits_rows : True := trivial
theorem dX7_waits_0 : decode cX7_waits 0 = .ok (.aload_n 0, 1) := by decide +kernel
theorem dX7_waits_1 : decode cX7_waits 1 = .ok (.iload_n 1, 1) := by decide +kernel
theorem dX7_waits_2 : decode cX7_waits 2 = .ok (.iload_n 2, 1) := by decide +kernel
theorem dX7_waits_3 : decode cX7_waits 3 = .ok (.iload_n 3, 1) := by decide +kernel
theorem dX7_waits_4 : decode cX7_waits 4 = .ok (.iload 4, 2) := by decide +kernel
theorem dX7_waits_6 : decode cX7_waits 6 = .ok (.invokevirtual 141, 3) := by decide +kernel
theorem dX7_waits_9 : decode cX7_waits 9 = .ok (.istore 8, 2) := by decide +kernel
theorem dX7_waits_11 : decode cX7_waits 11 = .ok (.iload 8, 2) := by decide +kernel
theorem dX7_waits_13 : decode cX7_waits 13 = .ok (.ifCond .eq 6, 3) := by decide +kernel
theorem dX7_waits_16 : decode cX7_waits 16 = .ok (.iload 8, 2) := by decide +kernel
theorem dX7_waits_18 : decode cX7_waits 18 = .ok (.ireturn, 1) := by decide +kernel
theorem dX7_waits_19 : decode cX7_waits 19 = .ok (.iload 5, 2) := by decide +kernel
theorem dX7_waits_21 : decode cX7_waits 21 = .ok (.iconst 0, 1) := by decide +kernel
theorem dX7_waits_22 : decode cX7_waits 22 = .ok (.bipush 100, 2) := by decide +kernel
theorem dX7_waits_24 : decode cX7_waits 24 = .ok (.invokestatic 112, 3) := by decide +kernel
theorem dX7_waits_27 : decode cX7_waits 27 = .ok (.ifCond .eq 24, 3) := by decide +kernel
theorem dX7_waits_30 : decode cX7_waits 30 = .ok (.iload 6, 2) := by decide +kernel
theorem dX7_waits_32 : decode cX7_waits 32 = .ok (.iconst 0, 1) := by decide +kernel
theorem dX7_waits_33 : decode cX7_waits 33 = .ok (.bipush 99, 2) := by decide +kernel
theorem dX7_waits_35 : decode cX7_waits 35 = .ok (.invokestatic 112, 3) := by decide +kernel
theorem dX7_waits_38 : decode cX7_waits 38 = .ok (.ifCond .eq 13, 3) := by decide +kernel
theorem dX7_waits_41 : decode cX7_waits 41 = .ok (.iload 7, 2) := by decide +kernel
theorem dX7_waits_43 : decode cX7_waits 43 = .ok (.iconst 0, 1) := by decide +kernel
theorem dX7_waits_44 : decode cX7_waits 44 = .ok (.iconst 1, 1) := by decide +kernel
theorem dX7_waits_45 : decode cX7_waits 45 = .ok (.invokestatic 112, 3) := by decide +kernel
theorem dX7_waits_48 : decode cX7_waits 48 = .ok (.ifCond .ne 7, 3) := by decide +kernel
theorem dX7_waits_51 : decode cX7_waits 51 = .ok (.sipush (-1002), 3) := by decide +kernel
theorem dX7_waits_54 : decode cX7_waits 54 = .ok (.ireturn, 1) := by decide +kernel
theorem dX7_waits_55 : decode cX7_waits 55 = .ok (.iload 4, 2) := by decide +kernel
theorem dX7_waits_57 : decode cX7_waits 57 = .ok (.iconst 1, 1) := by decide +kernel
theorem dX7_waits_58 : decode cX7_waits 58 = .ok (.iand, 1) := by decide +kernel
theorem dX7_waits_59 : decode cX7_waits 59 = .ok (.ifCond .eq 7, 3) := by decide +kernel
theorem dX7_waits_62 : decode cX7_waits 62 = .ok (.sipush (-1003), 3) := by decide +kernel
theorem dX7_waits_65 : decode cX7_waits 65 = .ok (.ireturn, 1) := by decide +kernel
theorem dX7_waits_66 : decode cX7_waits 66 = .ok (.aload_n 0, 1) := by decide +kernel
theorem dX7_waits_67 : decode cX7_waits 67 = .ok (.getfield 64, 3) := by decide +kernel
theorem dX7_waits_70 : decode cX7_waits 70 = .ok (.aload_n 0, 1) := by decide +kernel
theorem dX7_waits_71 : decode cX7_waits 71 = .ok (.getfield 24, 3) := by decide +kernel
theorem dX7_waits_74 : decode cX7_waits 74 = .ok (.iload_n 1, 1) := by decide +kernel
theorem dX7_waits_75 : decode cX7_waits 75 = .ok (.aaload, 1) := by decide +kernel
theorem dX7_waits_76 : decode cX7_waits 76 = .ok (.iload_n 2, 1) := by decide +kernel
theorem dX7_waits_77 : decode cX7_waits 77 = .ok (.iload_n 3, 1) := by decide +kernel
theorem dX7_waits_78 : decode cX7_waits 78 = .ok (.iload 4, 2) := by decide +kernel
theorem dX7_waits_80 : decode cX7_waits 80 = .ok (.invokevirtual 149, 3) := by decide +kernel
theorem dX7_waits_83 : decode cX7_waits 83 = .ok (.aload_n 0, 1) := by decide +kernel
theorem dX7_waits_84 : decode cX7_waits 84 = .ok (.getfield 18, 3) := by decide +kernel
theorem dX7_waits_87 : decode cX7_waits 87 = .ok (.iload_n 1, 1) := by decide +kernel
theorem dX7_waits_88 : decode cX7_waits 88 = .ok (.aaload, 1) := by decide +kernel
theorem dX7_waits_89 : decode cX7_waits 89 = .ok (.iload_n 2, 1) := by decide +kernel
theorem dX7_waits_90 : decode cX7_waits 90 = .ok (.iload_n 3, 1) := by decide +kernel
theorem dX7_waits_91 : decode cX7_waits 91 = .ok (.invokevirtual 137, 3) := by decide +kernel
theorem dX7_waits_94 : decode cX7_waits 94 = .ok (.iload 5, 2) := by decide +kernel
theorem dX7_waits_96 : decode cX7_waits 96 = .ok (.iload 6, 2) := by decide +kernel
theorem dX7_waits_98 : decode cX7_waits 98 = .ok (.invokevirtual 197, 3) := by decide +kernel
theorem dX7_waits_101 : decode cX7_waits 101 = .ok (.iload 7, 2) := by decide +kernel
theorem dX7_waits_103 : decode cX7_waits 103 = .ok (.ifCond .ne 13, 3) := by decide +kernel
theorem dX7_waits_106 : decode cX7_waits 106 = .ok (.aload_n 0, 1) := by decide +kernel
theorem dX7_waits_107 : decode cX7_waits 107 = .ok (.getfield 64, 3) := by decide +kernel
theorem dX7_waits_110 : decode cX7_waits 110 = .ok (.getfield 201, 3) := by decide +kernel
theorem dX7_waits_113 : decode cX7_waits 113 = .ok (.goto 10, 3) := by decide +kernel
theorem dX7_waits_116 : decode cX7_waits 116 = .ok (.aload_n 0, 1) := by decide +kernel
theorem dX7_waits_117 : decode cX7_waits 117 = .ok (.getfield 64, 3) := by decide +kernel
theorem dX7_waits_120 : decode cX7_waits 120 = .ok (.getfield 204, 3) := by decide +kernel
theorem dX7_waits_123 : decode cX7_waits 123 = .ok (.ireturn, 1) := by decide +kernel
theorem f_x_boy_rows : True := trivial
theorem dX7_boy_0 : decode cX7_boy 0 = .ok (.aload_n 0, 1) := by decide +kernel
theorem dX7_boy_1 : decode cX7_boy 1 = .ok (.iload_n 1, 1) := by decide +kernel
theorem dX7_boy_2 : decode cX7_boy 2 = .ok (.invokevirtual 108, 3) := by decide +kernel
theorem dX7_boy_5 : decode cX7_boy 5 = .ok (.ifCond .eq 30, 3) := by decide +kernel
theorem dX7_boy_8 : decode cX7_boy 8 = .ok (.aload_n 0, 1) := by decide +kernel
theorem dX7_boy_9 : decode cX7_boy 9 = .ok (.getfield 64, 3) := by decide +kernel
theorem dX7_boy_12 : decode cX7_boy 12 = .ok (.aload_n 0, 1) := by decide +kernel
theorem dX7_boy_13 : decode cX7_boy 13 = .ok (.getfield 18, 3) := by decide +kernel
theorem dX7_boy_16 : decode cX7_boy 16 = .ok (.iload_n 1, 1) := by decide +kernel
theorem dX7_boy_17 : decode cX7_boy 17 = .ok (.aaload, 1) := by decide +kernel
theorem dX7_boy_18 : decode cX7_boy 18 = .ok (.aload_n 0, 1) := by decide +kernel
theorem dX7_boy_19 : decode cX7_boy 19 = .ok (.getfield 24, 3) := by decide +kernel
theorem dX7_boy_22 : decode cX7_boy 22 = .ok (.iload_n 1, 1) := by decide +kernel
theorem dX7_boy_23 : decode cX7_boy 23 = .ok (.aaload, 1) := by decide +kernel
theorem dX7_boy_24 : decode cX7_boy 24 = .ok (.getfield 158, 3) := by decide +kernel
theorem dX7_boy_27 : decode cX7_boy 27 = .ok (.iconst 0, 1) := by decide +kernel
theorem dX7_boy_28 : decode cX7_boy 28 = .ok (.iaload, 1) := by decide +kernel
theorem dX7_boy_29 : decode cX7_boy 29 = .ok (.invokevirtual 207, 3) := by decide +kernel
theorem dX7_boy_32 : decode cX7_boy 32 = .ok (.goto 6, 3) := by decide +kernel
theorem dX7_boy_35 : decode cX7_boy 35 = .ok (.sipush (-1001), 3) := by decide +kernel
theorem dX7_boy_38 : decode cX7_boy 38 = .ok (.ireturn, 1) := by decide +kernel
theorem f_x_car_rows : True := trivial
theorem dX7_car_0 : decode cX7_car 0 = .ok (.iload_n 1, 1) := by decide +kernel
theorem dX7_car_1 : decode cX7_car 1 = .ok (.iconst 0, 1) := by decide +kernel
theorem dX7_car_2 : decode cX7_car 2 = .ok (.getstatic 211, 3) := by decide +kernel
theorem dX7_car_5 : decode cX7_car 5 = .ok (.iconst 2, 1) := by decide +kernel
theorem dX7_car_6 : decode cX7_car 6 = .ok (.iaload, 1) := by decide +kernel
theorem dX7_car_7 : decode cX7_car 7 = .ok (.invokestatic 112, 3) := by decide +kernel
theorem dX7_car_10 : decode cX7_car 10 = .ok (.ifCond .eq 13, 3) := by decide +kernel
theorem dX7_car_13 : decode cX7_car 13 = .ok (.iload_n 2, 1) := by decide +kernel
theorem dX7_car_14 : decode cX7_car 14 = .ok (.iconst 0, 1) := by decide +kernel
theorem dX7_car_15 : decode cX7_car 15 = .ok (.bipush 24, 2) := by decide +kernel
theorem dX7_car_17 : decode cX7_car 17 = .ok (.invokestatic 112, 3) := by decide +kernel
theorem dX7_car_20 : decode cX7_car 20 = .ok (.ifCond .ne 7, 3) := by decide +kernel
theorem dX7_car_23 : decode cX7_car 23 = .ok (.sipush (-1002), 3) := by decide +kernel
theorem dX7_car_26 : decode cX7_car 26 = .ok (.ireturn, 1) := by decide +kernel
theorem dX7_car_27 : decode cX7_car 27 = .ok (.aload_n 0, 1) := by decide +kernel
theorem dX7_car_28 : decode cX7_car 28 = .ok (.getfield 49, 3) := by decide +kernel
theorem dX7_car_31 : decode cX7_car 31 = .ok (.getfield 214, 3) := by decide +kernel
theorem dX7_car_34 : decode cX7_car 34 = .ok (.iconst 4, 1) := by decide +kernel
theorem dX7_car_35 : decode cX7_car 35 = .ok (.if_icmp .ge 15, 3) := by decide +kernel
theorem dX7_car_38 : decode cX7_car 38 = .ok (.aload_n 0, 1) := by decide +kernel
theorem dX7_car_39 : decode cX7_car 39 = .ok (.getfield 49, 3) := by decide +kernel
theorem dX7_car_42 : decode cX7_car 42 = .ok (.iload_n 1, 1) := by decide +kernel
theorem dX7_car_43 : decode cX7_car 43 = .ok (.iload_n 2, 1) := by decide +kernel
theorem dX7_car_44 : decode cX7_car 44 = .ok (.invokevirtual 217, 3) := by decide +kernel
theorem dX7_car_47 : decode cX7_car 47 = .ok (.goto 6, 3) := by decide +kernel
theorem dX7_car_50 : decode cX7_car 50 = .ok (.sipush (-1004), 3) := by decide +kernel
theorem dX7_car_53 : decode cX7_car 53 = .ok (.ireturn, 1) := by decide +kernel
theorem dX7_steer_0 : decode cX7_steer 0 = .ok (.aload_n 0, 1) := by decide +kernel
theorem dX7_steer_1 : decode cX7_steer 1 = .ok (.iload_n 1, 1) := by decide +kernel
theorem dX7_steer_2 : decode cX7_steer 2 = .ok (.invokevirtual 220, 3) := by decide +kernel
theorem dX7_steer_5 : decode cX7_steer 5 = .ok (.ifCond .ne 7, 3) := by decide +kernel
theorem dX7_steer_8 : decode cX7_steer 8 = .ok (.sipush (-1001), 3) := by decide +kernel
theorem dX7_steer_11 : decode cX7_steer 11 = .ok (.ireturn, 1) := by decide +kernel
theorem dX7_steer_12 : decode cX7_steer 12 = .ok (.iload_n 2, 1) := by decide +kernel
theorem dX7_steer_13 : decode cX7_steer 13 = .ok (.iconst 0, 1) := by decide +kernel
theorem dX7_steer_14 : decode cX7_steer 14 = .ok (.bipush 24, 2) := by decide +kernel
theorem dX7_steer_16 : decode cX7_steer 16 = .ok (.invokestatic 112, 3) := by decide +kernel
theorem dX7_steer_19 : decode cX7_steer 19 = .ok (.ifCond .ne 7, 3) := by decide +kernel
theorem dX7_steer_22 : decode cX7_steer 22 = .ok (.sipush (-1002), 3) := by decide +kernel
theorem dX7_steer_25 : decode cX7_steer 25 = .ok (.ireturn, 1) := by decide +kernel
theorem dX7_steer_26 : decode cX7_steer 26 = .ok (.aload_n 0, 1) := by decide +kernel
theorem dX7_steer_27 : decode cX7_steer 27 = .ok (.getfield 49, 3) := by decide +kernel
theorem dX7_steer_30 : decode cX7_steer 30 = .ok (.getfield 223, 3) := by decide +kernel
theorem dX7_steer_33 : decode cX7_steer 33 = .ok (.iload_n 1, 1) := by decide +kernel
theorem dX7_steer_34 : decode cX7_steer 34 = .ok (.iaload, 1) := by decide +kernel
theorem dX7_steer_35 : decode cX7_steer 35 = .ok (.istore_n 3, 1) := by decide +kernel
theorem dX7_steer_36 : decode cX7_steer 36 = .ok (.aload_n 0, 1) := by decide +kernel
theorem dX7_steer_37 : decode cX7_steer 37 = .ok (.getfield 49, 3) := by decide +kernel
theorem dX7_steer_40 : decode cX7_steer 40 = .ok (.getfield 223, 3) := by decide +kernel
theorem dX7_steer_43 : decode cX7_steer 43 = .ok (.iload_n 1, 1) := by decide +kernel
theorem dX7_steer_44 : decode cX7_steer 44 = .ok (.iload_n 2, 1) := by decide +kernel
theorem dX7_steer_45 : decode cX7_steer 45 = .ok (.iastore, 1) := by decide +kernel
theorem dX7_steer_46 : decode cX7_steer 46 = .ok (.iload_n 3, 1) := by decide +kernel
theorem dX7_steer_47 : decode cX7_steer 47 = .ok (.ireturn, 1) := by decide +kernel
set_option maxHeartbeats 4000000 in
set_option maxRecDepth 100000 in
theorem x_steer (l : Launch) (D : va_G) (k : Nat → ClassId) (st : Nat → Nat) (lo : Nat) (a : Nat → Nat) (rk : Nat) (lfa : Int32) (cc : Nat) (rz : Nat) (ro : Int32) (sd : Int32) (wk : Nat → Int32) (br : Nat → Nat) (p0 : Int32) (p1 : Int32) (hcc : cc ≤ 4) (hbr : ∀ j, br j ≤ 24) : CWi l D k st lo yX7_steer cX7_steer 4 (some .int) ({ frames := 1, cells := 0, slots := 0, locals := 22 }) 0 0 [.ref (a 0), .int p0, .int p1] [((a 0), .inr (7, (fX7 (a 1) (a 3) (a 19) (a 35) (a 40) (nI rk) lfa (a 53) (a 56) (a 63) (a 64) (a 68)))), ((a 53), .inr (4, (fX4 (a 54) (a 55) (nI cc) (nI rz) ro sd))), (aI k (a 54) 4 wk), (aI k (a 55) 4 (nF br))] (fun (r : Int32) (br_ : (Nat → Nat)) => ∀ j, br_ j ≤ 24) (fun (br_ : (Nat → Nat)) => [((a 0), .inr (7, (fX7 (a 1) (a 3) (a 19) (a 35) (a 40) (nI rk) lfa (a 53) (a 56) (a 63) (a 64) (a 68)))), ((a 53), .inr (4, (fX4 (a 54) (a 55) (nI cc) (nI rz) ro sd))), (aI k (a 54) 4 wk), (aI k (a 55) 4 (nF br_))]) := by
  intro sz
  refine Met.ofW (cc := cX7_steer) (maxL := 4) (ret := (some .int)) (by decide) rfl ?_
  intro p e s m args below meth c s₁ B hml hv
  obtain ⟨rfl, hsz, hlo, hP, hK, hDL, hZ⟩ := hv
  have hx := B.exec
  have hb := B.bytes
  have hr := B.returns
  have hts := WS_ts B.pre
  have hown : s.vm.findClass RX7 = some m.cls := findClass_of_methodNamed B.named
  have hlocks := B.notSynchronized
  subst hsz
  have hD := hDL.self (sz := s.heap.size)
  have hAlo := A_lo hDL hlo
  generalize hAe : va_A [((a 0), .inr (7, (fX7 (a 1) (a 3) (a 19) (a 35) (a 40) (nI rk) lfa (a 53) (a 56) (a 63) (a 64) (a 68)))), ((a 53), .inr (4, (fX4 (a 54) (a 55) (nI cc) (nI rz) ro sd))), (aI k (a 54) 4 wk), (aI k (a 55) 4 (nF br))] s.heap.size = A at hD hAlo ⊢
  have hA : ∀ q : Nat, s.heap.size ≤ q → A q := fun q h => by rw [← hAe]; exact Or.inr h
  have hS : va_S A s.heap s.heap [] := va_S.rf
  have hl := lv_entry ([.ref (a 0), .int p0, .int p1]) (n := 4) (Nat.le_of_ble_eq_true rfl)
  rw [lg_entry_eq]
  generalize (lg_sl ([.ref (a 0), .int p0, .int p1]) ++ List.replicate (4 - (lg_sl ([.ref (a 0), .int p0, .int p1])).length) Slot.unset).toArray = ls at hl ⊢
  have hl : lv_has ls 4 [(0, .ref (a 0)), (1, .int p0), (2, .int p1)] := hl
  refine lv_aload_n hx hb dX7_steer_0 rfl (lv_at hl 0 rfl) ?_
  refine lv_iload_n hx hb dX7_steer_1 rfl (lv_at hl 1 rfl) ?_
  refine ro_i (D := D) (va_runV (As := [.int p0]) (rest := []) ⟨hx, hb, hml, hown, hts⟩ ((x_isCar l D k st lo a rk lfa cc rz ro sd p0 (by first | assumption | omega)) s.heap.size) (cwV 1 hts (gV tw_809 tw_811 tw_17 tw_79 tw_812) rfl rfl rfl (by decide +kernel) ⟨Nat.le_of_ble_eq_true rfl, Nat.le_of_ble_eq_true rfl⟩) (pV hS hAlo hlo hP hK (va_Dlo hD hAlo) hZ [0, 1] (by decide) rfl (ci := 7) (q := (RX7, TX7, 12)) (q0 := 0) rfl rfl) rfl rfl hl.1 rfl (lv_room (Nat.le_of_ble_eq_true rfl)) dX7_steer_2 ⟨Nat.le_of_ble_eq_true rfl, Nat.le_of_ble_eq_true rfl⟩) hS hA hP (fun r_1 H locs hw_1 hP hS => ?_)
  try dsimp only at hw_1
  rcases hw_1 with ⟨rfl, ic_2, hic_2, rfl⟩ | rfl
  · refine lv_if_ne (tgt := 12) hx hb dX7_steer_5 (by decide) (fun _ => ?_) (fun h => absurd h (by decide))
    refine lv_iload_n hx hb dX7_steer_12 rfl (lv_at hl 2 rfl) ?_
    refine lv_iconst (v := 0) hx hb dX7_steer_13 (by decide) ?_
    refine lv_bipush (v := 24) hx hb dX7_steer_14 (by decide) ?_
    refine ro_i (D := D) (va_runS (As := [.int p1, .int 0, .int 24]) (rest := []) ⟨hx, hb, hml, hown, hts⟩ ((k_isIn l D k st lo p1 0 24) H.size) (va_cwS 3 hts (gS tw_593 tw_594 tw_79 tw_595) rfl rfl rfl (by decide +kernel) ⟨Nat.le_of_ble_eq_true rfl, Nat.le_of_ble_eq_true rfl⟩) (pS hS hAlo hlo hP hK (va_Dlo hD hAlo) hZ [] (by decide) rfl) rfl rfl hl.1 rfl (lv_room (Nat.le_of_ble_eq_true rfl)) dX7_steer_16 ⟨Nat.le_of_ble_eq_true rfl, Nat.le_of_ble_eq_true rfl⟩) hS hA hP (fun r_3 H locs hw_3 hP hS => ?_)
    try dsimp only at hw_3
    rcases hw_3 with ⟨rfl, hw_3⟩ | ⟨rfl, hw_3⟩
    · refine lv_if_ne (tgt := 26) hx hb dX7_steer_19 (by decide) (fun _ => ?_) (fun h => absurd h (by decide))
      obtain ⟨nb_4, hnl_4, hnh_4, rfl⟩ := inB_ofc (a := 0) (b := 24) (by omega) (by omega) hw_3
      refine lv_aload_n hx hb dX7_steer_26 rfl (lv_at hl 0 rfl) ?_
      refine va_get (D := D) (ci := 7) (v := .ref (a 53)) (C := RX7) (T := TX7) (N := 12) hx hb hts inX7 hown hK hP 0 rfl rfl 7 (by decide) (hts _ tw_312) (fun _ h9 => h9) rfl dX7_steer_27 ?_
      refine va_get (D := D) (ci := 4) (v := .ref (a 55)) (C := RX4) (T := TX4) (N := 6) hx hb hts inX4 hown hK hP 1 rfl rfl 1 (by decide) (hts _ tw_177) (fun _ h9 => h9) rfl dX7_steer_30 ?_
      refine lv_iload_n hx hb dX7_steer_33 rfl (lv_at hl 1 rfl) ?_
      refine va_iald hx hb hK hP 3 1 rfl rfl (vp_in_nI (by omega) (by decide)) dX7_steer_34 ?_
      have hq_5 := hbr ic_2
      have hq_6 := hbr ic_2
      refine lv_ti (y := (nI (br ic_2))) (by rw [nI_clamp (by omega)]; rfl) ?_
      refine lv_istore_n (lv' := [(3, .int (nI (br ic_2))), (0, .ref (a 0)), (1, .int (nI ic_2)), (2, .int (nI nb_4))]) hx hb dX7_steer_35 rfl hl (by decide) rfl (fun ls hl => ?_)
      refine lv_aload_n hx hb dX7_steer_36 rfl (lv_at hl 1 rfl) ?_
      refine va_get (D := D) (ci := 7) (v := .ref (a 53)) (C := RX7) (T := TX7) (N := 12) hx hb hts inX7 hown hK hP 0 rfl rfl 7 (by decide) (hts _ tw_312) (fun _ h9 => h9) rfl dX7_steer_37 ?_
      refine va_get (D := D) (ci := 4) (v := .ref (a 55)) (C := RX4) (T := TX4) (N := 6) hx hb hts inX4 hown hK hP 1 rfl rfl 1 (by decide) (hts _ tw_177) (fun _ h9 => h9) rfl dX7_steer_40 ?_
      refine lv_iload_n hx hb dX7_steer_43 rfl (lv_at hl 2 rfl) ?_
      refine lv_iload_n hx hb dX7_steer_44 rfl (lv_at hl 3 rfl) ?_
      refine va_iast hx hb hK hP hD hS 3 1 rfl rfl (vp_in_nI (by omega) (by decide)) dX7_steer_45 (fun H locs hP hD hS => ?_)
      have hQ9 := pd_mk [((a 0), .inr (7, (fX7 (a 1) (a 3) (a 19) (a 35) (a 40) (nI rk) lfa (a 53) (a 56) (a 63) (a 64) (a 68)))), ((a 53), .inr (4, (fX4 (a 54) (a 55) (nI cc) (nI rz) ro sd))), (aI k (a 54) 4 wk), (aI k (a 55) 4 (upd (nF br) (Int32.toNatClampNeg (nI ic_2)) (nI nb_4)))] hP hD
      clear hP hD
      obtain ⟨hP, hD⟩ := hQ9
      rw [nI_clamp (n := ic_2) (by omega)] at hP hD
      rw [show upd (nF br) ic_2 (nI nb_4) = nF (fun j => if j = ic_2 then nb_4 else br j) from nF_upd _ _ _] at hP hD
      obtain ⟨d_8, hd_8⟩ : ∃ z : Nat → Nat, z = (fun j => if j = ic_2 then nb_4 else br j) := ⟨_, rfl⟩
      rw [← hd_8] at hP hD
      have hbb_8 : ∀ j, d_8 j ≤ 24 := by rw [hd_8]; exact up_le hbr (by omega)
      refine lv_iload_n hx hb dX7_steer_46 rfl (lv_at hl 0 rfl) ?_
      obtain ⟨hP9, hD9⟩ := pd_sub [((a 0), .inr (7, (fX7 (a 1) (a 3) (a 19) (a 35) (a 40) (nI rk) lfa (a 53) (a 56) (a 63) (a 64) (a 68)))), ((a 53), .inr (4, (fX4 (a 54) (a 55) (nI cc) (nI rz) ro sd))), (aI k (a 54) 4 wk), (aI k (a 55) 4 (nF d_8))] [0, 1, 2, 3] hP hD (by decide) rfl
      exact W.iret (v := (nI (br ic_2))) hx hb hr (fun t ht hW => ⟨⟨(nI (br ic_2)), d_8, rfl, hbb_8, by rw [ht]; exact hP9, hD9⟩, hS.F ht⟩) hS.2.2 dX7_steer_47
    · refine lv_if_ne (tgt := 26) hx hb dX7_steer_19 (by decide) (fun h => absurd (by decide) h) (fun _ => ?_)
      refine lv_sipush (v := (-1002)) hx hb dX7_steer_22 (by decide) ?_
      obtain ⟨hP9, hD9⟩ := pd_sub [((a 0), .inr (7, (fX7 (a 1) (a 3) (a 19) (a 35) (a 40) (nI rk) lfa (a 53) (a 56) (a 63) (a 64) (a 68)))), ((a 53), .inr (4, (fX4 (a 54) (a 55) (nI cc) (nI rz) ro sd))), (aI k (a 54) 4 wk), (aI k (a 55) 4 (nF br))] [0, 1, 2, 3] hP hD (by decide) rfl
      exact W.iret (v := (-1002)) hx hb hr (fun t ht hW => ⟨⟨(-1002), br, rfl, hbr, by rw [ht]; exact hP9, hD9⟩, hS.F ht⟩) hS.2.2 dX7_steer_25
  · refine lv_if_ne (tgt := 12) hx hb dX7_steer_5 (by decide) (fun h => absurd (by decide) h) (fun _ => ?_)
    refine lv_sipush (v := (-1001)) hx hb dX7_steer_8 (by decide) ?_
    obtain ⟨hP9, hD9⟩ := pd_sub [((a 0), .inr (7, (fX7 (a 1) (a 3) (a 19) (a 35) (a 40) (nI rk) lfa (a 53) (a 56) (a 63) (a 64) (a 68)))), ((a 53), .inr (4, (fX4 (a 54) (a 55) (nI cc) (nI rz) ro sd))), (aI k (a 54) 4 wk), (aI k (a 55) 4 (nF br))] [0, 1, 2, 3] hP hD (by decide) rfl
    exact W.iret (v := (-1001)) hx hb hr (fun t ht hW => ⟨⟨(-1001), br, rfl, hbr, by rw [ht]; exact hP9, hD9⟩, hS.F ht⟩) hS.2.2 dX7_steer_11

theorem dX7_parks_0 : decode cX7_parks 0 = .ok (.aload_n 0, 1) := by decide +kernel
theorem dX7_parks_1 : decode cX7_parks 1 = .ok (.iload_n 1, 1) := by decide +kernel
theorem dX7_parks_2 : decode cX7_parks 2 = .ok (.invokevirtual 108, 3) := by decide +kernel
theorem dX7_parks_5 : decode cX7_parks 5 = .ok (.ifCond .eq 11, 3) := by decide +kernel
theorem dX7_parks_8 : decode cX7_parks 8 = .ok (.aload_n 0, 1) := by decide +kernel
theorem dX7_parks_9 : decode cX7_parks 9 = .ok (.iload_n 3, 1) := by decide +kernel
theorem dX7_parks_10 : decode cX7_parks 10 = .ok (.invokevirtual 220, 3) := by decide +kernel
theorem dX7_parks_13 : decode cX7_parks 13 = .ok (.ifCond .ne 7, 3) := by decide +kernel
theorem dX7_parks_16 : decode cX7_parks 16 = .ok (.sipush (-1001), 3) := by decide +kernel
theorem dX7_parks_19 : decode cX7_parks 19 = .ok (.ireturn, 1) := by decide +kernel
theorem dX7_parks_20 : decode cX7_parks 20 = .ok (.aload_n 0, 1) := by decide +kernel
theorem dX7_parks_21 : decode cX7_parks 21 = .ok (.iload_n 1, 1) := by decide +kernel
theorem dX7_parks_22 : decode cX7_parks 22 = .ok (.iload_n 2, 1) := by decide +kernel
theorem dX7_parks_23 : decode cX7_parks 23 = .ok (.invokevirtual 226, 3) := by decide +kernel
theorem dX7_parks_26 : decode cX7_parks 26 = .ok (.ifCond .eq 13, 3) := by decide +kernel
theorem dX7_parks_29 : decode cX7_parks 29 = .ok (.iload 4, 2) := by decide +kernel
theorem dX7_parks_31 : decode cX7_parks 31 = .ok (.iconst 0, 1) := by decide +kernel
theorem dX7_parks_32 : decode cX7_parks 32 = .ok (.iconst 1, 1) := by decide +kernel
theorem dX7_parks_33 : decode cX7_parks 33 = .ok (.invokestatic 112, 3) := by decide +kernel
theorem dX7_parks_36 : decode cX7_parks 36 = .ok (.ifCond .ne 7, 3) := by decide +kernel
theorem dX7_parks_39 : decode cX7_parks 39 = .ok (.sipush (-1002), 3) := by decide +kernel
theorem dX7_parks_42 : decode cX7_parks 42 = .ok (.ireturn, 1) := by decide +kernel
theorem dX7_parks_43 : decode cX7_parks 43 = .ok (.aload_n 0, 1) := by decide +kernel
theorem dX7_parks_44 : decode cX7_parks 44 = .ok (.getfield 73, 3) := by decide +kernel
theorem dX7_parks_47 : decode cX7_parks 47 = .ok (.aload_n 0, 1) := by decide +kernel
theorem dX7_parks_48 : decode cX7_parks 48 = .ok (.getfield 18, 3) := by decide +kernel
theorem dX7_parks_51 : decode cX7_parks 51 = .ok (.iload_n 1, 1) := by decide +kernel
theorem dX7_parks_52 : decode cX7_parks 52 = .ok (.aaload, 1) := by decide +kernel
theorem dX7_parks_53 : decode cX7_parks 53 = .ok (.iload_n 2, 1) := by decide +kernel
theorem dX7_parks_54 : decode cX7_parks 54 = .ok (.invokevirtual 229, 3) := by decide +kernel
theorem dX7_parks_57 : decode cX7_parks 57 = .ok (.aload_n 0, 1) := by decide +kernel
theorem dX7_parks_58 : decode cX7_parks 58 = .ok (.getfield 73, 3) := by decide +kernel
theorem dX7_parks_61 : decode cX7_parks 61 = .ok (.iload_n 3, 1) := by decide +kernel
theorem dX7_parks_62 : decode cX7_parks 62 = .ok (.invokevirtual 233, 3) := by decide +kernel
theorem dX7_parks_65 : decode cX7_parks 65 = .ok (.istore 5, 2) := by decide +kernel
theorem dX7_parks_67 : decode cX7_parks 67 = .ok (.iload 4, 2) := by decide +kernel
theorem dX7_parks_69 : decode cX7_parks 69 = .ok (.iconst 1, 1) := by decide +kernel
theorem dX7_parks_70 : decode cX7_parks 70 = .ok (.if_icmp .ne 14, 3) := by decide +kernel
theorem dX7_parks_73 : decode cX7_parks 73 = .ok (.aload_n 0, 1) := by decide +kernel
theorem dX7_parks_74 : decode cX7_parks 74 = .ok (.getfield 73, 3) := by decide +kernel
theorem dX7_parks_77 : decode cX7_parks 77 = .ok (.iload_n 3, 1) := by decide +kernel
theorem dX7_parks_78 : decode cX7_parks 78 = .ok (.iload 5, 2) := by decide +kernel
theorem dX7_parks_80 : decode cX7_parks 80 = .ok (.invokevirtual 236, 3) := by decide +kernel
theorem dX7_parks_83 : decode cX7_parks 83 = .ok (.ireturn, 1) := by decide +kernel
theorem dX7_parks_84 : decode cX7_parks 84 = .ok (.iload 5, 2) := by decide +kernel
theorem dX7_parks_86 : decode cX7_parks 86 = .ok (.aload_n 0, 1) := by decide +kernel
theorem dX7_parks_87 : decode cX7_parks 87 = .ok (.getfield 18, 3) := by decide +kernel
theorem dX7_parks_90 : decode cX7_parks 90 = .ok (.iload_n 1, 1) := by decide +kernel
theorem dX7_parks_91 : decode cX7_parks 91 = .ok (.aaload, 1) := by decide +kernel
theorem dX7_parks_92 : decode cX7_parks 92 = .ok (.invokevirtual 105, 3) := by decide +kernel
theorem dX7_parks_95 : decode cX7_parks 95 = .ok (.if_icmp .ge 8, 3) := by decide +kernel
theorem dX7_parks_98 : decode cX7_parks 98 = .ok (.iload 5, 2) := by decide +kernel
theorem dX7_parks_100 : decode cX7_parks 100 = .ok (.goto 4, 3) := by decide +kernel
theorem dX7_parks_103 : decode cX7_parks 103 = .ok (.iconst (-1), 1) := by decide +kernel
theorem dX7_parks_104 : decode cX7_parks 104 = .ok (.ireturn, 1) := by decide +kernel
set_option maxHeartbeats 4000000 in
set_option maxRecDepth 100000 in
theorem x_parks (l : Launch) (D : va_G) (k : Nat → ClassId) (st : Nat → Nat) (lo : Nat) (a : Nat → Nat) (rk : Nat) (lfa : Int32) (n0 : Nat) (see0 : Nat) (tm0 : Nat) (g0 : Nat → Int32) (fp0 : Nat → Int32) (fl0 : Nat → Int32) (n1 : Nat) (see1 : Nat) (tm1 : Nat) (g1 : Nat → Int32) (fp1 : Nat → Int32) (fl1 : Nat → Int32) (n2 : Nat) (see2 : Nat) (tm2 : Nat) (g2 : Nat → Int32) (fp2 : Nat → Int32) (fl2 : Nat → Int32) (cc : Nat) (rz : Nat) (ro : Int32) (sd : Int32) (wk : Nat → Int32) (br : Nat → Nat) (pn : Int32) (pf : Int32) (pd : Int32) (pe : Int32) (pb : Nat → Nat) (pco : Nat → Int32) (pg : Nat → Int32) (p0 : Int32) (p1 : Int32) (p2 : Int32) (p3 : Int32) (hn0 : n0 ≤ 24) (hse0 : see0 ≤ 2) (htm0 : tm0 ≤ 3) (hn1 : n1 ≤ 24) (hse1 : see1 ≤ 2) (htm1 : tm1 ≤ 3) (hn2 : n2 ≤ 24) (hse2 : see2 ≤ 2) (htm2 : tm2 ≤ 3) (hcc : cc ≤ 4) (hbr : ∀ j, br j ≤ 24) (hpb : ∀ j, pb j ≤ 24) : CWi l D k st lo yX7_parks cX7_parks 6 (some .int) ({ frames := 3, cells := 0, slots := 0, locals := 84 }) 0 0 [.ref (a 0), .int p0, .int p1, .int p2, .int p3] [((a 0), .inr (7, (fX7 (a 1) (a 3) (a 19) (a 35) (a 40) (nI rk) lfa (a 53) (a 56) (a 63) (a 64) (a 68)))), ((a 3), .inl (k 3, 3, .inr (.inr (.inr (.inr (a3 (a 4) (a 9) (a 14))))))), ((a 4), .inr (5, (fX5 (a 5) (a 6) (a 7) (a 8)))), (aI k (a 5) 10 (vv n0 see0 tm0 g0)), (aI k (a 7) 24 fp0), (aI k (a 8) 4 fl0), ((a 9), .inr (5, (fX5 (a 10) (a 11) (a 12) (a 13)))), (aI k (a 10) 10 (vv n1 see1 tm1 g1)), (aI k (a 12) 24 fp1), (aI k (a 13) 4 fl1), ((a 14), .inr (5, (fX5 (a 15) (a 16) (a 17) (a 18)))), (aI k (a 15) 10 (vv n2 see2 tm2 g2)), (aI k (a 17) 24 fp2), (aI k (a 18) 4 fl2), ((a 53), .inr (4, (fX4 (a 54) (a 55) (nI cc) (nI rz) ro sd))), (aI k (a 54) 4 wk), (aI k (a 55) 4 (nF br)), ((a 68), .inr (1, (fX1 (a 53) (a 69) (a 70) (a 71) pn pf pd pe))), (aI k (a 69) 4 (nF pb)), (aI k (a 70) 100 pco), (aI k (a 71) 16 pg)] (fun (r : Int32) (u : Int32 × Int32 × Int32 × Int32 × (Nat → Nat) × (Nat → Int32)) => match u with | (pn_, pf_, pd_, pe_, pb_, pco_) => ∀ j, pb_ j ≤ 24) (fun (u : Int32 × Int32 × Int32 × Int32 × (Nat → Nat) × (Nat → Int32)) => match u with | (pn_, pf_, pd_, pe_, pb_, pco_) => [((a 0), .inr (7, (fX7 (a 1) (a 3) (a 19) (a 35) (a 40) (nI rk) lfa (a 53) (a 56) (a 63) (a 64) (a 68)))), ((a 3), .inl (k 3, 3, .inr (.inr (.inr (.inr (a3 (a 4) (a 9) (a 14))))))), ((a 4), .inr (5, (fX5 (a 5) (a 6) (a 7) (a 8)))), (aI k (a 5) 10 (vv n0 see0 tm0 g0)), (aI k (a 7) 24 fp0), (aI k (a 8) 4 fl0), ((a 9), .inr (5, (fX5 (a 10) (a 11) (a 12) (a 13)))), (aI k (a 10) 10 (vv n1 see1 tm1 g1)), (aI k (a 12) 24 fp1), (aI k (a 13) 4 fl1), ((a 14), .inr (5, (fX5 (a 15) (a 16) (a 17) (a 18)))), (aI k (a 15) 10 (vv n2 see2 tm2 g2)), (aI k (a 17) 24 fp2), (aI k (a 18) 4 fl2), ((a 53), .inr (4, (fX4 (a 54) (a 55) (nI cc) (nI rz) ro sd))), (aI k (a 54) 4 wk), (aI k (a 55) 4 (nF br)), ((a 68), .inr (1, (fX1 (a 53) (a 69) (a 70) (a 71) pn_ pf_ pd_ pe_))), (aI k (a 69) 4 (nF pb_)), (aI k (a 70) 100 pco_), (aI k (a 71) 16 pg)]) := by
  intro sz
  refine Met.ofW (cc := cX7_parks) (maxL := 6) (ret := (some .int)) (by decide) rfl ?_
  intro p e s m args below meth c s₁ B hml hv
  obtain ⟨rfl, hsz, hlo, hP, hK, hDL, hZ⟩ := hv
  have hx := B.exec
  have hb := B.bytes
  have hr := B.returns
  have hts := WS_ts B.pre
  have hown : s.vm.findClass RX7 = some m.cls := findClass_of_methodNamed B.named
  have hlocks := B.notSynchronized
  subst hsz
  have hD := hDL.self (sz := s.heap.size)
  have hAlo := A_lo hDL hlo
  generalize hAe : va_A [((a 0), .inr (7, (fX7 (a 1) (a 3) (a 19) (a 35) (a 40) (nI rk) lfa (a 53) (a 56) (a 63) (a 64) (a 68)))), ((a 3), .inl (k 3, 3, .inr (.inr (.inr (.inr (a3 (a 4) (a 9) (a 14))))))), ((a 4), .inr (5, (fX5 (a 5) (a 6) (a 7) (a 8)))), (aI k (a 5) 10 (vv n0 see0 tm0 g0)), (aI k (a 7) 24 fp0), (aI k (a 8) 4 fl0), ((a 9), .inr (5, (fX5 (a 10) (a 11) (a 12) (a 13)))), (aI k (a 10) 10 (vv n1 see1 tm1 g1)), (aI k (a 12) 24 fp1), (aI k (a 13) 4 fl1), ((a 14), .inr (5, (fX5 (a 15) (a 16) (a 17) (a 18)))), (aI k (a 15) 10 (vv n2 see2 tm2 g2)), (aI k (a 17) 24 fp2), (aI k (a 18) 4 fl2), ((a 53), .inr (4, (fX4 (a 54) (a 55) (nI cc) (nI rz) ro sd))), (aI k (a 54) 4 wk), (aI k (a 55) 4 (nF br)), ((a 68), .inr (1, (fX1 (a 53) (a 69) (a 70) (a 71) pn pf pd pe))), (aI k (a 69) 4 (nF pb)), (aI k (a 70) 100 pco), (aI k (a 71) 16 pg)] s.heap.size = A at hD hAlo ⊢
  have hA : ∀ q : Nat, s.heap.size ≤ q → A q := fun q h => by rw [← hAe]; exact Or.inr h
  have hS : va_S A s.heap s.heap [] := va_S.rf
  have hl := lv_entry ([.ref (a 0), .int p0, .int p1, .int p2, .int p3]) (n := 6) (Nat.le_of_ble_eq_true rfl)
  rw [lg_entry_eq]
  generalize (lg_sl ([.ref (a 0), .int p0, .int p1, .int p2, .int p3]) ++ List.replicate (6 - (lg_sl ([.ref (a 0), .int p0, .int p1, .int p2, .int p3])).length) Slot.unset).toArray = ls at hl ⊢
  have hl : lv_has ls 6 [(0, .ref (a 0)), (1, .int p0), (2, .int p1), (3, .int p2), (4, .int p3)] := hl
  refine lv_aload_n hx hb dX7_parks_0 rfl (lv_at hl 0 rfl) ?_
  refine lv_iload_n hx hb dX7_parks_1 rfl (lv_at hl 1 rfl) ?_
  refine ro_i (D := D) (va_runV (As := [.int p0]) (rest := []) ⟨hx, hb, hml, hown, hts⟩ ((x_isStreet l D k st lo a rk lfa n0 see0 tm0 g0 n1 see1 tm1 g1 n2 see2 tm2 g2 p0 (by first | assumption | omega) (by first | assumption | omega) (by first | assumption | omega)) s.heap.size) (cwV 1 hts (gV tw_589 tw_591 tw_8 tw_79 tw_592) rfl rfl rfl (by decide +kernel) ⟨Nat.le_of_ble_eq_true rfl, Nat.le_of_ble_eq_true rfl⟩) (pV hS hAlo hlo hP hK (va_Dlo hD hAlo) hZ [0, 1, 2, 3, 6, 7, 10, 11] (by decide) rfl (ci := 7) (q := (RX7, TX7, 12)) (q0 := 0) rfl rfl) rfl rfl hl.1 rfl (lv_room (Nat.le_of_ble_eq_true rfl)) dX7_parks_2 ⟨Nat.le_of_ble_eq_true rfl, Nat.le_of_ble_eq_true rfl⟩) hS hA hP (fun r_1 H locs hw_1 hP hS => ?_)
  try dsimp only at hw_1
  rcases hw_1 with ⟨rfl, ⟨rfl, hw_1⟩ | ⟨rfl, hw_1⟩ | ⟨rfl, hw_1⟩⟩ | rfl
  · refine lv_if_eq (tgt := 16) hx hb dX7_parks_5 (by decide) (fun h => absurd h (by decide)) (fun _ => ?_)
    refine lv_aload_n hx hb dX7_parks_8 rfl (lv_at hl 0 rfl) ?_
    refine lv_iload_n hx hb dX7_parks_9 rfl (lv_at hl 3 rfl) ?_
    refine ro_i (D := D) (va_runV (As := [.int p2]) (rest := []) ⟨hx, hb, hml, hown, hts⟩ ((x_isCar l D k st lo a rk lfa cc rz ro sd p2 (by first | assumption | omega)) H.size) (cwV 1 hts (gV tw_809 tw_811 tw_17 tw_79 tw_812) rfl rfl rfl (by decide +kernel) ⟨Nat.le_of_ble_eq_true rfl, Nat.le_of_ble_eq_true rfl⟩) (pV hS hAlo hlo hP hK (va_Dlo hD hAlo) hZ [0, 14] (by decide) rfl (ci := 7) (q := (RX7, TX7, 12)) (q0 := 0) rfl rfl) rfl rfl hl.1 rfl (lv_room (Nat.le_of_ble_eq_true rfl)) dX7_parks_10 ⟨Nat.le_of_ble_eq_true rfl, Nat.le_of_ble_eq_true rfl⟩) hS hA hP (fun r_2 H locs hw_2 hP hS => ?_)
    try dsimp only at hw_2
    rcases hw_2 with ⟨rfl, ic_3, hic_3, rfl⟩ | rfl
    · refine lv_if_ne (tgt := 20) hx hb dX7_parks_13 (by decide) (fun _ => ?_) (fun h => absurd h (by decide))
      refine lv_aload_n hx hb dX7_parks_20 rfl (lv_at hl 0 rfl) ?_
      refine lv_iload_n hx hb dX7_parks_21 rfl (lv_at hl 1 rfl) ?_
      refine lv_iload_n hx hb dX7_parks_22 rfl (lv_at hl 2 rfl) ?_
      refine ro_i (D := D) (va_runV (As := [.int 0, .int p1]) (rest := []) ⟨hx, hb, hml, hown, hts⟩ ((x_isSet_0 l D k st lo a rk lfa n0 see0 tm0 g0 p1) H.size) (cwV 2 hts (gV tw_817 tw_819 tw_18 tw_79 tw_820) rfl rfl rfl (by decide +kernel) ⟨Nat.le_of_ble_eq_true rfl, Nat.le_of_ble_eq_true rfl⟩) (pV hS hAlo hlo hP hK (va_Dlo hD hAlo) hZ [0, 1, 2, 3] (by decide) rfl (ci := 7) (q := (RX7, TX7, 12)) (q0 := 0) rfl rfl) rfl rfl hl.1 rfl (lv_room (Nat.le_of_ble_eq_true rfl)) dX7_parks_23 ⟨Nat.le_of_ble_eq_true rfl, Nat.le_of_ble_eq_true rfl⟩) hS hA hP (fun r_4 H locs hw_4 hP hS => ?_)
      try dsimp only at hw_4
      rcases hw_4 with rfl | rfl
      · refine lv_if_eq (tgt := 39) hx hb dX7_parks_26 (by decide) (fun h => absurd h (by decide)) (fun _ => ?_)
        refine lv_iload hx hb dX7_parks_29 (lv_at hl 4 rfl) ?_
        refine lv_iconst (v := 0) hx hb dX7_parks_31 (by decide) ?_
        refine lv_iconst (v := 1) hx hb dX7_parks_32 (by decide) ?_
        refine ro_i (D := D) (va_runS (As := [.int p3, .int 0, .int 1]) (rest := []) ⟨hx, hb, hml, hown, hts⟩ ((k_isIn l D k st lo p3 0 1) H.size) (va_cwS 3 hts (gS tw_593 tw_594 tw_79 tw_595) rfl rfl rfl (by decide +kernel) ⟨Nat.le_of_ble_eq_true rfl, Nat.le_of_ble_eq_true rfl⟩) (pS hS hAlo hlo hP hK (va_Dlo hD hAlo) hZ [] (by decide) rfl) rfl rfl hl.1 rfl (lv_room (Nat.le_of_ble_eq_true rfl)) dX7_parks_33 ⟨Nat.le_of_ble_eq_true rfl, Nat.le_of_ble_eq_true rfl⟩) hS hA hP (fun r_5 H locs hw_5 hP hS => ?_)
        try dsimp only at hw_5
        rcases hw_5 with ⟨rfl, hw_5⟩ | ⟨rfl, hw_5⟩
        · refine lv_if_ne (tgt := 43) hx hb dX7_parks_36 (by decide) (fun _ => ?_) (fun h => absurd h (by decide))
          refine lv_aload_n hx hb dX7_parks_43 rfl (lv_at hl 0 rfl) ?_
          refine va_get (D := D) (ci := 7) (v := .ref (a 68)) (C := RX7) (T := TX7) (N := 12) hx hb hts inX7 hown hK hP 0 rfl rfl 11 (by decide) (hts _ tw_316) (fun _ h9 => h9) rfl dX7_parks_44 ?_
          refine lv_aload_n hx hb dX7_parks_47 rfl (lv_at hl 0 rfl) ?_
          refine va_get (D := D) (ci := 7) (v := .ref (a 3)) (C := RX7) (T := TX7) (N := 12) hx hb hts inX7 hown hK hP 0 rfl rfl 1 (by decide) (hts _ tw_306) (fun _ h9 => h9) rfl dX7_parks_48 ?_
          refine lv_iload_n hx hb dX7_parks_51 rfl (lv_at hl 1 rfl) ?_
          refine va_aldq hx hb hK hP 1 3 rfl rfl (by unfold vp_in; decide) dX7_parks_52 ?_
          refine lv_tr (y := .ref (a 4)) rfl ?_
          refine lv_iload_n hx hb dX7_parks_53 rfl (lv_at hl 2 rfl) ?_
          refine rw_v (D := D) (wr := [((a 0), .inr (7, (fX7 (a 1) (a 3) (a 19) (a 35) (a 40) (nI rk) lfa (a 53) (a 56) (a 63) (a 64) (a 68)))), ((a 3), .inl (k 3, 3, .inr (.inr (.inr (.inr (a3 (a 4) (a 9) (a 14))))))), ((a 9), .inr (5, (fX5 (a 10) (a 11) (a 12) (a 13)))), (aI k (a 10) 10 (vv n1 see1 tm1 g1)), (aI k (a 12) 24 fp1), (aI k (a 13) 4 fl1), ((a 14), .inr (5, (fX5 (a 15) (a 16) (a 17) (a 18)))), (aI k (a 15) 10 (vv n2 see2 tm2 g2)), (aI k (a 17) 24 fp2), (aI k (a 18) 4 fl2), (aI k (a 71) 16 pg)]) (va_runV (As := [.ref (a 4), .int p1]) (rest := []) ⟨hx, hb, hml, hown, hts⟩ ((x_comeTo l D k st lo (a 53) (a 68) (a 69) (a 70) (a 71) pn pf pd pe pb pco (a 4) (a 5) (a 6) (a 7) (a 8) n0 see0 tm0 g0 fp0 fl0 (a 54) (a 55) cc rz ro sd wk br p1 (by first | assumption | omega) (by first | assumption | omega) hbr hpb) H.size) (cwV 2 hts (gV tw_821 tw_822 tw_823 tw_84 tw_824) rfl rfl rfl (by decide +kernel) ⟨Nat.le_of_ble_eq_true rfl, Nat.le_of_ble_eq_true rfl⟩) (pV hS hAlo hlo hP hK (va_Dlo hD hAlo) hZ [17, 18, 19, 2, 3, 4, 5, 14, 15, 16] (by decide +kernel) rfl (ci := 1) (q := (RX1, TX1, 8)) (q0 := 0) rfl rfl) rfl rfl hl.1 rfl (lv_room (Nat.le_of_ble_eq_true rfl)) dX7_parks_54 ⟨Nat.le_of_ble_eq_true rfl, Nat.le_of_ble_eq_true rfl⟩) hS hA hP hD [17, 18, 19, 2, 3, 4, 5, 14, 15, 16] [0, 1, 6, 7, 8, 9, 10, 11, 12, 13, 20] rfl rfl (by decide +kernel) (by decide +kernel) (fun u H locs hw_6 hP hD hS => ?_)
          obtain ⟨pb__6, pco__6⟩ := u
          have hQ9 := pd_mk [((a 0), .inr (7, (fX7 (a 1) (a 3) (a 19) (a 35) (a 40) (nI rk) lfa (a 53) (a 56) (a 63) (a 64) (a 68)))), ((a 3), .inl (k 3, 3, .inr (.inr (.inr (.inr (a3 (a 4) (a 9) (a 14))))))), ((a 9), .inr (5, (fX5 (a 10) (a 11) (a 12) (a 13)))), (aI k (a 10) 10 (vv n1 see1 tm1 g1)), (aI k (a 12) 24 fp1), (aI k (a 13) 4 fl1), ((a 14), .inr (5, (fX5 (a 15) (a 16) (a 17) (a 18)))), (aI k (a 15) 10 (vv n2 see2 tm2 g2)), (aI k (a 17) 24 fp2), (aI k (a 18) 4 fl2), (aI k (a 71) 16 pg), ((a 68), .inr (1, (fX1 (a 53) (a 69) (a 70) (a 71) (nI n0) p1 0 0))), (aI k (a 69) 4 (nF pb__6)), (aI k (a 70) 100 pco__6), ((a 4), .inr (5, (fX5 (a 5) (a 6) (a 7) (a 8)))), (aI k (a 5) 10 (vv n0 see0 tm0 g0)), (aI k (a 7) 24 fp0), (aI k (a 8) 4 fl0), ((a 53), .inr (4, (fX4 (a 54) (a 55) (nI cc) (nI rz) ro sd))), (aI k (a 54) 4 wk), (aI k (a 55) 4 (nF br))] hP hD
          clear hP hD
          obtain ⟨hP, hD⟩ := hQ9
          try dsimp only at hw_6
          refine lv_aload_n hx hb dX7_parks_57 rfl (lv_at hl 0 rfl) ?_
          refine va_get (D := D) (ci := 7) (v := .ref (a 68)) (C := RX7) (T := TX7) (N := 12) hx hb hts inX7 hown hK hP 0 rfl rfl 11 (by decide) (hts _ tw_316) (fun _ h9 => h9) rfl dX7_parks_58 ?_
          refine lv_iload_n hx hb dX7_parks_61 rfl (lv_at hl 3 rfl) ?_
          refine ro_i (D := D) (va_runV (As := [.int (nI ic_3)]) (rest := []) ⟨hx, hb, hml, hown, hts⟩ ((x_placeOf l D k st lo (a 53) (a 68) (a 69) (a 70) (a 71) n0 p1 0 0 pb__6 ic_3 (by first | assumption | omega) (by first | assumption | omega) hw_6) H.size) (cwV 1 hts (gV tw_830 tw_831 tw_832 tw_84 tw_833) rfl rfl rfl (by decide +kernel) ⟨Nat.le_of_ble_eq_true rfl, Nat.le_of_ble_eq_true rfl⟩) (pV hS hAlo hlo hP hK (va_Dlo hD hAlo) hZ [11, 12] (by decide) rfl (ci := 1) (q := (RX1, TX1, 8)) (q0 := 0) rfl rfl) rfl rfl hl.1 rfl (lv_room (Nat.le_of_ble_eq_true rfl)) dX7_parks_62 ⟨Nat.le_of_ble_eq_true rfl, Nat.le_of_ble_eq_true rfl⟩) hS hA hP (fun r_7 H locs hw_7 hP hS => ?_)
          try dsimp only at hw_7
          obtain ⟨zp_8, hzp_8, rfl⟩ := hw_7
          refine lv_istore (lv' := [(5, .int (nI zp_8)), (0, .ref (a 0)), (1, .int 0), (2, .int p1), (3, .int (nI ic_3)), (4, .int p3)]) hx hb dX7_parks_65 hl (by decide) rfl (fun ls hl => ?_)
          refine lv_iload hx hb dX7_parks_67 (lv_at hl 5 rfl) ?_
          refine lv_iconst (v := 1) hx hb dX7_parks_69 (by decide) ?_
          refine lv_icmp_ne (tgt := 84) hx hb dX7_parks_70 (by decide) (fun c_9 => ?_) (fun c_9 => ?_)
          · refine lv_iload hx hb dX7_parks_84 (lv_at hl 0 rfl) ?_
            refine lv_aload_n hx hb dX7_parks_86 rfl (lv_at hl 1 rfl) ?_
            refine va_get (D := D) (ci := 7) (v := .ref (a 3)) (C := RX7) (T := TX7) (N := 12) hx hb hts inX7 hown hK hP 0 rfl rfl 1 (by decide) (hts _ tw_306) (fun _ h9 => h9) rfl dX7_parks_87 ?_
            refine lv_iload_n hx hb dX7_parks_90 rfl (lv_at hl 2 rfl) ?_
            refine va_aldq hx hb hK hP 1 3 rfl rfl (by unfold vp_in; decide) dX7_parks_91 ?_
            refine lv_tr (y := .ref (a 4)) rfl ?_
            refine ro_i (D := D) (va_runV (As := []) (rest := [.int (nI zp_8)]) ⟨hx, hb, hml, hown, hts⟩ ((x_doors l D k st lo (a 4) (a 5) (a 6) (a 7) (a 8) n0 see0 tm0 g0) H.size) (cwV 0 hts (gV tw_580 tw_478 tw_479 tw_81 tw_480) rfl rfl rfl (by decide +kernel) ⟨Nat.le_of_ble_eq_true rfl, Nat.le_of_ble_eq_true rfl⟩) (pV hS hAlo hlo hP hK (va_Dlo hD hAlo) hZ [14, 15] (by decide) rfl (ci := 5) (q := (RX5, TX5, 4)) (q0 := 0) rfl rfl) rfl rfl hl.1 rfl (lv_room (Nat.le_of_ble_eq_true rfl)) dX7_parks_92 ⟨Nat.le_of_ble_eq_true rfl, Nat.le_of_ble_eq_true rfl⟩) hS hA hP (fun r_10 H locs hw_10 hP hS => ?_)
            try dsimp only at hw_10
            subst hw_10
            refine lv_icmp_ge (tgt := 103) hx hb dX7_parks_95 (by decide) (fun c_11 => ?_) (fun c_11 => ?_)
            · have c_11 := (nI_leI (a := n0) (b := zp_8) (by omega) (by omega)).mp c_11
              refine lv_iconst (v := (-1)) hx hb dX7_parks_103 (by decide) ?_
              obtain ⟨hP9, hD9⟩ := pd_sub [((a 0), .inr (7, (fX7 (a 1) (a 3) (a 19) (a 35) (a 40) (nI rk) lfa (a 53) (a 56) (a 63) (a 64) (a 68)))), ((a 3), .inl (k 3, 3, .inr (.inr (.inr (.inr (a3 (a 4) (a 9) (a 14))))))), ((a 4), .inr (5, (fX5 (a 5) (a 6) (a 7) (a 8)))), (aI k (a 5) 10 (vv n0 see0 tm0 g0)), (aI k (a 7) 24 fp0), (aI k (a 8) 4 fl0), ((a 9), .inr (5, (fX5 (a 10) (a 11) (a 12) (a 13)))), (aI k (a 10) 10 (vv n1 see1 tm1 g1)), (aI k (a 12) 24 fp1), (aI k (a 13) 4 fl1), ((a 14), .inr (5, (fX5 (a 15) (a 16) (a 17) (a 18)))), (aI k (a 15) 10 (vv n2 see2 tm2 g2)), (aI k (a 17) 24 fp2), (aI k (a 18) 4 fl2), ((a 53), .inr (4, (fX4 (a 54) (a 55) (nI cc) (nI rz) ro sd))), (aI k (a 54) 4 wk), (aI k (a 55) 4 (nF br)), ((a 68), .inr (1, (fX1 (a 53) (a 69) (a 70) (a 71) (nI n0) p1 0 0))), (aI k (a 69) 4 (nF pb__6)), (aI k (a 70) 100 pco__6), (aI k (a 71) 16 pg)] [0, 1, 14, 15, 16, 17, 2, 3, 4, 5, 6, 7, 8, 9, 18, 19, 20, 11, 12, 13, 10] hP hD (by decide +kernel) rfl
              exact W.iret (v := (-1)) hx hb hr (fun t ht hW => ⟨⟨(-1), ((nI n0), p1, 0, 0, pb__6, pco__6), rfl, hw_6, by rw [ht]; exact hP9, hD9⟩, hS.F ht⟩) hS.2.2 dX7_parks_104
            · have c_11 : ¬ (n0 ≤ zp_8) := fun h => c_11 ((nI_leI (a := n0) (b := zp_8) (by omega) (by omega)).mpr h)
              refine lv_iload hx hb dX7_parks_98 (lv_at hl 0 rfl) ?_
              refine lv_goto (tgt := 104) hx hb dX7_parks_100 (by decide) ?_
              obtain ⟨hP9, hD9⟩ := pd_sub [((a 0), .inr (7, (fX7 (a 1) (a 3) (a 19) (a 35) (a 40) (nI rk) lfa (a 53) (a 56) (a 63) (a 64) (a 68)))), ((a 3), .inl (k 3, 3, .inr (.inr (.inr (.inr (a3 (a 4) (a 9) (a 14))))))), ((a 4), .inr (5, (fX5 (a 5) (a 6) (a 7) (a 8)))), (aI k (a 5) 10 (vv n0 see0 tm0 g0)), (aI k (a 7) 24 fp0), (aI k (a 8) 4 fl0), ((a 9), .inr (5, (fX5 (a 10) (a 11) (a 12) (a 13)))), (aI k (a 10) 10 (vv n1 see1 tm1 g1)), (aI k (a 12) 24 fp1), (aI k (a 13) 4 fl1), ((a 14), .inr (5, (fX5 (a 15) (a 16) (a 17) (a 18)))), (aI k (a 15) 10 (vv n2 see2 tm2 g2)), (aI k (a 17) 24 fp2), (aI k (a 18) 4 fl2), ((a 53), .inr (4, (fX4 (a 54) (a 55) (nI cc) (nI rz) ro sd))), (aI k (a 54) 4 wk), (aI k (a 55) 4 (nF br)), ((a 68), .inr (1, (fX1 (a 53) (a 69) (a 70) (a 71) (nI n0) p1 0 0))), (aI k (a 69) 4 (nF pb__6)), (aI k (a 70) 100 pco__6), (aI k (a 71) 16 pg)] [0, 1, 14, 15, 16, 17, 2, 3, 4, 5, 6, 7, 8, 9, 18, 19, 20, 11, 12, 13, 10] hP hD (by decide +kernel) rfl
              exact W.iret (v := (nI zp_8)) hx hb hr (fun t ht hW => ⟨⟨(nI zp_8), ((nI n0), p1, 0, 0, pb__6, pco__6), rfl, hw_6, by rw [ht]; exact hP9, hD9⟩, hS.F ht⟩) hS.2.2 dX7_parks_104
          · refine lv_aload_n hx hb dX7_parks_73 rfl (lv_at hl 1 rfl) ?_
            refine va_get (D := D) (ci := 7) (v := .ref (a 68)) (C := RX7) (T := TX7) (N := 12) hx hb hts inX7 hown hK hP 0 rfl rfl 11 (by decide) (hts _ tw_316) (fun _ h9 => h9) rfl dX7_parks_74 ?_
            refine lv_iload_n hx hb dX7_parks_77 rfl (lv_at hl 4 rfl) ?_
            refine lv_iload hx hb dX7_parks_78 (lv_at hl 0 rfl) ?_
            refine ro_i (D := D) (va_runV (As := [.int (nI ic_3), .int (nI zp_8)]) (rest := []) ⟨hx, hb, hml, hown, hts⟩ ((x_costAt l D k st lo (a 53) (a 68) (a 69) (a 70) (a 71) n0 p1 0 0 pco__6 ic_3 zp_8 (by first | assumption | omega) (by first | assumption | omega)) H.size) (cwV 2 hts (gV tw_842 tw_843 tw_844 tw_84 tw_845) rfl rfl rfl (by decide +kernel) ⟨Nat.le_of_ble_eq_true rfl, Nat.le_of_ble_eq_true rfl⟩) (pV hS hAlo hlo hP hK (va_Dlo hD hAlo) hZ [11, 13] (by decide) rfl (ci := 1) (q := (RX1, TX1, 8)) (q0 := 0) rfl rfl) rfl rfl hl.1 rfl (lv_room (Nat.le_of_ble_eq_true rfl)) dX7_parks_80 ⟨Nat.le_of_ble_eq_true rfl, Nat.le_of_ble_eq_true rfl⟩) hS hA hP (fun r_12 H locs hw_12 hP hS => ?_)
            try dsimp only at hw_12
            obtain ⟨hP9, hD9⟩ := pd_sub [((a 0), .inr (7, (fX7 (a 1) (a 3) (a 19) (a 35) (a 40) (nI rk) lfa (a 53) (a 56) (a 63) (a 64) (a 68)))), ((a 3), .inl (k 3, 3, .inr (.inr (.inr (.inr (a3 (a 4) (a 9) (a 14))))))), ((a 4), .inr (5, (fX5 (a 5) (a 6) (a 7) (a 8)))), (aI k (a 5) 10 (vv n0 see0 tm0 g0)), (aI k (a 7) 24 fp0), (aI k (a 8) 4 fl0), ((a 9), .inr (5, (fX5 (a 10) (a 11) (a 12) (a 13)))), (aI k (a 10) 10 (vv n1 see1 tm1 g1)), (aI k (a 12) 24 fp1), (aI k (a 13) 4 fl1), ((a 14), .inr (5, (fX5 (a 15) (a 16) (a 17) (a 18)))), (aI k (a 15) 10 (vv n2 see2 tm2 g2)), (aI k (a 17) 24 fp2), (aI k (a 18) 4 fl2), ((a 53), .inr (4, (fX4 (a 54) (a 55) (nI cc) (nI rz) ro sd))), (aI k (a 54) 4 wk), (aI k (a 55) 4 (nF br)), ((a 68), .inr (1, (fX1 (a 53) (a 69) (a 70) (a 71) (nI n0) p1 0 0))), (aI k (a 69) 4 (nF pb__6)), (aI k (a 70) 100 pco__6), (aI k (a 71) 16 pg)] [0, 1, 14, 15, 16, 17, 2, 3, 4, 5, 6, 7, 8, 9, 18, 19, 20, 11, 12, 13, 10] hP hD (by decide +kernel) rfl
            exact W.iret (v := r_12) hx hb hr (fun t ht hW => ⟨⟨r_12, ((nI n0), p1, 0, 0, pb__6, pco__6), rfl, hw_6, by rw [ht]; exact hP9, hD9⟩, hS.F ht⟩) hS.2.2 dX7_parks_83
        · refine lv_if_ne (tgt := 43) hx hb dX7_parks_36 (by decide) (fun h => absurd (by decide) h) (fun _ => ?_)
          refine lv_sipush (v := (-1002)) hx hb dX7_parks_39 (by decide) ?_
          obtain ⟨hP9, hD9⟩ := pd_sub [((a 0), .inr (7, (fX7 (a 1) (a 3) (a 19) (a 35) (a 40) (nI rk) lfa (a 53) (a 56) (a 63) (a 64) (a 68)))), ((a 3), .inl (k 3, 3, .inr (.inr (.inr (.inr (a3 (a 4) (a 9) (a 14))))))), ((a 4), .inr (5, (fX5 (a 5) (a 6) (a 7) (a 8)))), (aI k (a 5) 10 (vv n0 see0 tm0 g0)), (aI k (a 7) 24 fp0), (aI k (a 8) 4 fl0), ((a 9), .inr (5, (fX5 (a 10) (a 11) (a 12) (a 13)))), (aI k (a 10) 10 (vv n1 see1 tm1 g1)), (aI k (a 12) 24 fp1), (aI k (a 13) 4 fl1), ((a 14), .inr (5, (fX5 (a 15) (a 16) (a 17) (a 18)))), (aI k (a 15) 10 (vv n2 see2 tm2 g2)), (aI k (a 17) 24 fp2), (aI k (a 18) 4 fl2), ((a 53), .inr (4, (fX4 (a 54) (a 55) (nI cc) (nI rz) ro sd))), (aI k (a 54) 4 wk), (aI k (a 55) 4 (nF br)), ((a 68), .inr (1, (fX1 (a 53) (a 69) (a 70) (a 71) pn pf pd pe))), (aI k (a 69) 4 (nF pb)), (aI k (a 70) 100 pco), (aI k (a 71) 16 pg)] [0, 1, 2, 3, 4, 5, 6, 7, 8, 9, 10, 11, 12, 13, 14, 15, 16, 17, 18, 19, 20] hP hD (by decide +kernel) rfl
          exact W.iret (v := (-1002)) hx hb hr (fun t ht hW => ⟨⟨(-1002), (pn, pf, pd, pe, pb, pco), rfl, hpb, by rw [ht]; exact hP9, hD9⟩, hS.F ht⟩) hS.2.2 dX7_parks_42
      · refine lv_if_eq (tgt := 39) hx hb dX7_parks_26 (by decide) (fun _ => ?_) (fun h => absurd (by decide) h)
        refine lv_sipush (v := (-1002)) hx hb dX7_parks_39 (by decide) ?_
        obtain ⟨hP9, hD9⟩ := pd_sub [((a 0), .inr (7, (fX7 (a 1) (a 3) (a 19) (a 35) (a 40) (nI rk) lfa (a 53) (a 56) (a 63) (a 64) (a 68)))), ((a 3), .inl (k 3, 3, .inr (.inr (.inr (.inr (a3 (a 4) (a 9) (a 14))))))), ((a 4), .inr (5, (fX5 (a 5) (a 6) (a 7) (a 8)))), (aI k (a 5) 10 (vv n0 see0 tm0 g0)), (aI k (a 7) 24 fp0), (aI k (a 8) 4 fl0), ((a 9), .inr (5, (fX5 (a 10) (a 11) (a 12) (a 13)))), (aI k (a 10) 10 (vv n1 see1 tm1 g1)), (aI k (a 12) 24 fp1), (aI k (a 13) 4 fl1), ((a 14), .inr (5, (fX5 (a 15) (a 16) (a 17) (a 18)))), (aI k (a 15) 10 (vv n2 see2 tm2 g2)), (aI k (a 17) 24 fp2), (aI k (a 18) 4 fl2), ((a 53), .inr (4, (fX4 (a 54) (a 55) (nI cc) (nI rz) ro sd))), (aI k (a 54) 4 wk), (aI k (a 55) 4 (nF br)), ((a 68), .inr (1, (fX1 (a 53) (a 69) (a 70) (a 71) pn pf pd pe))), (aI k (a 69) 4 (nF pb)), (aI k (a 70) 100 pco), (aI k (a 71) 16 pg)] [0, 1, 2, 3, 4, 5, 6, 7, 8, 9, 10, 11, 12, 13, 14, 15, 16, 17, 18, 19, 20] hP hD (by decide +kernel) rfl
        exact W.iret (v := (-1002)) hx hb hr (fun t ht hW => ⟨⟨(-1002), (pn, pf, pd, pe, pb, pco), rfl, hpb, by rw [ht]; exact hP9, hD9⟩, hS.F ht⟩) hS.2.2 dX7_parks_42
    · refine lv_if_ne (tgt := 20) hx hb dX7_parks_13 (by decide) (fun h => absurd (by decide) h) (fun _ => ?_)
      refine lv_sipush (v := (-1001)) hx hb dX7_parks_16 (by decide) ?_
      obtain ⟨hP9, hD9⟩ := pd_sub [((a 0), .inr (7, (fX7 (a 1) (a 3) (a 19) (a 35) (a 40) (nI rk) lfa (a 53) (a 56) (a 63) (a 64) (a 68)))), ((a 3), .inl (k 3, 3, .inr (.inr (.inr (.inr (a3 (a 4) (a 9) (a 14))))))), ((a 4), .inr (5, (fX5 (a 5) (a 6) (a 7) (a 8)))), (aI k (a 5) 10 (vv n0 see0 tm0 g0)), (aI k (a 7) 24 fp0), (aI k (a 8) 4 fl0), ((a 9), .inr (5, (fX5 (a 10) (a 11) (a 12) (a 13)))), (aI k (a 10) 10 (vv n1 see1 tm1 g1)), (aI k (a 12) 24 fp1), (aI k (a 13) 4 fl1), ((a 14), .inr (5, (fX5 (a 15) (a 16) (a 17) (a 18)))), (aI k (a 15) 10 (vv n2 see2 tm2 g2)), (aI k (a 17) 24 fp2), (aI k (a 18) 4 fl2), ((a 53), .inr (4, (fX4 (a 54) (a 55) (nI cc) (nI rz) ro sd))), (aI k (a 54) 4 wk), (aI k (a 55) 4 (nF br)), ((a 68), .inr (1, (fX1 (a 53) (a 69) (a 70) (a 71) pn pf pd pe))), (aI k (a 69) 4 (nF pb)), (aI k (a 70) 100 pco), (aI k (a 71) 16 pg)] [0, 1, 2, 3, 4, 5, 6, 7, 8, 9, 10, 11, 12, 13, 14, 15, 16, 17, 18, 19, 20] hP hD (by decide +kernel) rfl
      exact W.iret (v := (-1001)) hx hb hr (fun t ht hW => ⟨⟨(-1001), (pn, pf, pd, pe, pb, pco), rfl, hpb, by rw [ht]; exact hP9, hD9⟩, hS.F ht⟩) hS.2.2 dX7_parks_19
  · refine lv_if_eq (tgt := 16) hx hb dX7_parks_5 (by decide) (fun h => absurd h (by decide)) (fun _ => ?_)
    refine lv_aload_n hx hb dX7_parks_8 rfl (lv_at hl 0 rfl) ?_
    refine lv_iload_n hx hb dX7_parks_9 rfl (lv_at hl 3 rfl) ?_
    refine ro_i (D := D) (va_runV (As := [.int p2]) (rest := []) ⟨hx, hb, hml, hown, hts⟩ ((x_isCar l D k st lo a rk lfa cc rz ro sd p2 (by first | assumption | omega)) H.size) (cwV 1 hts (gV tw_809 tw_811 tw_17 tw_79 tw_812) rfl rfl rfl (by decide +kernel) ⟨Nat.le_of_ble_eq_true rfl, Nat.le_of_ble_eq_true rfl⟩) (pV hS hAlo hlo hP hK (va_Dlo hD hAlo) hZ [0, 14] (by decide) rfl (ci := 7) (q := (RX7, TX7, 12)) (q0 := 0) rfl rfl) rfl rfl hl.1 rfl (lv_room (Nat.le_of_ble_eq_true rfl)) dX7_parks_10 ⟨Nat.le_of_ble_eq_true rfl, Nat.le_of_ble_eq_true rfl⟩) hS hA hP (fun r_13 H locs hw_13 hP hS => ?_)
    try dsimp only at hw_13
    rcases hw_13 with ⟨rfl, ic_14, hic_14, rfl⟩ | rfl
    · refine lv_if_ne (tgt := 20) hx hb dX7_parks_13 (by decide) (fun _ => ?_) (fun h => absurd h (by decide))
      refine lv_aload_n hx hb dX7_parks_20 rfl (lv_at hl 0 rfl) ?_
      refine lv_iload_n hx hb dX7_parks_21 rfl (lv_at hl 1 rfl) ?_
      refine lv_iload_n hx hb dX7_parks_22 rfl (lv_at hl 2 rfl) ?_
      refine ro_i (D := D) (va_runV (As := [.int 1, .int p1]) (rest := []) ⟨hx, hb, hml, hown, hts⟩ ((x_isSet_1 l D k st lo a rk lfa n1 see1 tm1 g1 p1) H.size) (cwV 2 hts (gV tw_817 tw_819 tw_18 tw_79 tw_820) rfl rfl rfl (by decide +kernel) ⟨Nat.le_of_ble_eq_true rfl, Nat.le_of_ble_eq_true rfl⟩) (pV hS hAlo hlo hP hK (va_Dlo hD hAlo) hZ [0, 1, 6, 7] (by decide) rfl (ci := 7) (q := (RX7, TX7, 12)) (q0 := 0) rfl rfl) rfl rfl hl.1 rfl (lv_room (Nat.le_of_ble_eq_true rfl)) dX7_parks_23 ⟨Nat.le_of_ble_eq_true rfl, Nat.le_of_ble_eq_true rfl⟩) hS hA hP (fun r_15 H locs hw_15 hP hS => ?_)
      try dsimp only at hw_15
      rcases hw_15 with rfl | rfl
      · refine lv_if_eq (tgt := 39) hx hb dX7_parks_26 (by decide) (fun h => absurd h (by decide)) (fun _ => ?_)
        refine lv_iload hx hb dX7_parks_29 (lv_at hl 4 rfl) ?_
        refine lv_iconst (v := 0) hx hb dX7_parks_31 (by decide) ?_
        refine lv_iconst (v := 1) hx hb dX7_parks_32 (by decide) ?_
        refine ro_i (D := D) (va_runS (As := [.int p3, .int 0, .int 1]) (rest := []) ⟨hx, hb, hml, hown, hts⟩ ((k_isIn l D k st lo p3 0 1) H.size) (va_cwS 3 hts (gS tw_593 tw_594 tw_79 tw_595) rfl rfl rfl (by decide +kernel) ⟨Nat.le_of_ble_eq_true rfl, Nat.le_of_ble_eq_true rfl⟩) (pS hS hAlo hlo hP hK (va_Dlo hD hAlo) hZ [] (by decide) rfl) rfl rfl hl.1 rfl (lv_room (Nat.le_of_ble_eq_true rfl)) dX7_parks_33 ⟨Nat.le_of_ble_eq_true rfl, Nat.le_of_ble_eq_true rfl⟩) hS hA hP (fun r_16 H locs hw_16 hP hS => ?_)
        try dsimp only at hw_16
        rcases hw_16 with ⟨rfl, hw_16⟩ | ⟨rfl, hw_16⟩
        · refine lv_if_ne (tgt := 43) hx hb dX7_parks_36 (by decide) (fun _ => ?_) (fun h => absurd h (by decide))
          refine lv_aload_n hx hb dX7_parks_43 rfl (lv_at hl 0 rfl) ?_
          refine va_get (D := D) (ci := 7) (v := .ref (a 68)) (C := RX7) (T := TX7) (N := 12) hx hb hts inX7 hown hK hP 0 rfl rfl 11 (by decide) (hts _ tw_316) (fun _ h9 => h9) rfl dX7_parks_44 ?_
          refine lv_aload_n hx hb dX7_parks_47 rfl (lv_at hl 0 rfl) ?_
          refine va_get (D := D) (ci := 7) (v := .ref (a 3)) (C := RX7) (T := TX7) (N := 12) hx hb hts inX7 hown hK hP 0 rfl rfl 1 (by decide) (hts _ tw_306) (fun _ h9 => h9) rfl dX7_parks_48 ?_
          refine lv_iload_n hx hb dX7_parks_51 rfl (lv_at hl 1 rfl) ?_
          refine va_aldq hx hb hK hP 1 3 rfl rfl (by unfold vp_in; decide) dX7_parks_52 ?_
          refine lv_tr (y := .ref (a 9)) rfl ?_
          refine lv_iload_n hx hb dX7_parks_53 rfl (lv_at hl 2 rfl) ?_
          refine rw_v (D := D) (wr := [((a 0), .inr (7, (fX7 (a 1) (a 3) (a 19) (a 35) (a 40) (nI rk) lfa (a 53) (a 56) (a 63) (a 64) (a 68)))), ((a 3), .inl (k 3, 3, .inr (.inr (.inr (.inr (a3 (a 4) (a 9) (a 14))))))), ((a 4), .inr (5, (fX5 (a 5) (a 6) (a 7) (a 8)))), (aI k (a 5) 10 (vv n0 see0 tm0 g0)), (aI k (a 7) 24 fp0), (aI k (a 8) 4 fl0), ((a 14), .inr (5, (fX5 (a 15) (a 16) (a 17) (a 18)))), (aI k (a 15) 10 (vv n2 see2 tm2 g2)), (aI k (a 17) 24 fp2), (aI k (a 18) 4 fl2), (aI k (a 71) 16 pg)]) (va_runV (As := [.ref (a 9), .int p1]) (rest := []) ⟨hx, hb, hml, hown, hts⟩ ((x_comeTo l D k st lo (a 53) (a 68) (a 69) (a 70) (a 71) pn pf pd pe pb pco (a 9) (a 10) (a 11) (a 12) (a 13) n1 see1 tm1 g1 fp1 fl1 (a 54) (a 55) cc rz ro sd wk br p1 (by first | assumption | omega) (by first | assumption | omega) hbr hpb) H.size) (cwV 2 hts (gV tw_821 tw_822 tw_823 tw_84 tw_824) rfl rfl rfl (by decide +kernel) ⟨Nat.le_of_ble_eq_true rfl, Nat.le_of_ble_eq_true rfl⟩) (pV hS hAlo hlo hP hK (va_Dlo hD hAlo) hZ [17, 18, 19, 6, 7, 8, 9, 14, 15, 16] (by decide +kernel) rfl (ci := 1) (q := (RX1, TX1, 8)) (q0 := 0) rfl rfl) rfl rfl hl.1 rfl (lv_room (Nat.le_of_ble_eq_true rfl)) dX7_parks_54 ⟨Nat.le_of_ble_eq_true rfl, Nat.le_of_ble_eq_true rfl⟩) hS hA hP hD [17, 18, 19, 6, 7, 8, 9, 14, 15, 16] [0, 1, 2, 3, 4, 5, 10, 11, 12, 13, 20] rfl rfl (by decide +kernel) (by decide +kernel) (fun u H locs hw_17 hP hD hS => ?_)
          obtain ⟨pb__17, pco__17⟩ := u
          have hQ9 := pd_mk [((a 0), .inr (7, (fX7 (a 1) (a 3) (a 19) (a 35) (a 40) (nI rk) lfa (a 53) (a 56) (a 63) (a 64) (a 68)))), ((a 3), .inl (k 3, 3, .inr (.inr (.inr (.inr (a3 (a 4) (a 9) (a 14))))))), ((a 4), .inr (5, (fX5 (a 5) (a 6) (a 7) (a 8)))), (aI k (a 5) 10 (vv n0 see0 tm0 g0)), (aI k (a 7) 24 fp0), (aI k (a 8) 4 fl0), ((a 14), .inr (5, (fX5 (a 15) (a 16) (a 17) (a 18)))), (aI k (a 15) 10 (vv n2 see2 tm2 g2)), (aI k (a 17) 24 fp2), (aI k (a 18) 4 fl2), (aI k (a 71) 16 pg), ((a 68), .inr (1, (fX1 (a 53) (a 69) (a 70) (a 71) (nI n1) p1 0 0))), (aI k (a 69) 4 (nF pb__17)), (aI k (a 70) 100 pco__17), ((a 9), .inr (5, (fX5 (a 10) (a 11) (a 12) (a 13)))), (aI k (a 10) 10 (vv n1 see1 tm1 g1)), (aI k (a 12) 24 fp1), (aI k (a 13) 4 fl1), ((a 53), .inr (4, (fX4 (a 54) (a 55) (nI cc) (nI rz) ro sd))), (aI k (a 54) 4 wk), (aI k (a 55) 4 (nF br))] hP hD
          clear hP hD
          obtain ⟨hP, hD⟩ := hQ9
          try dsimp only at hw_17
          refine lv_aload_n hx hb dX7_parks_57 rfl (lv_at hl 0 rfl) ?_
          refine va_get (D := D) (ci := 7) (v := .ref (a 68)) (C := RX7) (T := TX7) (N := 12) hx hb hts inX7 hown hK hP 0 rfl rfl 11 (by decide) (hts _ tw_316) (fun _ h9 => h9) rfl dX7_parks_58 ?_
          refine lv_iload_n hx hb dX7_parks_61 rfl (lv_at hl 3 rfl) ?_
          refine ro_i (D := D) (va_runV (As := [.int (nI ic_14)]) (rest := []) ⟨hx, hb, hml, hown, hts⟩ ((x_placeOf l D k st lo (a 53) (a 68) (a 69) (a 70) (a 71) n1 p1 0 0 pb__17 ic_14 (by first | assumption | omega) (by first | assumption | omega) hw_17) H.size) (cwV 1 hts (gV tw_830 tw_831 tw_832 tw_84 tw_833) rfl rfl rfl (by decide +kernel) ⟨Nat.le_of_ble_eq_true rfl, Nat.le_of_ble_eq_true rfl⟩) (pV hS hAlo hlo hP hK (va_Dlo hD hAlo) hZ [11, 12] (by decide) rfl (ci := 1) (q := (RX1, TX1, 8)) (q0 := 0) rfl rfl) rfl rfl hl.1 rfl (lv_room (Nat.le_of_ble_eq_true rfl)) dX7_parks_62 ⟨Nat.le_of_ble_eq_true rfl, Nat.le_of_ble_eq_true rfl⟩) hS hA hP (fun r_18 H locs hw_18 hP hS => ?_)
          try dsimp only at hw_18
          obtain ⟨zp_19, hzp_19, rfl⟩ := hw_18
          refine lv_istore (lv' := [(5, .int (nI zp_19)), (0, .ref (a 0)), (1, .int 1), (2, .int p1), (3, .int (nI ic_14)), (4, .int p3)]) hx hb dX7_parks_65 hl (by decide) rfl (fun ls hl => ?_)
          refine lv_iload hx hb dX7_parks_67 (lv_at hl 5 rfl) ?_
          refine lv_iconst (v := 1) hx hb dX7_parks_69 (by decide) ?_
          refine lv_icmp_ne (tgt := 84) hx hb dX7_parks_70 (by decide) (fun c_20 => ?_) (fun c_20 => ?_)
          · refine lv_iload hx hb dX7_parks_84 (lv_at hl 0 rfl) ?_
            refine lv_aload_n hx hb dX7_parks_86 rfl (lv_at hl 1 rfl) ?_
            refine va_get (D := D) (ci := 7) (v := .ref (a 3)) (C := RX7) (T := TX7) (N := 12) hx hb hts inX7 hown hK hP 0 rfl rfl 1 (by decide) (hts _ tw_306) (fun _ h9 => h9) rfl dX7_parks_87 ?_
            refine lv_iload_n hx hb dX7_parks_90 rfl (lv_at hl 2 rfl) ?_
            refine va_aldq hx hb hK hP 1 3 rfl rfl (by unfold vp_in; decide) dX7_parks_91 ?_
            refine lv_tr (y := .ref (a 9)) rfl ?_
            refine ro_i (D := D) (va_runV (As := []) (rest := [.int (nI zp_19)]) ⟨hx, hb, hml, hown, hts⟩ ((x_doors l D k st lo (a 9) (a 10) (a 11) (a 12) (a 13) n1 see1 tm1 g1) H.size) (cwV 0 hts (gV tw_580 tw_478 tw_479 tw_81 tw_480) rfl rfl rfl (by decide +kernel) ⟨Nat.le_of_ble_eq_true rfl, Nat.le_of_ble_eq_true rfl⟩) (pV hS hAlo hlo hP hK (va_Dlo hD hAlo) hZ [14, 15] (by decide) rfl (ci := 5) (q := (RX5, TX5, 4)) (q0 := 0) rfl rfl) rfl rfl hl.1 rfl (lv_room (Nat.le_of_ble_eq_true rfl)) dX7_parks_92 ⟨Nat.le_of_ble_eq_true rfl, Nat.le_of_ble_eq_true rfl⟩) hS hA hP (fun r_21 H locs hw_21 hP hS => ?_)
            try dsimp only at hw_21
            subst hw_21
            refine lv_icmp_ge (tgt := 103) hx hb dX7_parks_95 (by decide) (fun c_22 => ?_) (fun c_22 => ?_)
            · have c_22 := (nI_leI (a := n1) (b := zp_19) (by omega) (by omega)).mp c_22
              refine lv_iconst (v := (-1)) hx hb dX7_parks_103 (by decide) ?_
              obtain ⟨hP9, hD9⟩ := pd_sub [((a 0), .inr (7, (fX7 (a 1) (a 3) (a 19) (a 35) (a 40) (nI rk) lfa (a 53) (a 56) (a 63) (a 64) (a 68)))), ((a 3), .inl (k 3, 3, .inr (.inr (.inr (.inr (a3 (a 4) (a 9) (a 14))))))), ((a 4), .inr (5, (fX5 (a 5) (a 6) (a 7) (a 8)))), (aI k (a 5) 10 (vv n0 see0 tm0 g0)), (aI k (a 7) 24 fp0), (aI k (a 8) 4 fl0), ((a 9), .inr (5, (fX5 (a 10) (a 11) (a 12) (a 13)))), (aI k (a 10) 10 (vv n1 see1 tm1 g1)), (aI k (a 12) 24 fp1), (aI k (a 13) 4 fl1), ((a 14), .inr (5, (fX5 (a 15) (a 16) (a 17) (a 18)))), (aI k (a 15) 10 (vv n2 see2 tm2 g2)), (aI k (a 17) 24 fp2), (aI k (a 18) 4 fl2), ((a 53), .inr (4, (fX4 (a 54) (a 55) (nI cc) (nI rz) ro sd))), (aI k (a 54) 4 wk), (aI k (a 55) 4 (nF br)), ((a 68), .inr (1, (fX1 (a 53) (a 69) (a 70) (a 71) (nI n1) p1 0 0))), (aI k (a 69) 4 (nF pb__17)), (aI k (a 70) 100 pco__17), (aI k (a 71) 16 pg)] [0, 1, 2, 3, 4, 5, 14, 15, 16, 17, 6, 7, 8, 9, 18, 19, 20, 11, 12, 13, 10] hP hD (by decide +kernel) rfl
              exact W.iret (v := (-1)) hx hb hr (fun t ht hW => ⟨⟨(-1), ((nI n1), p1, 0, 0, pb__17, pco__17), rfl, hw_17, by rw [ht]; exact hP9, hD9⟩, hS.F ht⟩) hS.2.2 dX7_parks_104
            · have c_22 : ¬ (n1 ≤ zp_19) := fun h => c_22 ((nI_leI (a := n1) (b := zp_19) (by omega) (by omega)).mpr h)
              refine lv_iload hx hb dX7_parks_98 (lv_at hl 0 rfl) ?_
              refine lv_goto (tgt := 104) hx hb dX7_parks_100 (by decide) ?_
              obtain ⟨hP9, hD9⟩ := pd_sub [((a 0), .inr (7, (fX7 (a 1) (a 3) (a 19) (a 35) (a 40) (nI rk) lfa (a 53) (a 56) (a 63) (a 64) (a 68)))), ((a 3), .inl (k 3, 3, .inr (.inr (.inr (.inr (a3 (a 4) (a 9) (a 14))))))), ((a 4), .inr (5, (fX5 (a 5) (a 6) (a 7) (a 8)))), (aI k (a 5) 10 (vv n0 see0 tm0 g0)), (aI k (a 7) 24 fp0), (aI k (a 8) 4 fl0), ((a 9), .inr (5, (fX5 (a 10) (a 11) (a 12) (a 13)))), (aI k (a 10) 10 (vv n1 see1 tm1 g1)), (aI k (a 12) 24 fp1), (aI k (a 13) 4 fl1), ((a 14), .inr (5, (fX5 (a 15) (a 16) (a 17) (a 18)))), (aI k (a 15) 10 (vv n2 see2 tm2 g2)), (aI k (a 17) 24 fp2), (aI k (a 18) 4 fl2), ((a 53), .inr (4, (fX4 (a 54) (a 55) (nI cc) (nI rz) ro sd))), (aI k (a 54) 4 wk), (aI k (a 55) 4 (nF br)), ((a 68), .inr (1, (fX1 (a 53) (a 69) (a 70) (a 71) (nI n1) p1 0 0))), (aI k (a 69) 4 (nF pb__17)), (aI k (a 70) 100 pco__17), (aI k (a 71) 16 pg)] [0, 1, 2, 3, 4, 5, 14, 15, 16, 17, 6, 7, 8, 9, 18, 19, 20, 11, 12, 13, 10] hP hD (by decide +kernel) rfl
              exact W.iret (v := (nI zp_19)) hx hb hr (fun t ht hW => ⟨⟨(nI zp_19), ((nI n1), p1, 0, 0, pb__17, pco__17), rfl, hw_17, by rw [ht]; exact hP9, hD9⟩, hS.F ht⟩) hS.2.2 dX7_parks_104
          · refine lv_aload_n hx hb dX7_parks_73 rfl (lv_at hl 1 rfl) ?_
            refine va_get (D := D) (ci := 7) (v := .ref (a 68)) (C := RX7) (T := TX7) (N := 12) hx hb hts inX7 hown hK hP 0 rfl rfl 11 (by decide) (hts _ tw_316) (fun _ h9 => h9) rfl dX7_parks_74 ?_
            refine lv_iload_n hx hb dX7_parks_77 rfl (lv_at hl 4 rfl) ?_
            refine lv_iload hx hb dX7_parks_78 (lv_at hl 0 rfl) ?_
            refine ro_i (D := D) (va_runV (As := [.int (nI ic_14), .int (nI zp_19)]) (rest := []) ⟨hx, hb, hml, hown, hts⟩ ((x_costAt l D k st lo (a 53) (a 68) (a 69) (a 70) (a 71) n1 p1 0 0 pco__17 ic_14 zp_19 (by first | assumption | omega) (by first | assumption | omega)) H.size) (cwV 2 hts (gV tw_842 tw_843 tw_844 tw_84 tw_845) rfl rfl rfl (by decide +kernel) ⟨Nat.le_of_ble_eq_true rfl, Nat.le_of_ble_eq_true rfl⟩) (pV hS hAlo hlo hP hK (va_Dlo hD hAlo) hZ [11, 13] (by decide) rfl (ci := 1) (q := (RX1, TX1, 8)) (q0 := 0) rfl rfl) rfl rfl hl.1 rfl (lv_room (Nat.le_of_ble_eq_true rfl)) dX7_parks_80 ⟨Nat.le_of_ble_eq_true rfl, Nat.le_of_ble_eq_true rfl⟩) hS hA hP (fun r_23 H locs hw_23 hP hS => ?_)
            try dsimp only at hw_23
            obtain ⟨hP9, hD9⟩ := pd_sub [((a 0), .inr (7, (fX7 (a 1) (a 3) (a 19) (a 35) (a 40) (nI rk) lfa (a 53) (a 56) (a 63) (a 64) (a 68)))), ((a 3), .inl (k 3, 3, .inr (.inr (.inr (.inr (a3 (a 4) (a 9) (a 14))))))), ((a 4), .inr (5, (fX5 (a 5) (a 6) (a 7) (a 8)))), (aI k (a 5) 10 (vv n0 see0 tm0 g0)), (aI k (a 7) 24 fp0), (aI k (a 8) 4 fl0), ((a 9), .inr (5, (fX5 (a 10) (a 11) (a 12) (a 13)))), (aI k (a 10) 10 (vv n1 see1 tm1 g1)), (aI k (a 12) 24 fp1), (aI k (a 13) 4 fl1), ((a 14), .inr (5, (fX5 (a 15) (a 16) (a 17) (a 18)))), (aI k (a 15) 10 (vv n2 see2 tm2 g2)), (aI k (a 17) 24 fp2), (aI k (a 18) 4 fl2), ((a 53), .inr (4, (fX4 (a 54) (a 55) (nI cc) (nI rz) ro sd))), (aI k (a 54) 4 wk), (aI k (a 55) 4 (nF br)), ((a 68), .inr (1, (fX1 (a 53) (a 69) (a 70) (a 71) (nI n1) p1 0 0))), (aI k (a 69) 4 (nF pb__17)), (aI k (a 70) 100 pco__17), (aI k (a 71) 16 pg)] [0, 1, 2, 3, 4, 5, 14, 15, 16, 17, 6, 7, 8, 9, 18, 19, 20, 11, 12, 13, 10] hP hD (by decide +kernel) rfl
            exact W.iret (v := r_23) hx hb hr (fun t ht hW => ⟨⟨r_23, ((nI n1), p1, 0, 0, pb__17, pco__17), rfl, hw_17, by rw [ht]; exact hP9, hD9⟩, hS.F ht⟩) hS.2.2 dX7_parks_83
        · refine lv_if_ne (tgt := 43) hx hb dX7_parks_36 (by decide) (fun h => absurd (by decide) h) (fun _ => ?_)
          refine lv_sipush (v := (-1002)) hx hb dX7_parks_39 (by decide) ?_
          obtain ⟨hP9, hD9⟩ := pd_sub [((a 0), .inr (7, (fX7 (a 1) (a 3) (a 19) (a 35) (a 40) (nI rk) lfa (a 53) (a 56) (a 63) (a 64) (a 68)))), ((a 3), .inl (k 3, 3, .inr (.inr (.inr (.inr (a3 (a 4) (a 9) (a 14))))))), ((a 4), .inr (5, (fX5 (a 5) (a 6) (a 7) (a 8)))), (aI k (a 5) 10 (vv n0 see0 tm0 g0)), (aI k (a 7) 24 fp0), (aI k (a 8) 4 fl0), ((a 9), .inr (5, (fX5 (a 10) (a 11) (a 12) (a 13)))), (aI k (a 10) 10 (vv n1 see1 tm1 g1)), (aI k (a 12) 24 fp1), (aI k (a 13) 4 fl1), ((a 14), .inr (5, (fX5 (a 15) (a 16) (a 17) (a 18)))), (aI k (a 15) 10 (vv n2 see2 tm2 g2)), (aI k (a 17) 24 fp2), (aI k (a 18) 4 fl2), ((a 53), .inr (4, (fX4 (a 54) (a 55) (nI cc) (nI rz) ro sd))), (aI k (a 54) 4 wk), (aI k (a 55) 4 (nF br)), ((a 68), .inr (1, (fX1 (a 53) (a 69) (a 70) (a 71) pn pf pd pe))), (aI k (a 69) 4 (nF pb)), (aI k (a 70) 100 pco), (aI k (a 71) 16 pg)] [0, 1, 2, 3, 4, 5, 6, 7, 8, 9, 10, 11, 12, 13, 14, 15, 16, 17, 18, 19, 20] hP hD (by decide +kernel) rfl
          exact W.iret (v := (-1002)) hx hb hr (fun t ht hW => ⟨⟨(-1002), (pn, pf, pd, pe, pb, pco), rfl, hpb, by rw [ht]; exact hP9, hD9⟩, hS.F ht⟩) hS.2.2 dX7_parks_42
      · refine lv_if_eq (tgt := 39) hx hb dX7_parks_26 (by decide) (fun _ => ?_) (fun h => absurd (by decide) h)
        refine lv_sipush (v := (-1002)) hx hb dX7_parks_39 (by decide) ?_
        obtain ⟨hP9, hD9⟩ := pd_sub [((a 0), .inr (7, (fX7 (a 1) (a 3) (a 19) (a 35) (a 40) (nI rk) lfa (a 53) (a 56) (a 63) (a 64) (a 68)))), ((a 3), .inl (k 3, 3, .inr (.inr (.inr (.inr (a3 (a 4) (a 9) (a 14))))))), ((a 4), .inr (5, (fX5 (a 5) (a 6) (a 7) (a 8)))), (aI k (a 5) 10 (vv n0 see0 tm0 g0)), (aI k (a 7) 24 fp0), (aI k (a 8) 4 fl0), ((a 9), .inr (5, (fX5 (a 10) (a 11) (a 12) (a 13)))), (aI k (a 10) 10 (vv n1 see1 tm1 g1)), (aI k (a 12) 24 fp1), (aI k (a 13) 4 fl1), ((a 14), .inr (5, (fX5 (a 15) (a 16) (a 17) (a 18)))), (aI k (a 15) 10 (vv n2 see2 tm2 g2)), (aI k (a 17) 24 fp2), (aI k (a 18) 4 fl2), ((a 53), .inr (4, (fX4 (a 54) (a 55) (nI cc) (nI rz) ro sd))), (aI k (a 54) 4 wk), (aI k (a 55) 4 (nF br)), ((a 68), .inr (1, (fX1 (a 53) (a 69) (a 70) (a 71) pn pf pd pe))), (aI k (a 69) 4 (nF pb)), (aI k (a 70) 100 pco), (aI k (a 71) 16 pg)] [0, 1, 2, 3, 4, 5, 6, 7, 8, 9, 10, 11, 12, 13, 14, 15, 16, 17, 18, 19, 20] hP hD (by decide +kernel) rfl
        exact W.iret (v := (-1002)) hx hb hr (fun t ht hW => ⟨⟨(-1002), (pn, pf, pd, pe, pb, pco), rfl, hpb, by rw [ht]; exact hP9, hD9⟩, hS.F ht⟩) hS.2.2 dX7_parks_42
    · refine lv_if_ne (tgt := 20) hx hb dX7_parks_13 (by decide) (fun h => absurd (by decide) h) (fun _ => ?_)
      refine lv_sipush (v := (-1001)) hx hb dX7_parks_16 (by decide) ?_
      obtain ⟨hP9, hD9⟩ := pd_sub [((a 0), .inr (7, (fX7 (a 1) (a 3) (a 19) (a 35) (a 40) (nI rk) lfa (a 53) (a 56) (a 63) (a 64) (a 68)))), ((a 3), .inl (k 3, 3, .inr (.inr (.inr (.inr (a3 (a 4) (a 9) (a 14))))))), ((a 4), .inr (5, (fX5 (a 5) (a 6) (a 7) (a 8)))), (aI k (a 5) 10 (vv n0 see0 tm0 g0)), (aI k (a 7) 24 fp0), (aI k (a 8) 4 fl0), ((a 9), .inr (5, (fX5 (a 10) (a 11) (a 12) (a 13)))), (aI k (a 10) 10 (vv n1 see1 tm1 g1)), (aI k (a 12) 24 fp1), (aI k (a 13) 4 fl1), ((a 14), .inr (5, (fX5 (a 15) (a 16) (a 17) (a 18)))), (aI k (a 15) 10 (vv n2 see2 tm2 g2)), (aI k (a 17) 24 fp2), (aI k (a 18) 4 fl2), ((a 53), .inr (4, (fX4 (a 54) (a 55) (nI cc) (nI rz) ro sd))), (aI k (a 54) 4 wk), (aI k (a 55) 4 (nF br)), ((a 68), .inr (1, (fX1 (a 53) (a 69) (a 70) (a 71) pn pf pd pe))), (aI k (a 69) 4 (nF pb)), (aI k (a 70) 100 pco), (aI k (a 71) 16 pg)] [0, 1, 2, 3, 4, 5, 6, 7, 8, 9, 10, 11, 12, 13, 14, 15, 16, 17, 18, 19, 20] hP hD (by decide +kernel) rfl
      exact W.iret (v := (-1001)) hx hb hr (fun t ht hW => ⟨⟨(-1001), (pn, pf, pd, pe, pb, pco), rfl, hpb, by rw [ht]; exact hP9, hD9⟩, hS.F ht⟩) hS.2.2 dX7_parks_19
  · refine lv_if_eq (tgt := 16) hx hb dX7_parks_5 (by decide) (fun h => absurd h (by decide)) (fun _ => ?_)
    refine lv_aload_n hx hb dX7_parks_8 rfl (lv_at hl 0 rfl) ?_
    refine lv_iload_n hx hb dX7_parks_9 rfl (lv_at hl 3 rfl) ?_
    refine ro_i (D := D) (va_runV (As := [.int p2]) (rest := []) ⟨hx, hb, hml, hown, hts⟩ ((x_isCar l D k st lo a rk lfa cc rz ro sd p2 (by first | assumption | omega)) H.size) (cwV 1 hts (gV tw_809 tw_811 tw_17 tw_79 tw_812) rfl rfl rfl (by decide +kernel) ⟨Nat.le_of_ble_eq_true rfl, Nat.le_of_ble_eq_true rfl⟩) (pV hS hAlo hlo hP hK (va_Dlo hD hAlo) hZ [0, 14] (by decide) rfl (ci := 7) (q := (RX7, TX7, 12)) (q0 := 0) rfl rfl) rfl rfl hl.1 rfl (lv_room (Nat.le_of_ble_eq_true rfl)) dX7_parks_10 ⟨Nat.le_of_ble_eq_true rfl, Nat.le_of_ble_eq_true rfl⟩) hS hA hP (fun r_24 H locs hw_24 hP hS => ?_)
    try dsimp only at hw_24
    rcases hw_24 with ⟨rfl, ic_25, hic_25, rfl⟩ | rfl
    · refine lv_if_ne (tgt := 20) hx hb dX7_parks_13 (by decide) (fun _ => ?_) (fun h => absurd h (by decide))
      refine lv_aload_n hx hb dX7_parks_20 rfl (lv_at hl 0 rfl) ?_
      refine lv_iload_n hx hb dX7_parks_21 rfl (lv_at hl 1 rfl) ?_
      refine lv_iload_n hx hb dX7_parks_22 rfl (lv_at hl 2 rfl) ?_
      refine ro_i (D := D) (va_runV (As := [.int 2, .int p1]) (rest := []) ⟨hx, hb, hml, hown, hts⟩ ((x_isSet_2 l D k st lo a rk lfa n2 see2 tm2 g2 p1) H.size) (cwV 2 hts (gV tw_817 tw_819 tw_18 tw_79 tw_820) rfl rfl rfl (by decide +kernel) ⟨Nat.le_of_ble_eq_true rfl, Nat.le_of_ble_eq_true rfl⟩) (pV hS hAlo hlo hP hK (va_Dlo hD hAlo) hZ [0, 1, 10, 11] (by decide) rfl (ci := 7) (q := (RX7, TX7, 12)) (q0 := 0) rfl rfl) rfl rfl hl.1 rfl (lv_room (Nat.le_of_ble_eq_true rfl)) dX7_parks_23 ⟨Nat.le_of_ble_eq_true rfl, Nat.le_of_ble_eq_true rfl⟩) hS hA hP (fun r_26 H locs hw_26 hP hS => ?_)
      try dsimp only at hw_26
      rcases hw_26 with rfl | rfl
      · refine lv_if_eq (tgt := 39) hx hb dX7_parks_26 (by decide) (fun h => absurd h (by decide)) (fun _ => ?_)
        refine lv_iload hx hb dX7_parks_29 (lv_at hl 4 rfl) ?_
        refine lv_iconst (v := 0) hx hb dX7_parks_31 (by decide) ?_
        refine lv_iconst (v := 1) hx hb dX7_parks_32 (by decide) ?_
        refine ro_i (D := D) (va_runS (As := [.int p3, .int 0, .int 1]) (rest := []) ⟨hx, hb, hml, hown, hts⟩ ((k_isIn l D k st lo p3 0 1) H.size) (va_cwS 3 hts (gS tw_593 tw_594 tw_79 tw_595) rfl rfl rfl (by decide +kernel) ⟨Nat.le_of_ble_eq_true rfl, Nat.le_of_ble_eq_true rfl⟩) (pS hS hAlo hlo hP hK (va_Dlo hD hAlo) hZ [] (by decide) rfl) rfl rfl hl.1 rfl (lv_room (Nat.le_of_ble_eq_true rfl)) dX7_parks_33 ⟨Nat.le_of_ble_eq_true rfl, Nat.le_of_ble_eq_true rfl⟩) hS hA hP (fun r_27 H locs hw_27 hP hS => ?_)
        try dsimp only at hw_27
        rcases hw_27 with ⟨rfl, hw_27⟩ | ⟨rfl, hw_27⟩
        · refine lv_if_ne (tgt := 43) hx hb dX7_parks_36 (by decide) (fun _ => ?_) (fun h => absurd h (by decide))
          refine lv_aload_n hx hb dX7_parks_43 rfl (lv_at hl 0 rfl) ?_
          refine va_get (D := D) (ci := 7) (v := .ref (a 68)) (C := RX7) (T := TX7) (N := 12) hx hb hts inX7 hown hK hP 0 rfl rfl 11 (by decide) (hts _ tw_316) (fun _ h9 => h9) rfl dX7_parks_44 ?_
          refine lv_aload_n hx hb dX7_parks_47 rfl (lv_at hl 0 rfl) ?_
          refine va_get (D := D) (ci := 7) (v := .ref (a 3)) (C := RX7) (T := TX7) (N := 12) hx hb hts inX7 hown hK hP 0 rfl rfl 1 (by decide) (hts _ tw_306) (fun _ h9 => h9) rfl dX7_parks_48 ?_
          refine lv_iload_n hx hb dX7_parks_51 rfl (lv_at hl 1 rfl) ?_
          refine va_aldq hx hb hK hP 1 3 rfl rfl (by unfold vp_in; decide) dX7_parks_52 ?_
          refine lv_tr (y := .ref (a 14)) rfl ?_
          refine lv_iload_n hx hb dX7_parks_53 rfl (lv_at hl 2 rfl) ?_
          refine rw_v (D := D) (wr := [((a 0), .inr (7, (fX7 (a 1) (a 3) (a 19) (a 35) (a 40) (nI rk) lfa (a 53) (a 56) (a 63) (a 64) (a 68)))), ((a 3), .inl (k 3, 3, .inr (.inr (.inr (.inr (a3 (a 4) (a 9) (a 14))))))), ((a 4), .inr (5, (fX5 (a 5) (a 6) (a 7) (a 8)))), (aI k (a 5) 10 (vv n0 see0 tm0 g0)), (aI k (a 7) 24 fp0), (aI k (a 8) 4 fl0), ((a 9), .inr (5, (fX5 (a 10) (a 11) (a 12) (a 13)))), (aI k (a 10) 10 (vv n1 see1 tm1 g1)), (aI k (a 12) 24 fp1), (aI k (a 13) 4 fl1), (aI k (a 71) 16 pg)]) (va_runV (As := [.ref (a 14), .int p1]) (rest := []) ⟨hx, hb, hml, hown, hts⟩ ((x_comeTo l D k st lo (a 53) (a 68) (a 69) (a 70) (a 71) pn pf pd pe pb pco (a 14) (a 15) (a 16) (a 17) (a 18) n2 see2 tm2 g2 fp2 fl2 (a 54) (a 55) cc rz ro sd wk br p1 (by first | assumption | omega) (by first | assumption | omega) hbr hpb) H.size) (cwV 2 hts (gV tw_821 tw_822 tw_823 tw_84 tw_824) rfl rfl rfl (by decide +kernel) ⟨Nat.le_of_ble_eq_true rfl, Nat.le_of_ble_eq_true rfl⟩) (pV hS hAlo hlo hP hK (va_Dlo hD hAlo) hZ [17, 18, 19, 10, 11, 12, 13, 14, 15, 16] (by decide +kernel) rfl (ci := 1) (q := (RX1, TX1, 8)) (q0 := 0) rfl rfl) rfl rfl hl.1 rfl (lv_room (Nat.le_of_ble_eq_true rfl)) dX7_parks_54 ⟨Nat.le_of_ble_eq_true rfl, Nat.le_of_ble_eq_true rfl⟩) hS hA hP hD [17, 18, 19, 10, 11, 12, 13, 14, 15, 16] [0, 1, 2, 3, 4, 5, 6, 7, 8, 9, 20] rfl rfl (by decide +kernel) (by decide +kernel) (fun u H locs hw_28 hP hD hS => ?_)
          obtain ⟨pb__28, pco__28⟩ := u
          have hQ9 := pd_mk [((a 0), .inr (7, (fX7 (a 1) (a 3) (a 19) (a 35) (a 40) (nI rk) lfa (a 53) (a 56) (a 63) (a 64) (a 68)))), ((a 3), .inl (k 3, 3, .inr (.inr (.inr (.inr (a3 (a 4) (a 9) (a 14))))))), ((a 4), .inr (5, (fX5 (a 5) (a 6) (a 7) (a 8)))), (aI k (a 5) 10 (vv n0 see0 tm0 g0)), (aI k (a 7) 24 fp0), (aI k (a 8) 4 fl0), ((a 9), .inr (5, (fX5 (a 10) (a 11) (a 12) (a 13)))), (aI k (a 10) 10 (vv n1 see1 tm1 g1)), (aI k (a 12) 24 fp1), (aI k (a 13) 4 fl1), (aI k (a 71) 16 pg), ((a 68), .inr (1, (fX1 (a 53) (a 69) (a 70) (a 71) (nI n2) p1 0 0))), (aI k (a 69) 4 (nF pb__28)), (aI k (a 70) 100 pco__28), ((a 14), .inr (5, (fX5 (a 15) (a 16) (a 17) (a 18)))), (aI k (a 15) 10 (vv n2 see2 tm2 g2)), (aI k (a 17) 24 fp2), (aI k (a 18) 4 fl2), ((a 53), .inr (4, (fX4 (a 54) (a 55) (nI cc) (nI rz) ro sd))), (aI k (a 54) 4 wk), (aI k (a 55) 4 (nF br))] hP hD
          clear hP hD
          obtain ⟨hP, hD⟩ := hQ9
          try dsimp only at hw_28
          refine lv_aload_n hx hb dX7_parks_57 rfl (lv_at hl 0 rfl) ?_
          refine va_get (D := D) (ci := 7) (v := .ref (a 68)) (C := RX7) (T := TX7) (N := 12) hx hb hts inX7 hown hK hP 0 rfl rfl 11 (by decide) (hts _ tw_316) (fun _ h9 => h9) rfl dX7_parks_58 ?_
          refine lv_iload_n hx hb dX7_parks_61 rfl (lv_at hl 3 rfl) ?_
          refine ro_i (D := D) (va_runV (As := [.int (nI ic_25)]) (rest := []) ⟨hx, hb, hml, hown, hts⟩ ((x_placeOf l D k st lo (a 53) (a 68) (a 69) (a 70) (a 71) n2 p1 0 0 pb__28 ic_25 (by first | assumption | omega) (by first | assumption | omega) hw_28) H.size) (cwV 1 hts (gV tw_830 tw_831 tw_832 tw_84 tw_833) rfl rfl rfl (by decide +kernel) ⟨Nat.le_of_ble_eq_true rfl, Nat.le_of_ble_eq_true rfl⟩) (pV hS hAlo hlo hP hK (va_Dlo hD hAlo) hZ [11, 12] (by decide) rfl (ci := 1) (q := (RX1, TX1, 8)) (q0 := 0) rfl rfl) rfl rfl hl.1 rfl (lv_room (Nat.le_of_ble_eq_true rfl)) dX7_parks_62 ⟨Nat.le_of_ble_eq_true rfl, Nat.le_of_ble_eq_true rfl⟩) hS hA hP (fun r_29 H locs hw_29 hP hS => ?_)
          try dsimp only at hw_29
          obtain ⟨zp_30, hzp_30, rfl⟩ := hw_29
          refine lv_istore (lv' := [(5, .int (nI zp_30)), (0, .ref (a 0)), (1, .int 2), (2, .int p1), (3, .int (nI ic_25)), (4, .int p3)]) hx hb dX7_parks_65 hl (by decide) rfl (fun ls hl => ?_)
          refine lv_iload hx hb dX7_parks_67 (lv_at hl 5 rfl) ?_
          refine lv_iconst (v := 1) hx hb dX7_parks_69 (by decide) ?_
          refine lv_icmp_ne (tgt := 84) hx hb dX7_parks_70 (by decide) (fun c_31 => ?_) (fun c_31 => ?_)
          · refine lv_iload hx hb dX7_parks_84 (lv_at hl 0 rfl) ?_
            refine lv_aload_n hx hb dX7_parks_86 rfl (lv_at hl 1 rfl) ?_
            refine va_get (D := D) (ci := 7) (v := .ref (a 3)) (C := RX7) (T := TX7) (N := 12) hx hb hts inX7 hown hK hP 0 rfl rfl 1 (by decide) (hts _ tw_306) (fun _ h9 => h9) rfl dX7_parks_87 ?_
            refine lv_iload_n hx hb dX7_parks_90 rfl (lv_at hl 2 rfl) ?_
            refine va_aldq hx hb hK hP 1 3 rfl rfl (by unfold vp_in; decide) dX7_parks_91 ?_
            refine lv_tr (y := .ref (a 14)) rfl ?_
            refine ro_i (D := D) (va_runV (As := []) (rest := [.int (nI zp_30)]) ⟨hx, hb, hml, hown, hts⟩ ((x_doors l D k st lo (a 14) (a 15) (a 16) (a 17) (a 18) n2 see2 tm2 g2) H.size) (cwV 0 hts (gV tw_580 tw_478 tw_479 tw_81 tw_480) rfl rfl rfl (by decide +kernel) ⟨Nat.le_of_ble_eq_true rfl, Nat.le_of_ble_eq_true rfl⟩) (pV hS hAlo hlo hP hK (va_Dlo hD hAlo) hZ [14, 15] (by decide) rfl (ci := 5) (q := (RX5, TX5, 4)) (q0 := 0) rfl rfl) rfl rfl hl.1 rfl (lv_room (Nat.le_of_ble_eq_true rfl)) dX7_parks_92 ⟨Nat.le_of_ble_eq_true rfl, Nat.le_of_ble_eq_true rfl⟩) hS hA hP (fun r_32 H locs hw_32 hP hS => ?_)
            try dsimp only at hw_32
            subst hw_32
            refine lv_icmp_ge (tgt := 103) hx hb dX7_parks_95 (by decide) (fun c_33 => ?_) (fun c_33 => ?_)
            · have c_33 := (nI_leI (a := n2) (b := zp_30) (by omega) (by omega)).mp c_33
              refine lv_iconst (v := (-1)) hx hb dX7_parks_103 (by decide) ?_
              obtain ⟨hP9, hD9⟩ := pd_sub [((a 0), .inr (7, (fX7 (a 1) (a 3) (a 19) (a 35) (a 40) (nI rk) lfa (a 53) (a 56) (a 63) (a 64) (a 68)))), ((a 3), .inl (k 3, 3, .inr (.inr (.inr (.inr (a3 (a 4) (a 9) (a 14))))))), ((a 4), .inr (5, (fX5 (a 5) (a 6) (a 7) (a 8)))), (aI k (a 5) 10 (vv n0 see0 tm0 g0)), (aI k (a 7) 24 fp0), (aI k (a 8) 4 fl0), ((a 9), .inr (5, (fX5 (a 10) (a 11) (a 12) (a 13)))), (aI k (a 10) 10 (vv n1 see1 tm1 g1)), (aI k (a 12) 24 fp1), (aI k (a 13) 4 fl1), ((a 14), .inr (5, (fX5 (a 15) (a 16) (a 17) (a 18)))), (aI k (a 15) 10 (vv n2 see2 tm2 g2)), (aI k (a 17) 24 fp2), (aI k (a 18) 4 fl2), ((a 53), .inr (4, (fX4 (a 54) (a 55) (nI cc) (nI rz) ro sd))), (aI k (a 54) 4 wk), (aI k (a 55) 4 (nF br)), ((a 68), .inr (1, (fX1 (a 53) (a 69) (a 70) (a 71) (nI n2) p1 0 0))), (aI k (a 69) 4 (nF pb__28)), (aI k (a 70) 100 pco__28), (aI k (a 71) 16 pg)] [0, 1, 2, 3, 4, 5, 6, 7, 8, 9, 14, 15, 16, 17, 18, 19, 20, 11, 12, 13, 10] hP hD (by decide +kernel) rfl
              exact W.iret (v := (-1)) hx hb hr (fun t ht hW => ⟨⟨(-1), ((nI n2), p1, 0, 0, pb__28, pco__28), rfl, hw_28, by rw [ht]; exact hP9, hD9⟩, hS.F ht⟩) hS.2.2 dX7_parks_104
            · have c_33 : ¬ (n2 ≤ zp_30) := fun h => c_33 ((nI_leI (a := n2) (b := zp_30) (by omega) (by omega)).mpr h)
              refine lv_iload hx hb dX7_parks_98 (lv_at hl 0 rfl) ?_
              refine lv_goto (tgt := 104) hx hb dX7_parks_100 (by decide) ?_
              obtain ⟨hP9, hD9⟩ := pd_sub [((a 0), .inr (7, (fX7 (a 1) (a 3) (a 19) (a 35) (a 40) (nI rk) lfa (a 53) (a 56) (a 63) (a 64) (a 68)))), ((a 3), .inl (k 3, 3, .inr (.inr (.inr (.inr (a3 (a 4) (a 9) (a 14))))))), ((a 4), .inr (5, (fX5 (a 5) (a 6) (a 7) (a 8)))), (aI k (a 5) 10 (vv n0 see0 tm0 g0)), (aI k (a 7) 24 fp0), (aI k (a 8) 4 fl0), ((a 9), .inr (5, (fX5 (a 10) (a 11) (a 12) (a 13)))), (aI k (a 10) 10 (vv n1 see1 tm1 g1)), (aI k (a 12) 24 fp1), (aI k (a 13) 4 fl1), ((a 14), .inr (5, (fX5 (a 15) (a 16) (a 17) (a 18)))), (aI k (a 15) 10 (vv n2 see2 tm2 g2)), (aI k (a 17) 24 fp2), (aI k (a 18) 4 fl2), ((a 53), .inr (4, (fX4 (a 54) (a 55) (nI cc) (nI rz) ro sd))), (aI k (a 54) 4 wk), (aI k (a 55) 4 (nF br)), ((a 68), .inr (1, (fX1 (a 53) (a 69) (a 70) (a 71) (nI n2) p1 0 0))), (aI k (a 69) 4 (nF pb__28)), (aI k (a 70) 100 pco__28), (aI k (a 71) 16 pg)] [0, 1, 2, 3, 4, 5, 6, 7, 8, 9, 14, 15, 16, 17, 18, 19, 20, 11, 12, 13, 10] hP hD (by decide +kernel) rfl
              exact W.iret (v := (nI zp_30)) hx hb hr (fun t ht hW => ⟨⟨(nI zp_30), ((nI n2), p1, 0, 0, pb__28, pco__28), rfl, hw_28, by rw [ht]; exact hP9, hD9⟩, hS.F ht⟩) hS.2.2 dX7_parks_104
          · refine lv_aload_n hx hb dX7_parks_73 rfl (lv_at hl 1 rfl) ?_
            refine va_get (D := D) (ci := 7) (v := .ref (a 68)) (C := RX7) (T := TX7) (N := 12) hx hb hts inX7 hown hK hP 0 rfl rfl 11 (by decide) (hts _ tw_316) (fun _ h9 => h9) rfl dX7_parks_74 ?_
            refine lv_iload_n hx hb dX7_parks_77 rfl (lv_at hl 4 rfl) ?_
            refine lv_iload hx hb dX7_parks_78 (lv_at hl 0 rfl) ?_
            refine ro_i (D := D) (va_runV (As := [.int (nI ic_25), .int (nI zp_30)]) (rest := []) ⟨hx, hb, hml, hown, hts⟩ ((x_costAt l D k st lo (a 53) (a 68) (a 69) (a 70) (a 71) n2 p1 0 0 pco__28 ic_25 zp_30 (by first | assumption | omega) (by first | assumption | omega)) H.size) (cwV 2 hts (gV tw_842 tw_843 tw_844 tw_84 tw_845) rfl rfl rfl (by decide +kernel) ⟨Nat.le_of_ble_eq_true rfl, Nat.le_of_ble_eq_true rfl⟩) (pV hS hAlo hlo hP hK (va_Dlo hD hAlo) hZ [11, 13] (by decide) rfl (ci := 1) (q := (RX1, TX1, 8)) (q0 := 0) rfl rfl) rfl rfl hl.1 rfl (lv_room (Nat.le_of_ble_eq_true rfl)) dX7_parks_80 ⟨Nat.le_of_ble_eq_true rfl, Nat.le_of_ble_eq_true rfl⟩) hS hA hP (fun r_34 H locs hw_34 hP hS => ?_)
            try dsimp only at hw_34
            obtain ⟨hP9, hD9⟩ := pd_sub [((a 0), .inr (7, (fX7 (a 1) (a 3) (a 19) (a 35) (a 40) (nI rk) lfa (a 53) (a 56) (a 63) (a 64) (a 68)))), ((a 3), .inl (k 3, 3, .inr (.inr (.inr (.inr (a3 (a 4) (a 9) (a 14))))))), ((a 4), .inr (5, (fX5 (a 5) (a 6) (a 7) (a 8)))), (aI k (a 5) 10 (vv n0 see0 tm0 g0)), (aI k (a 7) 24 fp0), (aI k (a 8) 4 fl0), ((a 9), .inr (5, (fX5 (a 10) (a 11) (a 12) (a 13)))), (aI k (a 10) 10 (vv n1 see1 tm1 g1)), (aI k (a 12) 24 fp1), (aI k (a 13) 4 fl1), ((a 14), .inr (5, (fX5 (a 15) (a 16) (a 17) (a 18)))), (aI k (a 15) 10 (vv n2 see2 tm2 g2)), (aI k (a 17) 24 fp2), (aI k (a 18) 4 fl2), ((a 53), .inr (4, (fX4 (a 54) (a 55) (nI cc) (nI rz) ro sd))), (aI k (a 54) 4 wk), (aI k (a 55) 4 (nF br)), ((a 68), .inr (1, (fX1 (a 53) (a 69) (a 70) (a 71) (nI n2) p1 0 0))), (aI k (a 69) 4 (nF pb__28)), (aI k (a 70) 100 pco__28), (aI k (a 71) 16 pg)] [0, 1, 2, 3, 4, 5, 6, 7, 8, 9, 14, 15, 16, 17, 18, 19, 20, 11, 12, 13, 10] hP hD (by decide +kernel) rfl
            exact W.iret (v := r_34) hx hb hr (fun t ht hW => ⟨⟨r_34, ((nI n2), p1, 0, 0, pb__28, pco__28), rfl, hw_28, by rw [ht]; exact hP9, hD9⟩, hS.F ht⟩) hS.2.2 dX7_parks_83
        · refine lv_if_ne (tgt := 43) hx hb dX7_parks_36 (by decide) (fun h => absurd (by decide) h) (fun _ => ?_)
          refine lv_sipush (v := (-1002)) hx hb dX7_parks_39 (by decide) ?_
          obtain ⟨hP9, hD9⟩ := pd_sub [((a 0), .inr (7, (fX7 (a 1) (a 3) (a 19) (a 35) (a 40) (nI rk) lfa (a 53) (a 56) (a 63) (a 64) (a 68)))), ((a 3), .inl (k 3, 3, .inr (.inr (.inr (.inr (a3 (a 4) (a 9) (a 14))))))), ((a 4), .inr (5, (fX5 (a 5) (a 6) (a 7) (a 8)))), (aI k (a 5) 10 (vv n0 see0 tm0 g0)), (aI k (a 7) 24 fp0), (aI k (a 8) 4 fl0), ((a 9), .inr (5, (fX5 (a 10) (a 11) (a 12) (a 13)))), (aI k (a 10) 10 (vv n1 see1 tm1 g1)), (aI k (a 12) 24 fp1), (aI k (a 13) 4 fl1), ((a 14), .inr (5, (fX5 (a 15) (a 16) (a 17) (a 18)))), (aI k (a 15) 10 (vv n2 see2 tm2 g2)), (aI k (a 17) 24 fp2), (aI k (a 18) 4 fl2), ((a 53), .inr (4, (fX4 (a 54) (a 55) (nI cc) (nI rz) ro sd))), (aI k (a 54) 4 wk), (aI k (a 55) 4 (nF br)), ((a 68), .inr (1, (fX1 (a 53) (a 69) (a 70) (a 71) pn pf pd pe))), (aI k (a 69) 4 (nF pb)), (aI k (a 70) 100 pco), (aI k (a 71) 16 pg)] [0, 1, 2, 3, 4, 5, 6, 7, 8, 9, 10, 11, 12, 13, 14, 15, 16, 17, 18, 19, 20] hP hD (by decide +kernel) rfl
          exact W.iret (v := (-1002)) hx hb hr (fun t ht hW => ⟨⟨(-1002), (pn, pf, pd, pe, pb, pco), rfl, hpb, by rw [ht]; exact hP9, hD9⟩, hS.F ht⟩) hS.2.2 dX7_parks_42
      · refine lv_if_eq (tgt := 39) hx hb dX7_parks_26 (by decide) (fun _ => ?_) (fun h => absurd (by decide) h)
        refine lv_sipush (v := (-1002)) hx hb dX7_parks_39 (by decide) ?_
        obtain ⟨hP9, hD9⟩ := pd_sub [((a 0), .inr (7, (fX7 (a 1) (a 3) (a 19) (a 35) (a 40) (nI rk) lfa (a 53) (a 56) (a 63) (a 64) (a 68)))), ((a 3), .inl (k 3, 3, .inr (.inr (.inr (.inr (a3 (a 4) (a 9) (a 14))))))), ((a 4), .inr (5, (fX5 (a 5) (a 6) (a 7) (a 8)))), (aI k (a 5) 10 (vv n0 see0 tm0 g0)), (aI k (a 7) 24 fp0), (aI k (a 8) 4 fl0), ((a 9), .inr (5, (fX5 (a 10) (a 11) (a 12) (a 13)))), (aI k (a 10) 10 (vv n1 see1 tm1 g1)), (aI k (a 12) 24 fp1), (aI k (a 13) 4 fl1), ((a 14), .inr (5, (fX5 (a 15) (a 16) (a 17) (a 18)))), (aI k (a 15) 10 (vv n2 see2 tm2 g2)), (aI k (a 17) 24 fp2), (aI k (a 18) 4 fl2), ((a 53), .inr (4, (fX4 (a 54) (a 55) (nI cc) (nI rz) ro sd))), (aI k (a 54) 4 wk), (aI k (a 55) 4 (nF br)), ((a 68), .inr (1, (fX1 (a 53) (a 69) (a 70) (a 71) pn pf pd pe))), (aI k (a 69) 4 (nF pb)), (aI k (a 70) 100 pco), (aI k (a 71) 16 pg)] [0, 1, 2, 3, 4, 5, 6, 7, 8, 9, 10, 11, 12, 13, 14, 15, 16, 17, 18, 19, 20] hP hD (by decide +kernel) rfl
        exact W.iret (v := (-1002)) hx hb hr (fun t ht hW => ⟨⟨(-1002), (pn, pf, pd, pe, pb, pco), rfl, hpb, by rw [ht]; exact hP9, hD9⟩, hS.F ht⟩) hS.2.2 dX7_parks_42
    · refine lv_if_ne (tgt := 20) hx hb dX7_parks_13 (by decide) (fun h => absurd (by decide) h) (fun _ => ?_)
      refine lv_sipush (v := (-1001)) hx hb dX7_parks_16 (by decide) ?_
      obtain ⟨hP9, hD9⟩ := pd_sub [((a 0), .inr (7, (fX7 (a 1) (a 3) (a 19) (a 35) (a 40) (nI rk) lfa (a 53) (a 56) (a 63) (a 64) (a 68)))), ((a 3), .inl (k 3, 3, .inr (.inr (.inr (.inr (a3 (a 4) (a 9) (a 14))))))), ((a 4), .inr (5, (fX5 (a 5) (a 6) (a 7) (a 8)))), (aI k (a 5) 10 (vv n0 see0 tm0 g0)), (aI k (a 7) 24 fp0), (aI k (a 8) 4 fl0), ((a 9), .inr (5, (fX5 (a 10) (a 11) (a 12) (a 13)))), (aI k (a 10) 10 (vv n1 see1 tm1 g1)), (aI k (a 12) 24 fp1), (aI k (a 13) 4 fl1), ((a 14), .inr (5, (fX5 (a 15) (a 16) (a 17) (a 18)))), (aI k (a 15) 10 (vv n2 see2 tm2 g2)), (aI k (a 17) 24 fp2), (aI k (a 18) 4 fl2), ((a 53), .inr (4, (fX4 (a 54) (a 55) (nI cc) (nI rz) ro sd))), (aI k (a 54) 4 wk), (aI k (a 55) 4 (nF br)), ((a 68), .inr (1, (fX1 (a 53) (a 69) (a 70) (a 71) pn pf pd pe))), (aI k (a 69) 4 (nF pb)), (aI k (a 70) 100 pco), (aI k (a 71) 16 pg)] [0, 1, 2, 3, 4, 5, 6, 7, 8, 9, 10, 11, 12, 13, 14, 15, 16, 17, 18, 19, 20] hP hD (by decide +kernel) rfl
      exact W.iret (v := (-1001)) hx hb hr (fun t ht hW => ⟨⟨(-1001), (pn, pf, pd, pe, pb, pco), rfl, hpb, by rw [ht]; exact hP9, hD9⟩, hS.F ht⟩) hS.2.2 dX7_parks_19
  · refine lv_if_eq (tgt := 16) hx hb dX7_parks_5 (by decide) (fun _ => ?_) (fun h => absurd (by decide) h)
    refine lv_sipush (v := (-1001)) hx hb dX7_parks_16 (by decide) ?_
    obtain ⟨hP9, hD9⟩ := pd_sub [((a 0), .inr (7, (fX7 (a 1) (a 3) (a 19) (a 35) (a 40) (nI rk) lfa (a 53) (a 56) (a 63) (a 64) (a 68)))), ((a 3), .inl (k 3, 3, .inr (.inr (.inr (.inr (a3 (a 4) (a 9) (a 14))))))), ((a 4), .inr (5, (fX5 (a 5) (a 6) (a 7) (a 8)))), (aI k (a 5) 10 (vv n0 see0 tm0 g0)), (aI k (a 7) 24 fp0), (aI k (a 8) 4 fl0), ((a 9), .inr (5, (fX5 (a 10) (a 11) (a 12) (a 13)))), (aI k (a 10) 10 (vv n1 see1 tm1 g1)), (aI k (a 12) 24 fp1), (aI k (a 13) 4 fl1), ((a 14), .inr (5, (fX5 (a 15) (a 16) (a 17) (a 18)))), (aI k (a 15) 10 (vv n2 see2 tm2 g2)), (aI k (a 17) 24 fp2), (aI k (a 18) 4 fl2), ((a 53), .inr (4, (fX4 (a 54) (a 55) (nI cc) (nI rz) ro sd))), (aI k (a 54) 4 wk), (aI k (a 55) 4 (nF br)), ((a 68), .inr (1, (fX1 (a 53) (a 69) (a 70) (a 71) pn pf pd pe))), (aI k (a 69) 4 (nF pb)), (aI k (a 70) 100 pco), (aI k (a 71) 16 pg)] [0, 1, 2, 3, 4, 5, 6, 7, 8, 9, 10, 11, 12, 13, 14, 15, 16, 17, 18, 19, 20] hP hD (by decide +kernel) rfl
    exact W.iret (v := (-1001)) hx hb hr (fun t ht hW => ⟨⟨(-1001), (pn, pf, pd, pe, pb, pco), rfl, hpb, by rw [ht]; exact hP9, hD9⟩, hS.F ht⟩) hS.2.2 dX7_parks_19

theorem dX7_rests_0 : decode cX7_rests 0 = .ok (.aload_n 0, 1) := by decide +kernel
theorem dX7_rests_1 : decode cX7_rests 1 = .ok (.iload_n 1, 1) := by decide +kernel
theorem dX7_rests_2 : decode cX7_rests 2 = .ok (.iload_n 2, 1) := by decide +kernel
theorem dX7_rests_3 : decode cX7_rests 3 = .ok (.invokevirtual 239, 3) := by decide +kernel
theorem dX7_rests_6 : decode cX7_rests 6 = .ok (.istore_n 3, 1) := by decide +kernel
theorem dX7_rests_7 : decode cX7_rests 7 = .ok (.iload_n 3, 1) := by decide +kernel
theorem dX7_rests_8 : decode cX7_rests 8 = .ok (.ifCond .eq 5, 3) := by decide +kernel
theorem dX7_rests_11 : decode cX7_rests 11 = .ok (.iload_n 3, 1) := by decide +kernel
theorem dX7_rests_12 : decode cX7_rests 12 = .ok (.ireturn, 1) := by decide +kernel
theorem dX7_rests_13 : decode cX7_rests 13 = .ok (.aload_n 0, 1) := by decide +kernel
theorem dX7_rests_14 : decode cX7_rests 14 = .ok (.getfield 73, 3) := by decide +kernel
theorem dX7_rests_17 : decode cX7_rests 17 = .ok (.aload_n 0, 1) := by decide +kernel
theorem dX7_rests_18 : decode cX7_rests 18 = .ok (.getfield 18, 3) := by decide +kernel
theorem dX7_rests_21 : decode cX7_rests 21 = .ok (.iload_n 1, 1) := by decide +kernel
theorem dX7_rests_22 : decode cX7_rests 22 = .ok (.aaload, 1) := by decide +kernel
theorem dX7_rests_23 : decode cX7_rests 23 = .ok (.iload_n 2, 1) := by decide +kernel
theorem dX7_rests_24 : decode cX7_rests 24 = .ok (.invokevirtual 229, 3) := by decide +kernel
theorem dX7_rests_27 : decode cX7_rests 27 = .ok (.aload_n 0, 1) := by decide +kernel
theorem dX7_rests_28 : decode cX7_rests 28 = .ok (.getfield 73, 3) := by decide +kernel
theorem dX7_rests_31 : decode cX7_rests 31 = .ok (.invokevirtual 242, 3) := by decide +kernel
theorem dX7_rests_34 : decode cX7_rests 34 = .ok (.ifCond .eq 7, 3) := by decide +kernel
theorem dX7_rests_37 : decode cX7_rests 37 = .ok (.iconst 1, 1) := by decide +kernel
theorem dX7_rests_38 : decode cX7_rests 38 = .ok (.goto 4, 3) := by decide +kernel
theorem dX7_rests_41 : decode cX7_rests 41 = .ok (.iconst 0, 1) := by decide +kernel
theorem dX7_rests_42 : decode cX7_rests 42 = .ok (.ireturn, 1) := by decide +kernel
set_option maxHeartbeats 4000000 in
set_option maxRecDepth 100000 in
theorem x_rests (l : Launch) (D : va_G) (k : Nat → ClassId) (st : Nat → Nat) (lo : Nat) (a : Nat → Nat) (rk : Nat) (lfa : Int32) (n0 : Nat) (see0 : Nat) (tm0 : Nat) (g0 : Nat → Int32) (fp0 : Nat → Int32) (fl0 : Nat → Int32) (n1 : Nat) (see1 : Nat) (tm1 : Nat) (g1 : Nat → Int32) (fp1 : Nat → Int32) (fl1 : Nat → Int32) (n2 : Nat) (see2 : Nat) (tm2 : Nat) (g2 : Nat → Int32) (fp2 : Nat → Int32) (fl2 : Nat → Int32) (cc : Nat) (rz : Nat) (ro : Int32) (sd : Int32) (wk : Nat → Int32) (br : Nat → Nat) (pn : Int32) (pf : Int32) (pd : Int32) (pe : Int32) (pb : Nat → Nat) (pco : Nat → Int32) (pg : Nat → Int32) (p0 : Int32) (p1 : Int32) (hn0 : n0 ≤ 24) (hse0 : see0 ≤ 2) (htm0 : tm0 ≤ 3) (hn1 : n1 ≤ 24) (hse1 : see1 ≤ 2) (htm1 : tm1 ≤ 3) (hn2 : n2 ≤ 24) (hse2 : see2 ≤ 2) (htm2 : tm2 ≤ 3) (hcc : cc ≤ 4) (hbr : ∀ j, br j ≤ 24) (hpb : ∀ j, pb j ≤ 24) : CWi l D k st lo yX7_rests cX7_rests 4 (some .int) ({ frames := 4, cells := 0, slots := 0, locals := 95 }) 0 0 [.ref (a 0), .int p0, .int p1] [((a 0), .inr (7, (fX7 (a 1) (a 3) (a 19) (a 35) (a 40) (nI rk) lfa (a 53) (a 56) (a 63) (a 64) (a 68)))), ((a 3), .inl (k 3, 3, .inr (.inr (.inr (.inr (a3 (a 4) (a 9) (a 14))))))), ((a 4), .inr (5, (fX5 (a 5) (a 6) (a 7) (a 8)))), (aI k (a 5) 10 (vv n0 see0 tm0 g0)), (aI k (a 7) 24 fp0), (aI k (a 8) 4 fl0), ((a 9), .inr (5, (fX5 (a 10) (a 11) (a 12) (a 13)))), (aI k (a 10) 10 (vv n1 see1 tm1 g1)), (aI k (a 12) 24 fp1), (aI k (a 13) 4 fl1), ((a 14), .inr (5, (fX5 (a 15) (a 16) (a 17) (a 18)))), (aI k (a 15) 10 (vv n2 see2 tm2 g2)), (aI k (a 17) 24 fp2), (aI k (a 18) 4 fl2), ((a 53), .inr (4, (fX4 (a 54) (a 55) (nI cc) (nI rz) ro sd))), (aI k (a 54) 4 wk), (aI k (a 55) 4 (nF br)), ((a 68), .inr (1, (fX1 (a 53) (a 69) (a 70) (a 71) pn pf pd pe))), (aI k (a 69) 4 (nF pb)), (aI k (a 70) 100 pco), (aI k (a 71) 16 pg)] (fun (r : Int32) (u : Int32 × Int32 × Int32 × Int32 × (Nat → Nat) × (Nat → Int32)) => match u with | (pn_, pf_, pd_, pe_, pb_, pco_) => ∀ j, pb_ j ≤ 24) (fun (u : Int32 × Int32 × Int32 × Int32 × (Nat → Nat) × (Nat → Int32)) => match u with | (pn_, pf_, pd_, pe_, pb_, pco_) => [((a 0), .inr (7, (fX7 (a 1) (a 3) (a 19) (a 35) (a 40) (nI rk) lfa (a 53) (a 56) (a 63) (a 64) (a 68)))), ((a 3), .inl (k 3, 3, .inr (.inr (.inr (.inr (a3 (a 4) (a 9) (a 14))))))), ((a 4), .inr (5, (fX5 (a 5) (a 6) (a 7) (a 8)))), (aI k (a 5) 10 (vv n0 see0 tm0 g0)), (aI k (a 7) 24 fp0), (aI k (a 8) 4 fl0), ((a 9), .inr (5, (fX5 (a 10) (a 11) (a 12) (a 13)))), (aI k (a 10) 10 (vv n1 see1 tm1 g1)), (aI k (a 12) 24 fp1), (aI k (a 13) 4 fl1), ((a 14), .inr (5, (fX5 (a 15) (a 16) (a 17) (a 18)))), (aI k (a 15) 10 (vv n2 see2 tm2 g2)), (aI k (a 17) 24 fp2), (aI k (a 18) 4 fl2), ((a 53), .inr (4, (fX4 (a 54) (a 55) (nI cc) (nI rz) ro sd))), (aI k (a 54) 4 wk), (aI k (a 55) 4 (nF br)), ((a 68), .inr (1, (fX1 (a 53) (a 69) (a 70) (a 71) pn_ pf_ pd_ pe_))), (aI k (a 69) 4 (nF pb_)), (aI k (a 70) 100 pco_), (aI k (a 71) 16 pg)]) := by
  intro sz
  refine Met.ofW (cc := cX7_rests) (maxL := 4) (ret := (some .int)) (by decide) rfl ?_
  intro p e s m args below meth c s₁ B hml hv
  obtain ⟨rfl, hsz, hlo, hP, hK, hDL, hZ⟩ := hv
  have hx := B.exec
  have hb := B.bytes
  have hr := B.returns
  have hts := WS_ts B.pre
  have hown : s.vm.findClass RX7 = some m.cls := findClass_of_methodNamed B.named
  have hlocks := B.notSynchronized
  subst hsz
  have hD := hDL.self (sz := s.heap.size)
  have hAlo := A_lo hDL hlo
  generalize hAe : va_A [((a 0), .inr (7, (fX7 (a 1) (a 3) (a 19) (a 35) (a 40) (nI rk) lfa (a 53) (a 56) (a 63) (a 64) (a 68)))), ((a 3), .inl (k 3, 3, .inr (.inr (.inr (.inr (a3 (a 4) (a 9) (a 14))))))), ((a 4), .inr (5, (fX5 (a 5) (a 6) (a 7) (a 8)))), (aI k (a 5) 10 (vv n0 see0 tm0 g0)), (aI k (a 7) 24 fp0), (aI k (a 8) 4 fl0), ((a 9), .inr (5, (fX5 (a 10) (a 11) (a 12) (a 13)))), (aI k (a 10) 10 (vv n1 see1 tm1 g1)), (aI k (a 12) 24 fp1), (aI k (a 13) 4 fl1), ((a 14), .inr (5, (fX5 (a 15) (a 16) (a 17) (a 18)))), (aI k (a 15) 10 (vv n2 see2 tm2 g2)), (aI k (a 17) 24 fp2), (aI k (a 18) 4 fl2), ((a 53), .inr (4, (fX4 (a 54) (a 55) (nI cc) (nI rz) ro sd))), (aI k (a 54) 4 wk), (aI k (a 55) 4 (nF br)), ((a 68), .inr (1, (fX1 (a 53) (a 69) (a 70) (a 71) pn pf pd pe))), (aI k (a 69) 4 (nF pb)), (aI k (a 70) 100 pco), (aI k (a 71) 16 pg)] s.heap.size = A at hD hAlo ⊢
  have hA : ∀ q : Nat, s.heap.size ≤ q → A q := fun q h => by rw [← hAe]; exact Or.inr h
  have hS : va_S A s.heap s.heap [] := va_S.rf
  have hl := lv_entry ([.ref (a 0), .int p0, .int p1]) (n := 4) (Nat.le_of_ble_eq_true rfl)
  rw [lg_entry_eq]
  generalize (lg_sl ([.ref (a 0), .int p0, .int p1]) ++ List.replicate (4 - (lg_sl ([.ref (a 0), .int p0, .int p1])).length) Slot.unset).toArray = ls at hl ⊢
  have hl : lv_has ls 4 [(0, .ref (a 0)), (1, .int p0), (2, .int p1)] := hl
  refine lv_aload_n hx hb dX7_rests_0 rfl (lv_at hl 0 rfl) ?_
  refine lv_iload_n hx hb dX7_rests_1 rfl (lv_at hl 1 rfl) ?_
  refine lv_iload_n hx hb dX7_rests_2 rfl (lv_at hl 2 rfl) ?_
  refine ro_i (D := D) (va_runV (As := [.int p0, .int p1]) (rest := []) ⟨hx, hb, hml, hown, hts⟩ ((x_refuseSet l D k st lo a rk lfa n0 see0 tm0 g0 n1 see1 tm1 g1 n2 see2 tm2 g2 p0 p1 (by first | assumption | omega) (by first | assumption | omega) (by first | assumption | omega)) s.heap.size) (cwV 2 hts (gV tw_850 tw_852 tw_21 tw_79 tw_853) rfl rfl rfl (by decide +kernel) ⟨Nat.le_of_ble_eq_true rfl, Nat.le_of_ble_eq_true rfl⟩) (pV hS hAlo hlo hP hK (va_Dlo hD hAlo) hZ [0, 1, 2, 3, 6, 7, 10, 11] (by decide) rfl (ci := 7) (q := (RX7, TX7, 12)) (q0 := 0) rfl rfl) rfl rfl hl.1 rfl (lv_room (Nat.le_of_ble_eq_true rfl)) dX7_rests_3 ⟨Nat.le_of_ble_eq_true rfl, Nat.le_of_ble_eq_true rfl⟩) hS hA hP (fun r_1 H locs hw_1 hP hS => ?_)
  try dsimp only at hw_1
  rcases hw_1 with ⟨rfl, rfl | rfl | rfl⟩ | rfl | rfl
  · refine lv_istore_n (lv' := [(3, .int 0), (0, .ref (a 0)), (1, .int 0), (2, .int p1)]) hx hb dX7_rests_6 rfl hl (by decide) rfl (fun ls hl => ?_)
    refine lv_iload_n hx hb dX7_rests_7 rfl (lv_at hl 0 rfl) ?_
    refine lv_if_eq (tgt := 13) hx hb dX7_rests_8 (by decide) (fun _ => ?_) (fun h => absurd (by decide) h)
    refine lv_aload_n hx hb dX7_rests_13 rfl (lv_at hl 1 rfl) ?_
    refine va_get (D := D) (ci := 7) (v := .ref (a 68)) (C := RX7) (T := TX7) (N := 12) hx hb hts inX7 hown hK hP 0 rfl rfl 11 (by decide) (hts _ tw_316) (fun _ h9 => h9) rfl dX7_rests_14 ?_
    refine lv_aload_n hx hb dX7_rests_17 rfl (lv_at hl 1 rfl) ?_
    refine va_get (D := D) (ci := 7) (v := .ref (a 3)) (C := RX7) (T := TX7) (N := 12) hx hb hts inX7 hown hK hP 0 rfl rfl 1 (by decide) (hts _ tw_306) (fun _ h9 => h9) rfl dX7_rests_18 ?_
    refine lv_iload_n hx hb dX7_rests_21 rfl (lv_at hl 2 rfl) ?_
    refine va_aldq hx hb hK hP 1 3 rfl rfl (by unfold vp_in; decide) dX7_rests_22 ?_
    refine lv_tr (y := .ref (a 4)) rfl ?_
    refine lv_iload_n hx hb dX7_rests_23 rfl (lv_at hl 3 rfl) ?_
    refine rw_v (D := D) (wr := [((a 0), .inr (7, (fX7 (a 1) (a 3) (a 19) (a 35) (a 40) (nI rk) lfa (a 53) (a 56) (a 63) (a 64) (a 68)))), ((a 3), .inl (k 3, 3, .inr (.inr (.inr (.inr (a3 (a 4) (a 9) (a 14))))))), ((a 9), .inr (5, (fX5 (a 10) (a 11) (a 12) (a 13)))), (aI k (a 10) 10 (vv n1 see1 tm1 g1)), (aI k (a 12) 24 fp1), (aI k (a 13) 4 fl1), ((a 14), .inr (5, (fX5 (a 15) (a 16) (a 17) (a 18)))), (aI k (a 15) 10 (vv n2 see2 tm2 g2)), (aI k (a 17) 24 fp2), (aI k (a 18) 4 fl2), (aI k (a 71) 16 pg)]) (va_runV (As := [.ref (a 4), .int p1]) (rest := []) ⟨hx, hb, hml, hown, hts⟩ ((x_comeTo l D k st lo (a 53) (a 68) (a 69) (a 70) (a 71) pn pf pd pe pb pco (a 4) (a 5) (a 6) (a 7) (a 8) n0 see0 tm0 g0 fp0 fl0 (a 54) (a 55) cc rz ro sd wk br p1 (by first | assumption | omega) (by first | assumption | omega) hbr hpb) H.size) (cwV 2 hts (gV tw_821 tw_822 tw_823 tw_84 tw_824) rfl rfl rfl (by decide +kernel) ⟨Nat.le_of_ble_eq_true rfl, Nat.le_of_ble_eq_true rfl⟩) (pV hS hAlo hlo hP hK (va_Dlo hD hAlo) hZ [17, 18, 19, 2, 3, 4, 5, 14, 15, 16] (by decide +kernel) rfl (ci := 1) (q := (RX1, TX1, 8)) (q0 := 0) rfl rfl) rfl rfl hl.1 rfl (lv_room (Nat.le_of_ble_eq_true rfl)) dX7_rests_24 ⟨Nat.le_of_ble_eq_true rfl, Nat.le_of_ble_eq_true rfl⟩) hS hA hP hD [17, 18, 19, 2, 3, 4, 5, 14, 15, 16] [0, 1, 6, 7, 8, 9, 10, 11, 12, 13, 20] rfl rfl (by decide +kernel) (by decide +kernel) (fun u H locs hw_2 hP hD hS => ?_)
    obtain ⟨pb__2, pco__2⟩ := u
    have hQ9 := pd_mk [((a 0), .inr (7, (fX7 (a 1) (a 3) (a 19) (a 35) (a 40) (nI rk) lfa (a 53) (a 56) (a 63) (a 64) (a 68)))), ((a 3), .inl (k 3, 3, .inr (.inr (.inr (.inr (a3 (a 4) (a 9) (a 14))))))), ((a 9), .inr (5, (fX5 (a 10) (a 11) (a 12) (a 13)))), (aI k (a 10) 10 (vv n1 see1 tm1 g1)), (aI k (a 12) 24 fp1), (aI k (a 13) 4 fl1), ((a 14), .inr (5, (fX5 (a 15) (a 16) (a 17) (a 18)))), (aI k (a 15) 10 (vv n2 see2 tm2 g2)), (aI k (a 17) 24 fp2), (aI k (a 18) 4 fl2), (aI k (a 71) 16 pg), ((a 68), .inr (1, (fX1 (a 53) (a 69) (a 70) (a 71) (nI n0) p1 0 0))), (aI k (a 69) 4 (nF pb__2)), (aI k (a 70) 100 pco__2), ((a 4), .inr (5, (fX5 (a 5) (a 6) (a 7) (a 8)))), (aI k (a 5) 10 (vv n0 see0 tm0 g0)), (aI k (a 7) 24 fp0), (aI k (a 8) 4 fl0), ((a 53), .inr (4, (fX4 (a 54) (a 55) (nI cc) (nI rz) ro sd))), (aI k (a 54) 4 wk), (aI k (a 55) 4 (nF br))] hP hD
    clear hP hD
    obtain ⟨hP, hD⟩ := hQ9
    try dsimp only at hw_2
    refine lv_aload_n hx hb dX7_rests_27 rfl (lv_at hl 1 rfl) ?_
    refine va_get (D := D) (ci := 7) (v := .ref (a 68)) (C := RX7) (T := TX7) (N := 12) hx hb hts inX7 hown hK hP 0 rfl rfl 11 (by decide) (hts _ tw_316) (fun _ h9 => h9) rfl dX7_rests_28 ?_
    refine ro_i (D := D) (va_runV (As := []) (rest := []) ⟨hx, hb, hml, hown, hts⟩ ((x_isAtRest l D k st lo (a 53) (a 68) (a 69) (a 70) (a 71) n0 p1 0 0 pb__2 pco__2 (a 54) (a 55) cc rz ro sd (by first | assumption | omega) (by first | assumption | omega) hw_2) H.size) (cwV 0 hts (gV tw_854 tw_855 tw_856 tw_84 tw_857) rfl rfl rfl (by decide +kernel) ⟨Nat.le_of_ble_eq_true rfl, Nat.le_of_ble_eq_true rfl⟩) (pV hS hAlo hlo hP hK (va_Dlo hD hAlo) hZ [11, 12, 13, 18] (by decide) rfl (ci := 1) (q := (RX1, TX1, 8)) (q0 := 0) rfl rfl) rfl rfl hl.1 rfl (lv_room (Nat.le_of_ble_eq_true rfl)) dX7_rests_31 ⟨Nat.le_of_ble_eq_true rfl, Nat.le_of_ble_eq_true rfl⟩) hS hA hP (fun r_3 H locs hw_3 hP hS => ?_)
    try dsimp only at hw_3
    rcases hw_3 with rfl | rfl
    · refine lv_if_eq (tgt := 41) hx hb dX7_rests_34 (by decide) (fun h => absurd h (by decide)) (fun _ => ?_)
      refine lv_iconst (v := 1) hx hb dX7_rests_37 (by decide) ?_
      refine lv_goto (tgt := 42) hx hb dX7_rests_38 (by decide) ?_
      obtain ⟨hP9, hD9⟩ := pd_sub [((a 0), .inr (7, (fX7 (a 1) (a 3) (a 19) (a 35) (a 40) (nI rk) lfa (a 53) (a 56) (a 63) (a 64) (a 68)))), ((a 3), .inl (k 3, 3, .inr (.inr (.inr (.inr (a3 (a 4) (a 9) (a 14))))))), ((a 4), .inr (5, (fX5 (a 5) (a 6) (a 7) (a 8)))), (aI k (a 5) 10 (vv n0 see0 tm0 g0)), (aI k (a 7) 24 fp0), (aI k (a 8) 4 fl0), ((a 9), .inr (5, (fX5 (a 10) (a 11) (a 12) (a 13)))), (aI k (a 10) 10 (vv n1 see1 tm1 g1)), (aI k (a 12) 24 fp1), (aI k (a 13) 4 fl1), ((a 14), .inr (5, (fX5 (a 15) (a 16) (a 17) (a 18)))), (aI k (a 15) 10 (vv n2 see2 tm2 g2)), (aI k (a 17) 24 fp2), (aI k (a 18) 4 fl2), ((a 53), .inr (4, (fX4 (a 54) (a 55) (nI cc) (nI rz) ro sd))), (aI k (a 54) 4 wk), (aI k (a 55) 4 (nF br)), ((a 68), .inr (1, (fX1 (a 53) (a 69) (a 70) (a 71) (nI n0) p1 0 0))), (aI k (a 69) 4 (nF pb__2)), (aI k (a 70) 100 pco__2), (aI k (a 71) 16 pg)] [0, 1, 14, 15, 16, 17, 2, 3, 4, 5, 6, 7, 8, 9, 18, 19, 20, 11, 12, 13, 10] hP hD (by decide +kernel) rfl
      exact W.iret (v := 1) hx hb hr (fun t ht hW => ⟨⟨1, ((nI n0), p1, 0, 0, pb__2, pco__2), rfl, hw_2, by rw [ht]; exact hP9, hD9⟩, hS.F ht⟩) hS.2.2 dX7_rests_42
    · refine lv_if_eq (tgt := 41) hx hb dX7_rests_34 (by decide) (fun _ => ?_) (fun h => absurd (by decide) h)
      refine lv_iconst (v := 0) hx hb dX7_rests_41 (by decide) ?_
      obtain ⟨hP9, hD9⟩ := pd_sub [((a 0), .inr (7, (fX7 (a 1) (a 3) (a 19) (a 35) (a 40) (nI rk) lfa (a 53) (a 56) (a 63) (a 64) (a 68)))), ((a 3), .inl (k 3, 3, .inr (.inr (.inr (.inr (a3 (a 4) (a 9) (a 14))))))), ((a 4), .inr (5, (fX5 (a 5) (a 6) (a 7) (a 8)))), (aI k (a 5) 10 (vv n0 see0 tm0 g0)), (aI k (a 7) 24 fp0), (aI k (a 8) 4 fl0), ((a 9), .inr (5, (fX5 (a 10) (a 11) (a 12) (a 13)))), (aI k (a 10) 10 (vv n1 see1 tm1 g1)), (aI k (a 12) 24 fp1), (aI k (a 13) 4 fl1), ((a 14), .inr (5, (fX5 (a 15) (a 16) (a 17) (a 18)))), (aI k (a 15) 10 (vv n2 see2 tm2 g2)), (aI k (a 17) 24 fp2), (aI k (a 18) 4 fl2), ((a 53), .inr (4, (fX4 (a 54) (a 55) (nI cc) (nI rz) ro sd))), (aI k (a 54) 4 wk), (aI k (a 55) 4 (nF br)), ((a 68), .inr (1, (fX1 (a 53) (a 69) (a 70) (a 71) (nI n0) p1 0 0))), (aI k (a 69) 4 (nF pb__2)), (aI k (a 70) 100 pco__2), (aI k (a 71) 16 pg)] [0, 1, 14, 15, 16, 17, 2, 3, 4, 5, 6, 7, 8, 9, 18, 19, 20, 11, 12, 13, 10] hP hD (by decide +kernel) rfl
      exact W.iret (v := 0) hx hb hr (fun t ht hW => ⟨⟨0, ((nI n0), p1, 0, 0, pb__2, pco__2), rfl, hw_2, by rw [ht]; exact hP9, hD9⟩, hS.F ht⟩) hS.2.2 dX7_rests_42
  · refine lv_istore_n (lv' := [(3, .int 0), (0, .ref (a 0)), (1, .int 1), (2, .int p1)]) hx hb dX7_rests_6 rfl hl (by decide) rfl (fun ls hl => ?_)
    refine lv_iload_n hx hb dX7_rests_7 rfl (lv_at hl 0 rfl) ?_
    refine lv_if_eq (tgt := 13) hx hb dX7_rests_8 (by decide) (fun _ => ?_) (fun h => absurd (by decide) h)
    refine lv_aload_n hx hb dX7_rests_13 rfl (lv_at hl 1 rfl) ?_
    refine va_get (D := D) (ci := 7) (v := .ref (a 68)) (C := RX7) (T := TX7) (N := 12) hx hb hts inX7 hown hK hP 0 rfl rfl 11 (by decide) (hts _ tw_316) (fun _ h9 => h9) rfl dX7_rests_14 ?_
    refine lv_aload_n hx hb dX7_rests_17 rfl (lv_at hl 1 rfl) ?_
    refine va_get (D := D) (ci := 7) (v := .ref (a 3)) (C := RX7) (T := TX7) (N := 12) hx hb hts inX7 hown hK hP 0 rfl rfl 1 (by decide) (hts _ tw_306) (fun _ h9 => h9) rfl dX7_rests_18 ?_
    refine lv_iload_n hx hb dX7_rests_21 rfl (lv_at hl 2 rfl) ?_
    refine va_aldq hx hb hK hP 1 3 rfl rfl (by unfold vp_in; decide) dX7_rests_22 ?_
    refine lv_tr (y := .ref (a 9)) rfl ?_
    refine lv_iload_n hx hb dX7_rests_23 rfl (lv_at hl 3 rfl) ?_
    refine rw_v (D := D) (wr := [((a 0), .inr (7, (fX7 (a 1) (a 3) (a 19) (a 35) (a 40) (nI rk) lfa (a 53) (a 56) (a 63) (a 64) (a 68)))), ((a 3), .inl (k 3, 3, .inr (.inr (.inr (.inr (a3 (a 4) (a 9) (a 14))))))), ((a 4), .inr (5, (fX5 (a 5) (a 6) (a 7) (a 8)))), (aI k (a 5) 10 (vv n0 see0 tm0 g0)), (aI k (a 7) 24 fp0), (aI k (a 8) 4 fl0), ((a 14), .inr (5, (fX5 (a 15) (a 16) (a 17) (a 18)))), (aI k (a 15) 10 (vv n2 see2 tm2 g2)), (aI k (a 17) 24 fp2), (aI k (a 18) 4 fl2), (aI k (a 71) 16 pg)]) (va_runV (As := [.ref (a 9), .int p1]) (rest := []) ⟨hx, hb, hml, hown, hts⟩ ((x_comeTo l D k st lo (a 53) (a 68) (a 69) (a 70) (a 71) pn pf pd pe pb pco (a 9) (a 10) (a 11) (a 12) (a 13) n1 see1 tm1 g1 fp1 fl1 (a 54) (a 55) cc rz ro sd wk br p1 (by first | assumption | omega) (by first | assumption | omega) hbr hpb) H.size) (cwV 2 hts (gV tw_821 tw_822 tw_823 tw_84 tw_824) rfl rfl rfl (by decide +kernel) ⟨Nat.le_of_ble_eq_true rfl, Nat.le_of_ble_eq_true rfl⟩) (pV hS hAlo hlo hP hK (va_Dlo hD hAlo) hZ [17, 18, 19, 6, 7, 8, 9, 14, 15, 16] (by decide +kernel) rfl (ci := 1) (q := (RX1, TX1, 8)) (q0 := 0) rfl rfl) rfl rfl hl.1 rfl (lv_room (Nat.le_of_ble_eq_true rfl)) dX7_rests_24 ⟨Nat.le_of_ble_eq_true rfl, Nat.le_of_ble_eq_true rfl⟩) hS hA hP hD [17, 18, 19, 6, 7, 8, 9, 14, 15, 16] [0, 1, 2, 3, 4, 5, 10, 11, 12, 13, 20] rfl rfl (by decide +kernel) (by decide +kernel) (fun u H locs hw_4 hP hD hS => ?_)
    obtain ⟨pb__4, pco__4⟩ := u
    have hQ9 := pd_mk [((a 0), .inr (7, (fX7 (a 1) (a 3) (a 19) (a 35) (a 40) (nI rk) lfa (a 53) (a 56) (a 63) (a 64) (a 68)))), ((a 3), .inl (k 3, 3, .inr (.inr (.inr (.inr (a3 (a 4) (a 9) (a 14))))))), ((a 4), .inr (5, (fX5 (a 5) (a 6) (a 7) (a 8)))), (aI k (a 5) 10 (vv n0 see0 tm0 g0)), (aI k (a 7) 24 fp0), (aI k (a 8) 4 fl0), ((a 14), .inr (5, (fX5 (a 15) (a 16) (a 17) (a 18)))), (aI k (a 15) 10 (vv n2 see2 tm2 g2)), (aI k (a 17) 24 fp2), (aI k (a 18) 4 fl2), (aI k (a 71) 16 pg), ((a 68), .inr (1, (fX1 (a 53) (a 69) (a 70) (a 71) (nI n1) p1 0 0))), (aI k (a 69) 4 (nF pb__4)), (aI k (a 70) 100 pco__4), ((a 9), .inr (5, (fX5 (a 10) (a 11) (a 12) (a 13)))), (aI k (a 10) 10 (vv n1 see1 tm1 g1)), (aI k (a 12) 24 fp1), (aI k (a 13) 4 fl1), ((a 53), .inr (4, (fX4 (a 54) (a 55) (nI cc) (nI rz) ro sd))), (aI k (a 54) 4 wk), (aI k (a 55) 4 (nF br))] hP hD
    clear hP hD
    obtain ⟨hP, hD⟩ := hQ9
    try dsimp only at hw_4
    refine lv_aload_n hx hb dX7_rests_27 rfl (lv_at hl 1 rfl) ?_
    refine va_get (D := D) (ci := 7) (v := .ref (a 68)) (C := RX7) (T := TX7) (N := 12) hx hb hts inX7 hown hK hP 0 rfl rfl 11 (by decide) (hts _ tw_316) (fun _ h9 => h9) rfl dX7_rests_28 ?_
    refine ro_i (D := D) (va_runV (As := []) (rest := []) ⟨hx, hb, hml, hown, hts⟩ ((x_isAtRest l D k st lo (a 53) (a 68) (a 69) (a 70) (a 71) n1 p1 0 0 pb__4 pco__4 (a 54) (a 55) cc rz ro sd (by first | assumption | omega) (by first | assumption | omega) hw_4) H.size) (cwV 0 hts (gV tw_854 tw_855 tw_856 tw_84 tw_857) rfl rfl rfl (by decide +kernel) ⟨Nat.le_of_ble_eq_true rfl, Nat.le_of_ble_eq_true rfl⟩) (pV hS hAlo hlo hP hK (va_Dlo hD hAlo) hZ [11, 12, 13, 18] (by decide) rfl (ci := 1) (q := (RX1, TX1, 8)) (q0 := 0) rfl rfl) rfl rfl hl.1 rfl (lv_room (Nat.le_of_ble_eq_true rfl)) dX7_rests_31 ⟨Nat.le_of_ble_eq_true rfl, Nat.le_of_ble_eq_true rfl⟩) hS hA hP (fun r_5 H locs hw_5 hP hS => ?_)
    try dsimp only at hw_5
    rcases hw_5 with rfl | rfl
    · refine lv_if_eq (tgt := 41) hx hb dX7_rests_34 (by decide) (fun h => absurd h (by decide)) (fun _ => ?_)
      refine lv_iconst (v := 1) hx hb dX7_rests_37 (by decide) ?_
      refine lv_goto (tgt := 42) hx hb dX7_rests_38 (by decide) ?_
      obtain ⟨hP9, hD9⟩ := pd_sub [((a 0), .inr (7, (fX7 (a 1) (a 3) (a 19) (a 35) (a 40) (nI rk) lfa (a 53) (a 56) (a 63) (a 64) (a 68)))), ((a 3), .inl (k 3, 3, .inr (.inr (.inr (.inr (a3 (a 4) (a 9) (a 14))))))), ((a 4), .inr (5, (fX5 (a 5) (a 6) (a 7) (a 8)))), (aI k (a 5) 10 (vv n0 see0 tm0 g0)), (aI k (a 7) 24 fp0), (aI k (a 8) 4 fl0), ((a 9), .inr (5, (fX5 (a 10) (a 11) (a 12) (a 13)))), (aI k (a 10) 10 (vv n1 see1 tm1 g1)), (aI k (a 12) 24 fp1), (aI k (a 13) 4 fl1), ((a 14), .inr (5, (fX5 (a 15) (a 16) (a 17) (a 18)))), (aI k (a 15) 10 (vv n2 see2 tm2 g2)), (aI k (a 17) 24 fp2), (aI k (a 18) 4 fl2), ((a 53), .inr (4, (fX4 (a 54) (a 55) (nI cc) (nI rz) ro sd))), (aI k (a 54) 4 wk), (aI k (a 55) 4 (nF br)), ((a 68), .inr (1, (fX1 (a 53) (a 69) (a 70) (a 71) (nI n1) p1 0 0))), (aI k (a 69) 4 (nF pb__4)), (aI k (a 70) 100 pco__4), (aI k (a 71) 16 pg)] [0, 1, 2, 3, 4, 5, 14, 15, 16, 17, 6, 7, 8, 9, 18, 19, 20, 11, 12, 13, 10] hP hD (by decide +kernel) rfl
      exact W.iret (v := 1) hx hb hr (fun t ht hW => ⟨⟨1, ((nI n1), p1, 0, 0, pb__4, pco__4), rfl, hw_4, by rw [ht]; exact hP9, hD9⟩, hS.F ht⟩) hS.2.2 dX7_rests_42
    · refine lv_if_eq (tgt := 41) hx hb dX7_rests_34 (by decide) (fun _ => ?_) (fun h => absurd (by decide) h)
      refine lv_iconst (v := 0) hx hb dX7_rests_41 (by decide) ?_
      obtain ⟨hP9, hD9⟩ := pd_sub [((a 0), .inr (7, (fX7 (a 1) (a 3) (a 19) (a 35) (a 40) (nI rk) lfa (a 53) (a 56) (a 63) (a 64) (a 68)))), ((a 3), .inl (k 3, 3, .inr (.inr (.inr (.inr (a3 (a 4) (a 9) (a 14))))))), ((a 4), .inr (5, (fX5 (a 5) (a 6) (a 7) (a 8)))), (aI k (a 5) 10 (vv n0 see0 tm0 g0)), (aI k (a 7) 24 fp0), (aI k (a 8) 4 fl0), ((a 9), .inr (5, (fX5 (a 10) (a 11) (a 12) (a 13)))), (aI k (a 10) 10 (vv n1 see1 tm1 g1)), (aI k (a 12) 24 fp1), (aI k (a 13) 4 fl1), ((a 14), .inr (5, (fX5 (a 15) (a 16) (a 17) (a 18)))), (aI k (a 15) 10 (vv n2 see2 tm2 g2)), (aI k (a 17) 24 fp2), (aI k (a 18) 4 fl2), ((a 53), .inr (4, (fX4 (a 54) (a 55) (nI cc) (nI rz) ro sd))), (aI k (a 54) 4 wk), (aI k (a 55) 4 (nF br)), ((a 68), .inr (1, (fX1 (a 53) (a 69) (a 70) (a 71) (nI n1) p1 0 0))), (aI k (a 69) 4 (nF pb__4)), (aI k (a 70) 100 pco__4), (aI k (a 71) 16 pg)] [0, 1, 2, 3, 4, 5, 14, 15, 16, 17, 6, 7, 8, 9, 18, 19, 20, 11, 12, 13, 10] hP hD (by decide +kernel) rfl
      exact W.iret (v := 0) hx hb hr (fun t ht hW => ⟨⟨0, ((nI n1), p1, 0, 0, pb__4, pco__4), rfl, hw_4, by rw [ht]; exact hP9, hD9⟩, hS.F ht⟩) hS.2.2 dX7_rests_42
  · refine lv_istore_n (lv' := [(3, .int 0), (0, .ref (a 0)), (1, .int 2), (2, .int p1)]) hx hb dX7_rests_6 rfl hl (by decide) rfl (fun ls hl => ?_)
    refine lv_iload_n hx hb dX7_rests_7 rfl (lv_at hl 0 rfl) ?_
    refine lv_if_eq (tgt := 13) hx hb dX7_rests_8 (by decide) (fun _ => ?_) (fun h => absurd (by decide) h)
    refine lv_aload_n hx hb dX7_rests_13 rfl (lv_at hl 1 rfl) ?_
    refine va_get (D := D) (ci := 7) (v := .ref (a 68)) (C := RX7) (T := TX7) (N := 12) hx hb hts inX7 hown hK hP 0 rfl rfl 11 (by decide) (hts _ tw_316) (fun _ h9 => h9) rfl dX7_rests_14 ?_
    refine lv_aload_n hx hb dX7_rests_17 rfl (lv_at hl 1 rfl) ?_
    refine va_get (D := D) (ci := 7) (v := .ref (a 3)) (C := RX7) (T := TX7) (N := 12) hx hb hts inX7 hown hK hP 0 rfl rfl 1 (by decide) (hts _ tw_306) (fun _ h9 => h9) rfl dX7_rests_18 ?_
    refine lv_iload_n hx hb dX7_rests_21 rfl (lv_at hl 2 rfl) ?_
    refine va_aldq hx hb hK hP 1 3 rfl rfl (by unfold vp_in; decide) dX7_rests_22 ?_
    refine lv_tr (y := .ref (a 14)) rfl ?_
    refine lv_iload_n hx hb dX7_rests_23 rfl (lv_at hl 3 rfl) ?_
    refine rw_v (D := D) (wr := [((a 0), .inr (7, (fX7 (a 1) (a 3) (a 19) (a 35) (a 40) (nI rk) lfa (a 53) (a 56) (a 63) (a 64) (a 68)))), ((a 3), .inl (k 3, 3, .inr (.inr (.inr (.inr (a3 (a 4) (a 9) (a 14))))))), ((a 4), .inr (5, (fX5 (a 5) (a 6) (a 7) (a 8)))), (aI k (a 5) 10 (vv n0 see0 tm0 g0)), (aI k (a 7) 24 fp0), (aI k (a 8) 4 fl0), ((a 9), .inr (5, (fX5 (a 10) (a 11) (a 12) (a 13)))), (aI k (a 10) 10 (vv n1 see1 tm1 g1)), (aI k (a 12) 24 fp1), (aI k (a 13) 4 fl1), (aI k (a 71) 16 pg)]) (va_runV (As := [.ref (a 14), .int p1]) (rest := []) ⟨hx, hb, hml, hown, hts⟩ ((x_comeTo l D k st lo (a 53) (a 68) (a 69) (a 70) (a 71) pn pf pd pe pb pco (a 14) (a 15) (a 16) (a 17) (a 18) n2 see2 tm2 g2 fp2 fl2 (a 54) (a 55) cc rz ro sd wk br p1 (by first | assumption | omega) (by first | assumption | omega) hbr hpb) H.size) (cwV 2 hts (gV tw_821 tw_822 tw_823 tw_84 tw_824) rfl rfl rfl (by decide +kernel) ⟨Nat.le_of_ble_eq_true rfl, Nat.le_of_ble_eq_true rfl⟩) (pV hS hAlo hlo hP hK (va_Dlo hD hAlo) hZ [17, 18, 19, 10, 11, 12, 13, 14, 15, 16] (by decide +kernel) rfl (ci := 1) (q := (RX1, TX1, 8)) (q0 := 0) rfl rfl) rfl rfl hl.1 rfl (lv_room (Nat.le_of_ble_eq_true rfl)) dX7_rests_24 ⟨Nat.le_of_ble_eq_true rfl, Nat.le_of_ble_eq_true rfl⟩) hS hA hP hD [17, 18, 19, 10, 11, 12, 13, 14, 15, 16] [0, 1, 2, 3, 4, 5, 6, 7, 8, 9, 20] rfl rfl (by decide +kernel) (by decide +kernel) (fun u H locs hw_6 hP hD hS => ?_)
    obtain ⟨pb__6, pco__6⟩ := u
    have hQ9 := pd_mk [((a 0), .inr (7, (fX7 (a 1) (a 3) (a 19) (a 35) (a 40) (nI rk) lfa (a 53) (a 56) (a 63) (a 64) (a 68)))), ((a 3), .inl (k 3, 3, .inr (.inr (.inr (.inr (a3 (a 4) (a 9) (a 14))))))), ((a 4), .inr (5, (fX5 (a 5) (a 6) (a 7) (a 8)))), (aI k (a 5) 10 (vv n0 see0 tm0 g0)), (aI k (a 7) 24 fp0), (aI k (a 8) 4 fl0), ((a 9), .inr (5, (fX5 (a 10) (a 11) (a 12) (a 13)))), (aI k (a 10) 10 (vv n1 see1 tm1 g1)), (aI k (a 12) 24 fp1), (aI k (a 13) 4 fl1), (aI k (a 71) 16 pg), ((a 68), .inr (1, (fX1 (a 53) (a 69) (a 70) (a 71) (nI n2) p1 0 0))), (aI k (a 69) 4 (nF pb__6)), (aI k (a 70) 100 pco__6), ((a 14), .inr (5, (fX5 (a 15) (a 16) (a 17) (a 18)))), (aI k (a 15) 10 (vv n2 see2 tm2 g2)), (aI k (a 17) 24 fp2), (aI k (a 18) 4 fl2), ((a 53), .inr (4, (fX4 (a 54) (a 55) (nI cc) (nI rz) ro sd))), (aI k (a 54) 4 wk), (aI k (a 55) 4 (nF br))] hP hD
    clear hP hD
    obtain ⟨hP, hD⟩ := hQ9
    try dsimp only at hw_6
    refine lv_aload_n hx hb dX7_rests_27 rfl (lv_at hl 1 rfl) ?_
    refine va_get (D := D) (ci := 7) (v := .ref (a 68)) (C := RX7) (T := TX7) (N := 12) hx hb hts inX7 hown hK hP 0 rfl rfl 11 (by decide) (hts _ tw_316) (fun _ h9 => h9) rfl dX7_rests_28 ?_
    refine ro_i (D := D) (va_runV (As := []) (rest := []) ⟨hx, hb, hml, hown, hts⟩ ((x_isAtRest l D k st lo (a 53) (a 68) (a 69) (a 70) (a 71) n2 p1 0 0 pb__6 pco__6 (a 54) (a 55) cc rz ro sd (by first | assumption | omega) (by first | assumption | omega) hw_6) H.size) (cwV 0 hts (gV tw_854 tw_855 tw_856 tw_84 tw_857) rfl rfl rfl (by decide +kernel) ⟨Nat.le_of_ble_eq_true rfl, Nat.le_of_ble_eq_true rfl⟩) (pV hS hAlo hlo hP hK (va_Dlo hD hAlo) hZ [11, 12, 13, 18] (by decide) rfl (ci := 1) (q := (RX1, TX1, 8)) (q0 := 0) rfl rfl) rfl rfl hl.1 rfl (lv_room (Nat.le_of_ble_eq_true rfl)) dX7_rests_31 ⟨Nat.le_of_ble_eq_true rfl, Nat.le_of_ble_eq_true rfl⟩) hS hA hP (fun r_7 H locs hw_7 hP hS => ?_)
    try dsimp only at hw_7
    rcases hw_7 with rfl | rfl
    · refine lv_if_eq (tgt := 41) hx hb dX7_rests_34 (by decide) (fun h => absurd h (by decide)) (fun _ => ?_)
      refine lv_iconst (v := 1) hx hb dX7_rests_37 (by decide) ?_
      refine lv_goto (tgt := 42) hx hb dX7_rests_38 (by decide) ?_
      obtain ⟨hP9, hD9⟩ := pd_sub [((a 0), .inr (7, (fX7 (a 1) (a 3) (a 19) (a 35) (a 40) (nI rk) lfa (a 53) (a 56) (a 63) (a 64) (a 68)))), ((a 3), .inl (k 3, 3, .inr (.inr (.inr (.inr (a3 (a 4) (a 9) (a 14))))))), ((a 4), .inr (5, (fX5 (a 5) (a 6) (a 7) (a 8)))), (aI k (a 5) 10 (vv n0 see0 tm0 g0)), (aI k (a 7) 24 fp0), (aI k (a 8) 4 fl0), ((a 9), .inr (5, (fX5 (a 10) (a 11) (a 12) (a 13)))), (aI k (a 10) 10 (vv n1 see1 tm1 g1)), (aI k (a 12) 24 fp1), (aI k (a 13) 4 fl1), ((a 14), .inr (5, (fX5 (a 15) (a 16) (a 17) (a 18)))), (aI k (a 15) 10 (vv n2 see2 tm2 g2)), (aI k (a 17) 24 fp2), (aI k (a 18) 4 fl2), ((a 53), .inr (4, (fX4 (a 54) (a 55) (nI cc) (nI rz) ro sd))), (aI k (a 54) 4 wk), (aI k (a 55) 4 (nF br)), ((a 68), .inr (1, (fX1 (a 53) (a 69) (a 70) (a 71) (nI n2) p1 0 0))), (aI k (a 69) 4 (nF pb__6)), (aI k (a 70) 100 pco__6), (aI k (a 71) 16 pg)] [0, 1, 2, 3, 4, 5, 6, 7, 8, 9, 14, 15, 16, 17, 18, 19, 20, 11, 12, 13, 10] hP hD (by decide +kernel) rfl
      exact W.iret (v := 1) hx hb hr (fun t ht hW => ⟨⟨1, ((nI n2), p1, 0, 0, pb__6, pco__6), rfl, hw_6, by rw [ht]; exact hP9, hD9⟩, hS.F ht⟩) hS.2.2 dX7_rests_42
    · refine lv_if_eq (tgt := 41) hx hb dX7_rests_34 (by decide) (fun _ => ?_) (fun h => absurd (by decide) h)
      refine lv_iconst (v := 0) hx hb dX7_rests_41 (by decide) ?_
      obtain ⟨hP9, hD9⟩ := pd_sub [((a 0), .inr (7, (fX7 (a 1) (a 3) (a 19) (a 35) (a 40) (nI rk) lfa (a 53) (a 56) (a 63) (a 64) (a 68)))), ((a 3), .inl (k 3, 3, .inr (.inr (.inr (.inr (a3 (a 4) (a 9) (a 14))))))), ((a 4), .inr (5, (fX5 (a 5) (a 6) (a 7) (a 8)))), (aI k (a 5) 10 (vv n0 see0 tm0 g0)), (aI k (a 7) 24 fp0), (aI k (a 8) 4 fl0), ((a 9), .inr (5, (fX5 (a 10) (a 11) (a 12) (a 13)))), (aI k (a 10) 10 (vv n1 see1 tm1 g1)), (aI k (a 12) 24 fp1), (aI k (a 13) 4 fl1), ((a 14), .inr (5, (fX5 (a 15) (a 16) (a 17) (a 18)))), (aI k (a 15) 10 (vv n2 see2 tm2 g2)), (aI k (a 17) 24 fp2), (aI k (a 18) 4 fl2), ((a 53), .inr (4, (fX4 (a 54) (a 55) (nI cc) (nI rz) ro sd))), (aI k (a 54) 4 wk), (aI k (a 55) 4 (nF br)), ((a 68), .inr (1, (fX1 (a 53) (a 69) (a 70) (a 71) (nI n2) p1 0 0))), (aI k (a 69) 4 (nF pb__6)), (aI k (a 70) 100 pco__6), (aI k (a 71) 16 pg)] [0, 1, 2, 3, 4, 5, 6, 7, 8, 9, 14, 15, 16, 17, 18, 19, 20, 11, 12, 13, 10] hP hD (by decide +kernel) rfl
      exact W.iret (v := 0) hx hb hr (fun t ht hW => ⟨⟨0, ((nI n2), p1, 0, 0, pb__6, pco__6), rfl, hw_6, by rw [ht]; exact hP9, hD9⟩, hS.F ht⟩) hS.2.2 dX7_rests_42
  · refine lv_istore_n (lv' := [(3, .int (-1001)), (0, .ref (a 0)), (1, .int p0), (2, .int p1)]) hx hb dX7_rests_6 rfl hl (by decide) rfl (fun ls hl => ?_)
    refine lv_iload_n hx hb dX7_rests_7 rfl (lv_at hl 0 rfl) ?_
    refine lv_if_eq (tgt := 13) hx hb dX7_rests_8 (by decide) (fun h => absurd h (by decide)) (fun _ => ?_)
    refine lv_iload_n hx hb dX7_rests_11 rfl (lv_at hl 0 rfl) ?_
    obtain ⟨hP9, hD9⟩ := pd_sub [((a 0), .inr (7, (fX7 (a 1) (a 3) (a 19) (a 35) (a 40) (nI rk) lfa (a 53) (a 56) (a 63) (a 64) (a 68)))), ((a 3), .inl (k 3, 3, .inr (.inr (.inr (.inr (a3 (a 4) (a 9) (a 14))))))), ((a 4), .inr (5, (fX5 (a 5) (a 6) (a 7) (a 8)))), (aI k (a 5) 10 (vv n0 see0 tm0 g0)), (aI k (a 7) 24 fp0), (aI k (a 8) 4 fl0), ((a 9), .inr (5, (fX5 (a 10) (a 11) (a 12) (a 13)))), (aI k (a 10) 10 (vv n1 see1 tm1 g1)), (aI k (a 12) 24 fp1), (aI k (a 13) 4 fl1), ((a 14), .inr (5, (fX5 (a 15) (a 16) (a 17) (a 18)))), (aI k (a 15) 10 (vv n2 see2 tm2 g2)), (aI k (a 17) 24 fp2), (aI k (a 18) 4 fl2), ((a 53), .inr (4, (fX4 (a 54) (a 55) (nI cc) (nI rz) ro sd))), (aI k (a 54) 4 wk), (aI k (a 55) 4 (nF br)), ((a 68), .inr (1, (fX1 (a 53) (a 69) (a 70) (a 71) pn pf pd pe))), (aI k (a 69) 4 (nF pb)), (aI k (a 70) 100 pco), (aI k (a 71) 16 pg)] [0, 1, 2, 3, 4, 5, 6, 7, 8, 9, 10, 11, 12, 13, 14, 15, 16, 17, 18, 19, 20] hP hD (by decide +kernel) rfl
    exact W.iret (v := (-1001)) hx hb hr (fun t ht hW => ⟨⟨(-1001), (pn, pf, pd, pe, pb, pco), rfl, hpb, by rw [ht]; exact hP9, hD9⟩, hS.F ht⟩) hS.2.2 dX7_rests_12
  · refine lv_istore_n (lv' := [(3, .int (-1002)), (0, .ref (a 0)), (1, .int p0), (2, .int p1)]) hx hb dX7_rests_6 rfl hl (by decide) rfl (fun ls hl => ?_)
    refine lv_iload_n hx hb dX7_rests_7 rfl (lv_at hl 0 rfl) ?_
    refine lv_if_eq (tgt := 13) hx hb dX7_rests_8 (by decide) (fun h => absurd h (by decide)) (fun _ => ?_)
    refine lv_iload_n hx hb dX7_rests_11 rfl (lv_at hl 0 rfl) ?_
    obtain ⟨hP9, hD9⟩ := pd_sub [((a 0), .inr (7, (fX7 (a 1) (a 3) (a 19) (a 35) (a 40) (nI rk) lfa (a 53) (a 56) (a 63) (a 64) (a 68)))), ((a 3), .inl (k 3, 3, .inr (.inr (.inr (.inr (a3 (a 4) (a 9) (a 14))))))), ((a 4), .inr (5, (fX5 (a 5) (a 6) (a 7) (a 8)))), (aI k (a 5) 10 (vv n0 see0 tm0 g0)), (aI k (a 7) 24 fp0), (aI k (a 8) 4 fl0), ((a 9), .inr (5, (fX5 (a 10) (a 11) (a 12) (a 13)))), (aI k (a 10) 10 (vv n1 see1 tm1 g1)), (aI k (a 12) 24 fp1), (aI k (a 13) 4 fl1), ((a 14), .inr (5, (fX5 (a 15) (a 16) (a 17) (a 18)))), (aI k (a 15) 10 (vv n2 see2 tm2 g2)), (aI k (a 17) 24 fp2), (aI k (a 18) 4 fl2), ((a 53), .inr (4, (fX4 (a 54) (a 55) (nI cc) (nI rz) ro sd))), (aI k (a 54) 4 wk), (aI k (a 55) 4 (nF br)), ((a 68), .inr (1, (fX1 (a 53) (a 69) (a 70) (a 71) pn pf pd pe))), (aI k (a 69) 4 (nF pb)), (aI k (a 70) 100 pco), (aI k (a 71) 16 pg)] [0, 1, 2, 3, 4, 5, 6, 7, 8, 9, 10, 11, 12, 13, 14, 15, 16, 17, 18, 19, 20] hP hD (by decide +kernel) rfl
    exact W.iret (v := (-1002)) hx hb hr (fun t ht hW => ⟨⟨(-1002), (pn, pf, pd, pe, pb, pco), rfl, hpb, by rw [ht]; exact hP9, hD9⟩, hS.F ht⟩) hS.2.2 dX7_rests_12

theorem dX7_turn_0 : decode cX7_turn 0 = .ok (.aload_n 0, 1) := by decide +kernel
theorem dX7_turn_1 : decode cX7_turn 1 = .ok (.iload_n 1, 1) := by decide +kernel
theorem dX7_turn_2 : decode cX7_turn 2 = .ok (.iload_n 2, 1) := by decide +kernel
theorem dX7_turn_3 : decode cX7_turn 3 = .ok (.invokevirtual 239, 3) := by decide +kernel
theorem dX7_turn_6 : decode cX7_turn 6 = .ok (.istore_n 3, 1) := by decide +kernel
theorem dX7_turn_7 : decode cX7_turn 7 = .ok (.iload_n 3, 1) := by decide +kernel
theorem dX7_turn_8 : decode cX7_turn 8 = .ok (.ifCond .eq 5, 3) := by decide +kernel
theorem dX7_turn_11 : decode cX7_turn 11 = .ok (.iload_n 3, 1) := by decide +kernel
theorem dX7_turn_12 : decode cX7_turn 12 = .ok (.ireturn, 1) := by decide +kernel
theorem dX7_turn_13 : decode cX7_turn 13 = .ok (.aload_n 0, 1) := by decide +kernel
theorem dX7_turn_14 : decode cX7_turn 14 = .ok (.getfield 73, 3) := by decide +kernel
theorem dX7_turn_17 : decode cX7_turn 17 = .ok (.aload_n 0, 1) := by decide +kernel
theorem dX7_turn_18 : decode cX7_turn 18 = .ok (.getfield 18, 3) := by decide +kernel
theorem dX7_turn_21 : decode cX7_turn 21 = .ok (.iload_n 1, 1) := by decide +kernel
theorem dX7_turn_22 : decode cX7_turn 22 = .ok (.aaload, 1) := by decide +kernel
theorem dX7_turn_23 : decode cX7_turn 23 = .ok (.iload_n 2, 1) := by decide +kernel
theorem dX7_turn_24 : decode cX7_turn 24 = .ok (.invokevirtual 229, 3) := by decide +kernel
theorem dX7_turn_27 : decode cX7_turn 27 = .ok (.aload_n 0, 1) := by decide +kernel
theorem dX7_turn_28 : decode cX7_turn 28 = .ok (.getfield 73, 3) := by decide +kernel
theorem dX7_turn_31 : decode cX7_turn 31 = .ok (.invokevirtual 246, 3) := by decide +kernel
theorem dX7_turn_34 : decode cX7_turn 34 = .ok (.istore 4, 2) := by decide +kernel
theorem dX7_turn_36 : decode cX7_turn 36 = .ok (.aload_n 0, 1) := by decide +kernel
theorem dX7_turn_37 : decode cX7_turn 37 = .ok (.getfield 49, 3) := by decide +kernel
theorem dX7_turn_40 : decode cX7_turn 40 = .ok (.aload_n 0, 1) := by decide +kernel
theorem dX7_turn_41 : decode cX7_turn 41 = .ok (.getfield 73, 3) := by decide +kernel
theorem dX7_turn_44 : decode cX7_turn 44 = .ok (.getfield 249, 3) := by decide +kernel
theorem dX7_turn_47 : decode cX7_turn 47 = .ok (.invokevirtual 250, 3) := by decide +kernel
theorem dX7_turn_50 : decode cX7_turn 50 = .ok (.iload 4, 2) := by decide +kernel
theorem dX7_turn_52 : decode cX7_turn 52 = .ok (.ireturn, 1) := by decide +kernel
set_option maxHeartbeats 4000000 in
set_option maxRecDepth 100000 in
theorem x_turn (l : Launch) (D : va_G) (k : Nat → ClassId) (st : Nat → Nat) (lo : Nat) (a : Nat → Nat) (rk : Nat) (lfa : Int32) (n0 : Nat) (see0 : Nat) (tm0 : Nat) (g0 : Nat → Int32) (fp0 : Nat → Int32) (fl0 : Nat → Int32) (n1 : Nat) (see1 : Nat) (tm1 : Nat) (g1 : Nat → Int32) (fp1 : Nat → Int32) (fl1 : Nat → Int32) (n2 : Nat) (see2 : Nat) (tm2 : Nat) (g2 : Nat → Int32) (fp2 : Nat → Int32) (fl2 : Nat → Int32) (cc : Nat) (rz : Nat) (ro : Int32) (sd : Int32) (wk : Nat → Int32) (br : Nat → Nat) (pn : Int32) (pf : Int32) (pd : Int32) (pe : Int32) (pb : Nat → Nat) (pco : Nat → Int32) (pg : Nat → Int32) (p0 : Int32) (p1 : Int32) (hn0 : n0 ≤ 24) (hse0 : see0 ≤ 2) (htm0 : tm0 ≤ 3) (hn1 : n1 ≤ 24) (hse1 : see1 ≤ 2) (htm1 : tm1 ≤ 3) (hn2 : n2 ≤ 24) (hse2 : see2 ≤ 2) (htm2 : tm2 ≤ 3) (hcc : cc ≤ 4) (hbr : ∀ j, br j ≤ 24) (hpb : ∀ j, pb j ≤ 24) : CWi l D k st lo yX7_turn cX7_turn 5 (some .int) ({ frames := 5, cells := 0, slots := 0, locals := 117 }) 0 0 [.ref (a 0), .int p0, .int p1] [((a 0), .inr (7, (fX7 (a 1) (a 3) (a 19) (a 35) (a 40) (nI rk) lfa (a 53) (a 56) (a 63) (a 64) (a 68)))), ((a 3), .inl (k 3, 3, .inr (.inr (.inr (.inr (a3 (a 4) (a 9) (a 14))))))), ((a 4), .inr (5, (fX5 (a 5) (a 6) (a 7) (a 8)))), (aI k (a 5) 10 (vv n0 see0 tm0 g0)), (aI k (a 7) 24 fp0), (aI k (a 8) 4 fl0), ((a 9), .inr (5, (fX5 (a 10) (a 11) (a 12) (a 13)))), (aI k (a 10) 10 (vv n1 see1 tm1 g1)), (aI k (a 12) 24 fp1), (aI k (a 13) 4 fl1), ((a 14), .inr (5, (fX5 (a 15) (a 16) (a 17) (a 18)))), (aI k (a 15) 10 (vv n2 see2 tm2 g2)), (aI k (a 17) 24 fp2), (aI k (a 18) 4 fl2), ((a 53), .inr (4, (fX4 (a 54) (a 55) (nI cc) (nI rz) ro sd))), (aI k (a 54) 4 wk), (aI k (a 55) 4 (nF br)), ((a 68), .inr (1, (fX1 (a 53) (a 69) (a 70) (a 71) pn pf pd pe))), (aI k (a 69) 4 (nF pb)), (aI k (a 70) 100 pco), (aI k (a 71) 16 pg)] (fun (r : Int32) (u : Int32 × Int32 × Int32 × Int32 × (Nat → Nat) × (Nat → Int32) × (Nat → Nat)) => match u with | (pn_, pf_, pd_, pe_, pb_, pco_, br_) => (∀ j, pb_ j ≤ 24) ∧ (∀ j, br_ j ≤ 24)) (fun (u : Int32 × Int32 × Int32 × Int32 × (Nat → Nat) × (Nat → Int32) × (Nat → Nat)) => match u with | (pn_, pf_, pd_, pe_, pb_, pco_, br_) => [((a 0), .inr (7, (fX7 (a 1) (a 3) (a 19) (a 35) (a 40) (nI rk) lfa (a 53) (a 56) (a 63) (a 64) (a 68)))), ((a 3), .inl (k 3, 3, .inr (.inr (.inr (.inr (a3 (a 4) (a 9) (a 14))))))), ((a 4), .inr (5, (fX5 (a 5) (a 6) (a 7) (a 8)))), (aI k (a 5) 10 (vv n0 see0 tm0 g0)), (aI k (a 7) 24 fp0), (aI k (a 8) 4 fl0), ((a 9), .inr (5, (fX5 (a 10) (a 11) (a 12) (a 13)))), (aI k (a 10) 10 (vv n1 see1 tm1 g1)), (aI k (a 12) 24 fp1), (aI k (a 13) 4 fl1), ((a 14), .inr (5, (fX5 (a 15) (a 16) (a 17) (a 18)))), (aI k (a 15) 10 (vv n2 see2 tm2 g2)), (aI k (a 17) 24 fp2), (aI k (a 18) 4 fl2), ((a 53), .inr (4, (fX4 (a 54) (a 55) (nI cc) (nI rz) ro sd))), (aI k (a 54) 4 wk), (aI k (a 55) 4 (nF br_)), ((a 68), .inr (1, (fX1 (a 53) (a 69) (a 70) (a 71) pn_ pf_ pd_ pe_))), (aI k (a 69) 4 (nF pb_)), (aI k (a 70) 100 pco_), (aI k (a 71) 16 pg)]) := by
  intro sz
  refine Met.ofW (cc := cX7_turn) (maxL := 5) (ret := (some .int)) (by decide) rfl ?_
  intro p e s m args below meth c s₁ B hml hv
  obtain ⟨rfl, hsz, hlo, hP, hK, hDL, hZ⟩ := hv
  have hx := B.exec
  have hb := B.bytes
  have hr := B.returns
  have hts := WS_ts B.pre
  have hown : s.vm.findClass RX7 = some m.cls := findClass_of_methodNamed B.named
  have hlocks := B.notSynchronized
  subst hsz
  have hD := hDL.self (sz := s.heap.size)
  have hAlo := A_lo hDL hlo
  generalize hAe : va_A [((a 0), .inr (7, (fX7 (a 1) (a 3) (a 19) (a 35) (a 40) (nI rk) lfa (a 53) (a 56) (a 63) (a 64) (a 68)))), ((a 3), .inl (k 3, 3, .inr (.inr (.inr (.inr (a3 (a 4) (a 9) (a 14))))))), ((a 4), .inr (5, (fX5 (a 5) (a 6) (a 7) (a 8)))), (aI k (a 5) 10 (vv n0 see0 tm0 g0)), (aI k (a 7) 24 fp0), (aI k (a 8) 4 fl0), ((a 9), .inr (5, (fX5 (a 10) (a 11) (a 12) (a 13)))), (aI k (a 10) 10 (vv n1 see1 tm1 g1)), (aI k (a 12) 24 fp1), (aI k (a 13) 4 fl1), ((a 14), .inr (5, (fX5 (a 15) (a 16) (a 17) (a 18)))), (aI k (a 15) 10 (vv n2 see2 tm2 g2)), (aI k (a 17) 24 fp2), (aI k (a 18) 4 fl2), ((a 53), .inr (4, (fX4 (a 54) (a 55) (nI cc) (nI rz) ro sd))), (aI k (a 54) 4 wk), (aI k (a 55) 4 (nF br)), ((a 68), .inr (1, (fX1 (a 53) (a 69) (a 70) (a 71) pn pf pd pe))), (aI k (a 69) 4 (nF pb)), (aI k (a 70) 100 pco), (aI k (a 71) 16 pg)] s.heap.size = A at hD hAlo ⊢
  have hA : ∀ q : Nat, s.heap.size ≤ q → A q := fun q h => by rw [← hAe]; exact Or.inr h
  have hS : va_S A s.heap s.heap [] := va_S.rf
  have hl := lv_entry ([.ref (a 0), .int p0, .int p1]) (n := 5) (Nat.le_of_ble_eq_true rfl)
  rw [lg_entry_eq]
  generalize (lg_sl ([.ref (a 0), .int p0, .int p1]) ++ List.replicate (5 - (lg_sl ([.ref (a 0), .int p0, .int p1])).length) Slot.unset).toArray = ls at hl ⊢
  have hl : lv_has ls 5 [(0, .ref (a 0)), (1, .int p0), (2, .int p1)] := hl
  refine lv_aload_n hx hb dX7_turn_0 rfl (lv_at hl 0 rfl) ?_
  refine lv_iload_n hx hb dX7_turn_1 rfl (lv_at hl 1 rfl) ?_
  refine lv_iload_n hx hb dX7_turn_2 rfl (lv_at hl 2 rfl) ?_
  refine ro_i (D := D) (va_runV (As := [.int p0, .int p1]) (rest := []) ⟨hx, hb, hml, hown, hts⟩ ((x_refuseSet l D k st lo a rk lfa n0 see0 tm0 g0 n1 see1 tm1 g1 n2 see2 tm2 g2 p0 p1 (by first | assumption | omega) (by first | assumption | omega) (by first | assumption | omega)) s.heap.size) (cwV 2 hts (gV tw_850 tw_852 tw_21 tw_79 tw_853) rfl rfl rfl (by decide +kernel) ⟨Nat.le_of_ble_eq_true rfl, Nat.le_of_ble_eq_true rfl⟩) (pV hS hAlo hlo hP hK (va_Dlo hD hAlo) hZ [0, 1, 2, 3, 6, 7, 10, 11] (by decide) rfl (ci := 7) (q := (RX7, TX7, 12)) (q0 := 0) rfl rfl) rfl rfl hl.1 rfl (lv_room (Nat.le_of_ble_eq_true rfl)) dX7_turn_3 ⟨Nat.le_of_ble_eq_true rfl, Nat.le_of_ble_eq_true rfl⟩) hS hA hP (fun r_1 H locs hw_1 hP hS => ?_)
  try dsimp only at hw_1
  rcases hw_1 with ⟨rfl, rfl | rfl | rfl⟩ | rfl | rfl
  · refine lv_istore_n (lv' := [(3, .int 0), (0, .ref (a 0)), (1, .int 0), (2, .int p1)]) hx hb dX7_turn_6 rfl hl (by decide) rfl (fun ls hl => ?_)
    refine lv_iload_n hx hb dX7_turn_7 rfl (lv_at hl 0 rfl) ?_
    refine lv_if_eq (tgt := 13) hx hb dX7_turn_8 (by decide) (fun _ => ?_) (fun h => absurd (by decide) h)
    refine lv_aload_n hx hb dX7_turn_13 rfl (lv_at hl 1 rfl) ?_
    refine va_get (D := D) (ci := 7) (v := .ref (a 68)) (C := RX7) (T := TX7) (N := 12) hx hb hts inX7 hown hK hP 0 rfl rfl 11 (by decide) (hts _ tw_316) (fun _ h9 => h9) rfl dX7_turn_14 ?_
    refine lv_aload_n hx hb dX7_turn_17 rfl (lv_at hl 1 rfl) ?_
    refine va_get (D := D) (ci := 7) (v := .ref (a 3)) (C := RX7) (T := TX7) (N := 12) hx hb hts inX7 hown hK hP 0 rfl rfl 1 (by decide) (hts _ tw_306) (fun _ h9 => h9) rfl dX7_turn_18 ?_
    refine lv_iload_n hx hb dX7_turn_21 rfl (lv_at hl 2 rfl) ?_
    refine va_aldq hx hb hK hP 1 3 rfl rfl (by unfold vp_in; decide) dX7_turn_22 ?_
    refine lv_tr (y := .ref (a 4)) rfl ?_
    refine lv_iload_n hx hb dX7_turn_23 rfl (lv_at hl 3 rfl) ?_
    refine rw_v (D := D) (wr := [((a 0), .inr (7, (fX7 (a 1) (a 3) (a 19) (a 35) (a 40) (nI rk) lfa (a 53) (a 56) (a 63) (a 64) (a 68)))), ((a 3), .inl (k 3, 3, .inr (.inr (.inr (.inr (a3 (a 4) (a 9) (a 14))))))), ((a 9), .inr (5, (fX5 (a 10) (a 11) (a 12) (a 13)))), (aI k (a 10) 10 (vv n1 see1 tm1 g1)), (aI k (a 12) 24 fp1), (aI k (a 13) 4 fl1), ((a 14), .inr (5, (fX5 (a 15) (a 16) (a 17) (a 18)))), (aI k (a 15) 10 (vv n2 see2 tm2 g2)), (aI k (a 17) 24 fp2), (aI k (a 18) 4 fl2), (aI k (a 71) 16 pg)]) (va_runV (As := [.ref (a 4), .int p1]) (rest := []) ⟨hx, hb, hml, hown, hts⟩ ((x_comeTo l D k st lo (a 53) (a 68) (a 69) (a 70) (a 71) pn pf pd pe pb pco (a 4) (a 5) (a 6) (a 7) (a 8) n0 see0 tm0 g0 fp0 fl0 (a 54) (a 55) cc rz ro sd wk br p1 (by first | assumption | omega) (by first | assumption | omega) hbr hpb) H.size) (cwV 2 hts (gV tw_821 tw_822 tw_823 tw_84 tw_824) rfl rfl rfl (by decide +kernel) ⟨Nat.le_of_ble_eq_true rfl, Nat.le_of_ble_eq_true rfl⟩) (pV hS hAlo hlo hP hK (va_Dlo hD hAlo) hZ [17, 18, 19, 2, 3, 4, 5, 14, 15, 16] (by decide +kernel) rfl (ci := 1) (q := (RX1, TX1, 8)) (q0 := 0) rfl rfl) rfl rfl hl.1 rfl (lv_room (Nat.le_of_ble_eq_true rfl)) dX7_turn_24 ⟨Nat.le_of_ble_eq_true rfl, Nat.le_of_ble_eq_true rfl⟩) hS hA hP hD [17, 18, 19, 2, 3, 4, 5, 14, 15, 16] [0, 1, 6, 7, 8, 9, 10, 11, 12, 13, 20] rfl rfl (by decide +kernel) (by decide +kernel) (fun u H locs hw_2 hP hD hS => ?_)
    obtain ⟨pb__2, pco__2⟩ := u
    have hQ9 := pd_mk [((a 0), .inr (7, (fX7 (a 1) (a 3) (a 19) (a 35) (a 40) (nI rk) lfa (a 53) (a 56) (a 63) (a 64) (a 68)))), ((a 3), .inl (k 3, 3, .inr (.inr (.inr (.inr (a3 (a 4) (a 9) (a 14))))))), ((a 9), .inr (5, (fX5 (a 10) (a 11) (a 12) (a 13)))), (aI k (a 10) 10 (vv n1 see1 tm1 g1)), (aI k (a 12) 24 fp1), (aI k (a 13) 4 fl1), ((a 14), .inr (5, (fX5 (a 15) (a 16) (a 17) (a 18)))), (aI k (a 15) 10 (vv n2 see2 tm2 g2)), (aI k (a 17) 24 fp2), (aI k (a 18) 4 fl2), (aI k (a 71) 16 pg), ((a 68), .inr (1, (fX1 (a 53) (a 69) (a 70) (a 71) (nI n0) p1 0 0))), (aI k (a 69) 4 (nF pb__2)), (aI k (a 70) 100 pco__2), ((a 4), .inr (5, (fX5 (a 5) (a 6) (a 7) (a 8)))), (aI k (a 5) 10 (vv n0 see0 tm0 g0)), (aI k (a 7) 24 fp0), (aI k (a 8) 4 fl0), ((a 53), .inr (4, (fX4 (a 54) (a 55) (nI cc) (nI rz) ro sd))), (aI k (a 54) 4 wk), (aI k (a 55) 4 (nF br))] hP hD
    clear hP hD
    obtain ⟨hP, hD⟩ := hQ9
    try dsimp only at hw_2
    refine lv_aload_n hx hb dX7_turn_27 rfl (lv_at hl 1 rfl) ?_
    refine va_get (D := D) (ci := 7) (v := .ref (a 68)) (C := RX7) (T := TX7) (N := 12) hx hb hts inX7 hown hK hP 0 rfl rfl 11 (by decide) (hts _ tw_316) (fun _ h9 => h9) rfl dX7_turn_28 ?_
    refine rw_i (D := D) (wr := [((a 0), .inr (7, (fX7 (a 1) (a 3) (a 19) (a 35) (a 40) (nI rk) lfa (a 53) (a 56) (a 63) (a 64) (a 68)))), ((a 3), .inl (k 3, 3, .inr (.inr (.inr (.inr (a3 (a 4) (a 9) (a 14))))))), ((a 9), .inr (5, (fX5 (a 10) (a 11) (a 12) (a 13)))), (aI k (a 10) 10 (vv n1 see1 tm1 g1)), (aI k (a 12) 24 fp1), (aI k (a 13) 4 fl1), ((a 14), .inr (5, (fX5 (a 15) (a 16) (a 17) (a 18)))), (aI k (a 15) 10 (vv n2 see2 tm2 g2)), (aI k (a 17) 24 fp2), (aI k (a 18) 4 fl2), (aI k (a 71) 16 pg), ((a 4), .inr (5, (fX5 (a 5) (a 6) (a 7) (a 8)))), (aI k (a 5) 10 (vv n0 see0 tm0 g0)), (aI k (a 7) 24 fp0), (aI k (a 8) 4 fl0), (aI k (a 54) 4 wk), (aI k (a 55) 4 (nF br))]) (va_runV (As := []) (rest := []) ⟨hx, hb, hml, hown, hts⟩ ((x_goByTurns l D k st lo (a 53) (a 68) (a 69) (a 70) (a 71) n0 p1 0 0 pb__2 pco__2 (a 54) (a 55) cc rz ro sd (by first | assumption | omega) (by first | assumption | omega) hw_2) H.size) (cwV 0 hts (gV tw_871 tw_872 tw_873 tw_84 tw_874) rfl rfl rfl (by decide +kernel) ⟨Nat.le_of_ble_eq_true rfl, Nat.le_of_ble_eq_true rfl⟩) (pV hS hAlo hlo hP hK (va_Dlo hD hAlo) hZ [11, 12, 13, 18] (by decide) rfl (ci := 1) (q := (RX1, TX1, 8)) (q0 := 0) rfl rfl) rfl rfl hl.1 rfl (lv_room (Nat.le_of_ble_eq_true rfl)) dX7_turn_31 ⟨Nat.le_of_ble_eq_true rfl, Nat.le_of_ble_eq_true rfl⟩) hS hA hP hD [11, 12, 13, 18] [0, 1, 2, 3, 4, 5, 6, 7, 8, 9, 10, 14, 15, 16, 17, 19, 20] rfl rfl (by decide +kernel) (by decide +kernel) (fun r_3 u H locs hw_3 hP hD hS => ?_)
    obtain ⟨pb__3, rfl⟩ : ∃ z, z = u := ⟨_, rfl⟩
    have hQ9 := pd_mk [((a 0), .inr (7, (fX7 (a 1) (a 3) (a 19) (a 35) (a 40) (nI rk) lfa (a 53) (a 56) (a 63) (a 64) (a 68)))), ((a 3), .inl (k 3, 3, .inr (.inr (.inr (.inr (a3 (a 4) (a 9) (a 14))))))), ((a 9), .inr (5, (fX5 (a 10) (a 11) (a 12) (a 13)))), (aI k (a 10) 10 (vv n1 see1 tm1 g1)), (aI k (a 12) 24 fp1), (aI k (a 13) 4 fl1), ((a 14), .inr (5, (fX5 (a 15) (a 16) (a 17) (a 18)))), (aI k (a 15) 10 (vv n2 see2 tm2 g2)), (aI k (a 17) 24 fp2), (aI k (a 18) 4 fl2), (aI k (a 71) 16 pg), ((a 4), .inr (5, (fX5 (a 5) (a 6) (a 7) (a 8)))), (aI k (a 5) 10 (vv n0 see0 tm0 g0)), (aI k (a 7) 24 fp0), (aI k (a 8) 4 fl0), (aI k (a 54) 4 wk), (aI k (a 55) 4 (nF br)), ((a 68), .inr (1, (fX1 (a 53) (a 69) (a 70) (a 71) (nI n0) p1 0 0))), (aI k (a 69) 4 (nF pb__3)), (aI k (a 70) 100 pco__2), ((a 53), .inr (4, (fX4 (a 54) (a 55) (nI cc) (nI rz) ro sd)))] hP hD
    clear hP hD
    obtain ⟨hP, hD⟩ := hQ9
    try dsimp only at hw_3
    refine lv_istore (lv' := [(4, .int r_3), (3, .int 0), (0, .ref (a 0)), (1, .int 0), (2, .int p1)]) hx hb dX7_turn_34 hl (by decide) rfl (fun ls hl => ?_)
    refine lv_aload_n hx hb dX7_turn_36 rfl (lv_at hl 2 rfl) ?_
    refine va_get (D := D) (ci := 7) (v := .ref (a 53)) (C := RX7) (T := TX7) (N := 12) hx hb hts inX7 hown hK hP 0 rfl rfl 7 (by decide) (hts _ tw_312) (fun _ h9 => h9) rfl dX7_turn_37 ?_
    refine lv_aload_n hx hb dX7_turn_40 rfl (lv_at hl 2 rfl) ?_
    refine va_get (D := D) (ci := 7) (v := .ref (a 68)) (C := RX7) (T := TX7) (N := 12) hx hb hts inX7 hown hK hP 0 rfl rfl 11 (by decide) (hts _ tw_316) (fun _ h9 => h9) rfl dX7_turn_41 ?_
    refine va_get (D := D) (ci := 1) (v := .ref (a 69)) (C := RX1) (T := TX1) (N := 8) hx hb hts inX1 hown hK hP 17 rfl rfl 1 (by decide) (hts _ tw_237) (fun _ h9 => h9) rfl dX7_turn_44 ?_
    refine rw_v (D := D) (wr := [((a 0), .inr (7, (fX7 (a 1) (a 3) (a 19) (a 35) (a 40) (nI rk) lfa (a 53) (a 56) (a 63) (a 64) (a 68)))), ((a 3), .inl (k 3, 3, .inr (.inr (.inr (.inr (a3 (a 4) (a 9) (a 14))))))), ((a 9), .inr (5, (fX5 (a 10) (a 11) (a 12) (a 13)))), (aI k (a 10) 10 (vv n1 see1 tm1 g1)), (aI k (a 12) 24 fp1), (aI k (a 13) 4 fl1), ((a 14), .inr (5, (fX5 (a 15) (a 16) (a 17) (a 18)))), (aI k (a 15) 10 (vv n2 see2 tm2 g2)), (aI k (a 17) 24 fp2), (aI k (a 18) 4 fl2), (aI k (a 71) 16 pg), ((a 4), .inr (5, (fX5 (a 5) (a 6) (a 7) (a 8)))), (aI k (a 5) 10 (vv n0 see0 tm0 g0)), (aI k (a 7) 24 fp0), (aI k (a 8) 4 fl0), ((a 68), .inr (1, (fX1 (a 53) (a 69) (a 70) (a 71) (nI n0) p1 0 0))), (aI k (a 70) 100 pco__2)]) (va_runV (As := [.ref (a 69)]) (rest := []) ⟨hx, hb, hml, hown, hts⟩ ((x_takeBars l D k st lo (a 53) (a 54) (a 55) cc rz ro sd wk br (a 69) pb__3 hbr hw_3) H.size) (cwV 1 hts (gV tw_879 tw_880 tw_881 tw_82 tw_882) rfl rfl rfl (by decide +kernel) ⟨Nat.le_of_ble_eq_true rfl, Nat.le_of_ble_eq_true rfl⟩) (pV hS hAlo hlo hP hK (va_Dlo hD hAlo) hZ [20, 15, 16, 18] (by decide) rfl (ci := 4) (q := (RX4, TX4, 6)) (q0 := 0) rfl rfl) rfl rfl hl.1 rfl (lv_room (Nat.le_of_ble_eq_true rfl)) dX7_turn_47 ⟨Nat.le_of_ble_eq_true rfl, Nat.le_of_ble_eq_true rfl⟩) hS hA hP hD [20, 15, 16, 18] [0, 1, 2, 3, 4, 5, 6, 7, 8, 9, 10, 11, 12, 13, 14, 17, 19] rfl rfl (by decide +kernel) (by decide +kernel) (fun u H locs hw_4 hP hD hS => ?_)
    obtain ⟨br__4, rfl⟩ : ∃ z, z = u := ⟨_, rfl⟩
    have hQ9 := pd_mk [((a 0), .inr (7, (fX7 (a 1) (a 3) (a 19) (a 35) (a 40) (nI rk) lfa (a 53) (a 56) (a 63) (a 64) (a 68)))), ((a 3), .inl (k 3, 3, .inr (.inr (.inr (.inr (a3 (a 4) (a 9) (a 14))))))), ((a 9), .inr (5, (fX5 (a 10) (a 11) (a 12) (a 13)))), (aI k (a 10) 10 (vv n1 see1 tm1 g1)), (aI k (a 12) 24 fp1), (aI k (a 13) 4 fl1), ((a 14), .inr (5, (fX5 (a 15) (a 16) (a 17) (a 18)))), (aI k (a 15) 10 (vv n2 see2 tm2 g2)), (aI k (a 17) 24 fp2), (aI k (a 18) 4 fl2), (aI k (a 71) 16 pg), ((a 4), .inr (5, (fX5 (a 5) (a 6) (a 7) (a 8)))), (aI k (a 5) 10 (vv n0 see0 tm0 g0)), (aI k (a 7) 24 fp0), (aI k (a 8) 4 fl0), ((a 68), .inr (1, (fX1 (a 53) (a 69) (a 70) (a 71) (nI n0) p1 0 0))), (aI k (a 70) 100 pco__2), ((a 53), .inr (4, (fX4 (a 54) (a 55) (nI cc) (nI rz) ro sd))), (aI k (a 54) 4 wk), (aI k (a 55) 4 (nF br__4)), (aI k (a 69) 4 (nF pb__3))] hP hD
    clear hP hD
    obtain ⟨hP, hD⟩ := hQ9
    try dsimp only at hw_4
    refine lv_iload hx hb dX7_turn_50 (lv_at hl 0 rfl) ?_
    obtain ⟨hP9, hD9⟩ := pd_sub [((a 0), .inr (7, (fX7 (a 1) (a 3) (a 19) (a 35) (a 40) (nI rk) lfa (a 53) (a 56) (a 63) (a 64) (a 68)))), ((a 3), .inl (k 3, 3, .inr (.inr (.inr (.inr (a3 (a 4) (a 9) (a 14))))))), ((a 4), .inr (5, (fX5 (a 5) (a 6) (a 7) (a 8)))), (aI k (a 5) 10 (vv n0 see0 tm0 g0)), (aI k (a 7) 24 fp0), (aI k (a 8) 4 fl0), ((a 9), .inr (5, (fX5 (a 10) (a 11) (a 12) (a 13)))), (aI k (a 10) 10 (vv n1 see1 tm1 g1)), (aI k (a 12) 24 fp1), (aI k (a 13) 4 fl1), ((a 14), .inr (5, (fX5 (a 15) (a 16) (a 17) (a 18)))), (aI k (a 15) 10 (vv n2 see2 tm2 g2)), (aI k (a 17) 24 fp2), (aI k (a 18) 4 fl2), ((a 53), .inr (4, (fX4 (a 54) (a 55) (nI cc) (nI rz) ro sd))), (aI k (a 54) 4 wk), (aI k (a 55) 4 (nF br__4)), ((a 68), .inr (1, (fX1 (a 53) (a 69) (a 70) (a 71) (nI n0) p1 0 0))), (aI k (a 69) 4 (nF pb__3)), (aI k (a 70) 100 pco__2), (aI k (a 71) 16 pg)] [0, 1, 11, 12, 13, 14, 2, 3, 4, 5, 6, 7, 8, 9, 17, 18, 19, 15, 20, 16, 10] hP hD (by decide +kernel) rfl
    exact W.iret (v := r_3) hx hb hr (fun t ht hW => ⟨⟨r_3, ((nI n0), p1, 0, 0, pb__3, pco__2, br__4), rfl, ⟨hw_3, hw_4⟩, by rw [ht]; exact hP9, hD9⟩, hS.F ht⟩) hS.2.2 dX7_turn_52
  · refine lv_istore_n (lv' := [(3, .int 0), (0, .ref (a 0)), (1, .int 1), (2, .int p1)]) hx hb dX7_turn_6 rfl hl (by decide) rfl (fun ls hl => ?_)
    refine lv_iload_n hx hb dX7_turn_7 rfl (lv_at hl 0 rfl) ?_
    refine lv_if_eq (tgt := 13) hx hb dX7_turn_8 (by decide) (fun _ => ?_) (fun h => absurd (by decide) h)
    refine lv_aload_n hx hb dX7_turn_13 rfl (lv_at hl 1 rfl) ?_
    refine va_get (D := D) (ci := 7) (v := .ref (a 68)) (C := RX7) (T := TX7) (N := 12) hx hb hts inX7 hown hK hP 0 rfl rfl 11 (by decide) (hts _ tw_316) (fun _ h9 => h9) rfl dX7_turn_14 ?_
    refine lv_aload_n hx hb dX7_turn_17 rfl (lv_at hl 1 rfl) ?_
    refine va_get (D := D) (ci := 7) (v := .ref (a 3)) (C := RX7) (T := TX7) (N := 12) hx hb hts inX7 hown hK hP 0 rfl rfl 1 (by decide) (hts _ tw_306) (fun _ h9 => h9) rfl dX7_turn_18 ?_
    refine lv_iload_n hx hb dX7_turn_21 rfl (lv_at hl 2 rfl) ?_
    refine va_aldq hx hb hK hP 1 3 rfl rfl (by unfold vp_in; decide) dX7_turn_22 ?_
    refine lv_tr (y := .ref (a 9)) rfl ?_
    refine lv_iload_n hx hb dX7_turn_23 rfl (lv_at hl 3 rfl) ?_
    refine rw_v (D := D) (wr := [((a 0), .inr (7, (fX7 (a 1) (a 3) (a 19) (a 35) (a 40) (nI rk) lfa (a 53) (a 56) (a 63) (a 64) (a 68)))), ((a 3), .inl (k 3, 3, .inr (.inr (.inr (.inr (a3 (a 4) (a 9) (a 14))))))), ((a 4), .inr (5, (fX5 (a 5) (a 6) (a 7) (a 8)))), (aI k (a 5) 10 (vv n0 see0 tm0 g0)), (aI k (a 7) 24 fp0), (aI k (a 8) 4 fl0), ((a 14), .inr (5, (fX5 (a 15) (a 16) (a 17) (a 18)))), (aI k (a 15) 10 (vv n2 see2 tm2 g2)), (aI k (a 17) 24 fp2), (aI k (a 18) 4 fl2), (aI k (a 71) 16 pg)]) (va_runV (As := [.ref (a 9), .int p1]) (rest := []) ⟨hx, hb, hml, hown, hts⟩ ((x_comeTo l D k st lo (a 53) (a 68) (a 69) (a 70) (a 71) pn pf pd pe pb pco (a 9) (a 10) (a 11) (a 12) (a 13) n1 see1 tm1 g1 fp1 fl1 (a 54) (a 55) cc rz ro sd wk br p1 (by first | assumption | omega) (by first | assumption | omega) hbr hpb) H.size) (cwV 2 hts (gV tw_821 tw_822 tw_823 tw_84 tw_824) rfl rfl rfl (by decide +kernel) ⟨Nat.le_of_ble_eq_true rfl, Nat.le_of_ble_eq_true rfl⟩) (pV hS hAlo hlo hP hK (va_Dlo hD hAlo) hZ [17, 18, 19, 6, 7, 8, 9, 14, 15, 16] (by decide +kernel) rfl (ci := 1) (q := (RX1, TX1, 8)) (q0 := 0) rfl rfl) rfl rfl hl.1 rfl (lv_room (Nat.le_of_ble_eq_true rfl)) dX7_turn_24 ⟨Nat.le_of_ble_eq_true rfl, Nat.le_of_ble_eq_true rfl⟩) hS hA hP hD [17, 18, 19, 6, 7, 8, 9, 14, 15, 16] [0, 1, 2, 3, 4, 5, 10, 11, 12, 13, 20] rfl rfl (by decide +kernel) (by decide +kernel) (fun u H locs hw_5 hP hD hS => ?_)
    obtain ⟨pb__5, pco__5⟩ := u
    have hQ9 := pd_mk [((a 0), .inr (7, (fX7 (a 1) (a 3) (a 19) (a 35) (a 40) (nI rk) lfa (a 53) (a 56) (a 63) (a 64) (a 68)))), ((a 3), .inl (k 3, 3, .inr (.inr (.inr (.inr (a3 (a 4) (a 9) (a 14))))))), ((a 4), .inr (5, (fX5 (a 5) (a 6) (a 7) (a 8)))), (aI k (a 5) 10 (vv n0 see0 tm0 g0)), (aI k (a 7) 24 fp0), (aI k (a 8) 4 fl0), ((a 14), .inr (5, (fX5 (a 15) (a 16) (a 17) (a 18)))), (aI k (a 15) 10 (vv n2 see2 tm2 g2)), (aI k (a 17) 24 fp2), (aI k (a 18) 4 fl2), (aI k (a 71) 16 pg), ((a 68), .inr (1, (fX1 (a 53) (a 69) (a 70) (a 71) (nI n1) p1 0 0))), (aI k (a 69) 4 (nF pb__5)), (aI k (a 70) 100 pco__5), ((a 9), .inr (5, (fX5 (a 10) (a 11) (a 12) (a 13)))), (aI k (a 10) 10 (vv n1 see1 tm1 g1)), (aI k (a 12) 24 fp1), (aI k (a 13) 4 fl1), ((a 53), .inr (4, (fX4 (a 54) (a 55) (nI cc) (nI rz) ro sd))), (aI k (a 54) 4 wk), (aI k (a 55) 4 (nF br))] hP hD
    clear hP hD
    obtain ⟨hP, hD⟩ := hQ9
    try dsimp only at hw_5
    refine lv_aload_n hx hb dX7_turn_27 rfl (lv_at hl 1 rfl) ?_
    refine va_get (D := D) (ci := 7) (v := .ref (a 68)) (C := RX7) (T := TX7) (N := 12) hx hb hts inX7 hown hK hP 0 rfl rfl 11 (by decide) (hts _ tw_316) (fun _ h9 => h9) rfl dX7_turn_28 ?_
    refine rw_i (D := D) (wr := [((a 0), .inr (7, (fX7 (a 1) (a 3) (a 19) (a 35) (a 40) (nI rk) lfa (a 53) (a 56) (a 63) (a 64) (a 68)))), ((a 3), .inl (k 3, 3, .inr (.inr (.inr (.inr (a3 (a 4) (a 9) (a 14))))))), ((a 4), .inr (5, (fX5 (a 5) (a 6) (a 7) (a 8)))), (aI k (a 5) 10 (vv n0 see0 tm0 g0)), (aI k (a 7) 24 fp0), (aI k (a 8) 4 fl0), ((a 14), .inr (5, (fX5 (a 15) (a 16) (a 17) (a 18)))), (aI k (a 15) 10 (vv n2 see2 tm2 g2)), (aI k (a 17) 24 fp2), (aI k (a 18) 4 fl2), (aI k (a 71) 16 pg), ((a 9), .inr (5, (fX5 (a 10) (a 11) (a 12) (a 13)))), (aI k (a 10) 10 (vv n1 see1 tm1 g1)), (aI k (a 12) 24 fp1), (aI k (a 13) 4 fl1), (aI k (a 54) 4 wk), (aI k (a 55) 4 (nF br))]) (va_runV (As := []) (rest := []) ⟨hx, hb, hml, hown, hts⟩ ((x_goByTurns l D k st lo (a 53) (a 68) (a 69) (a 70) (a 71) n1 p1 0 0 pb__5 pco__5 (a 54) (a 55) cc rz ro sd (by first | assumption | omega) (by first | assumption | omega) hw_5) H.size) (cwV 0 hts (gV tw_871 tw_872 tw_873 tw_84 tw_874) rfl rfl rfl (by decide +kernel) ⟨Nat.le_of_ble_eq_true rfl, Nat.le_of_ble_eq_true rfl⟩) (pV hS hAlo hlo hP hK (va_Dlo hD hAlo) hZ [11, 12, 13, 18] (by decide) rfl (ci := 1) (q := (RX1, TX1, 8)) (q0 := 0) rfl rfl) rfl rfl hl.1 rfl (lv_room (Nat.le_of_ble_eq_true rfl)) dX7_turn_31 ⟨Nat.le_of_ble_eq_true rfl, Nat.le_of_ble_eq_true rfl⟩) hS hA hP hD [11, 12, 13, 18] [0, 1, 2, 3, 4, 5, 6, 7, 8, 9, 10, 14, 15, 16, 17, 19, 20] rfl rfl (by decide +kernel) (by decide +kernel) (fun r_6 u H locs hw_6 hP hD hS => ?_)
    obtain ⟨pb__6, rfl⟩ : ∃ z, z = u := ⟨_, rfl⟩
    have hQ9 := pd_mk [((a 0), .inr (7, (fX7 (a 1) (a 3) (a 19) (a 35) (a 40) (nI rk) lfa (a 53) (a 56) (a 63) (a 64) (a 68)))), ((a 3), .inl (k 3, 3, .inr (.inr (.inr (.inr (a3 (a 4) (a 9) (a 14))))))), ((a 4), .inr (5, (fX5 (a 5) (a 6) (a 7) (a 8)))), (aI k (a 5) 10 (vv n0 see0 tm0 g0)), (aI k (a 7) 24 fp0), (aI k (a 8) 4 fl0), ((a 14), .inr (5, (fX5 (a 15) (a 16) (a 17) (a 18)))), (aI k (a 15) 10 (vv n2 see2 tm2 g2)), (aI k (a 17) 24 fp2), (aI k (a 18) 4 fl2), (aI k (a 71) 16 pg), ((a 9), .inr (5, (fX5 (a 10) (a 11) (a 12) (a 13)))), (aI k (a 10) 10 (vv n1 see1 tm1 g1)), (aI k (a 12) 24 fp1), (aI k (a 13) 4 fl1), (aI k (a 54) 4 wk), (aI k (a 55) 4 (nF br)), ((a 68), .inr (1, (fX1 (a 53) (a 69) (a 70) (a 71) (nI n1) p1 0 0))), (aI k (a 69) 4 (nF pb__6)), (aI k (a 70) 100 pco__5), ((a 53), .inr (4, (fX4 (a 54) (a 55) (nI cc) (nI rz) ro sd)))] hP hD
    clear hP hD
    obtain ⟨hP, hD⟩ := hQ9
    try dsimp only at hw_6
    refine lv_istore (lv' := [(4, .int r_6), (3, .int 0), (0, .ref (a 0)), (1, .int 1), (2, .int p1)]) hx hb dX7_turn_34 hl (by decide) rfl (fun ls hl => ?_)
    refine lv_aload_n hx hb dX7_turn_36 rfl (lv_at hl 2 rfl) ?_
    refine va_get (D := D) (ci := 7) (v := .ref (a 53)) (C := RX7) (T := TX7) (N := 12) hx hb hts inX7 hown hK hP 0 rfl rfl 7 (by decide) (hts _ tw_312) (fun _ h9 => h9) rfl dX7_turn_37 ?_
    refine lv_aload_n hx hb dX7_turn_40 rfl (lv_at hl 2 rfl) ?_
    refine va_get (D := D) (ci := 7) (v := .ref (a 68)) (C := RX7) (T := TX7) (N := 12) hx hb hts inX7 hown hK hP 0 rfl rfl 11 (by decide) (hts _ tw_316) (fun _ h9 => h9) rfl dX7_turn_41 ?_
    refine va_get (D := D) (ci := 1) (v := .ref (a 69)) (C := RX1) (T := TX1) (N := 8) hx hb hts inX1 hown hK hP 17 rfl rfl 1 (by decide) (hts _ tw_237) (fun _ h9 => h9) rfl dX7_turn_44 ?_
    refine rw_v (D := D) (wr := [((a 0), .inr (7, (fX7 (a 1) (a 3) (a 19) (a 35) (a 40) (nI rk) lfa (a 53) (a 56) (a 63) (a 64) (a 68)))), ((a 3), .inl (k 3, 3, .inr (.inr (.inr (.inr (a3 (a 4) (a 9) (a 14))))))), ((a 4), .inr (5, (fX5 (a 5) (a 6) (a 7) (a 8)))), (aI k (a 5) 10 (vv n0 see0 tm0 g0)), (aI k (a 7) 24 fp0), (aI k (a 8) 4 fl0), ((a 14), .inr (5, (fX5 (a 15) (a 16) (a 17) (a 18)))), (aI k (a 15) 10 (vv n2 see2 tm2 g2)), (aI k (a 17) 24 fp2), (aI k (a 18) 4 fl2), (aI k (a 71) 16 pg), ((a 9), .inr (5, (fX5 (a 10) (a 11) (a 12) (a 13)))), (aI k (a 10) 10 (vv n1 see1 tm1 g1)), (aI k (a 12) 24 fp1), (aI k (a 13) 4 fl1), ((a 68), .inr (1, (fX1 (a 53) (a 69) (a 70) (a 71) (nI n1) p1 0 0))), (aI k (a 70) 100 pco__5)]) (va_runV (As := [.ref (a 69)]) (rest := []) ⟨hx, hb, hml, hown, hts⟩ ((x_takeBars l D k st lo (a 53) (a 54) (a 55) cc rz ro sd wk br (a 69) pb__6 hbr hw_6) H.size) (cwV 1 hts (gV tw_879 tw_880 tw_881 tw_82 tw_882) rfl rfl rfl (by decide +kernel) ⟨Nat.le_of_ble_eq_true rfl, Nat.le_of_ble_eq_true rfl⟩) (pV hS hAlo hlo hP hK (va_Dlo hD hAlo) hZ [20, 15, 16, 18] (by decide) rfl (ci := 4) (q := (RX4, TX4, 6)) (q0 := 0) rfl rfl) rfl rfl hl.1 rfl (lv_room (Nat.le_of_ble_eq_true rfl)) dX7_turn_47 ⟨Nat.le_of_ble_eq_true rfl, Nat.le_of_ble_eq_true rfl⟩) hS hA hP hD [20, 15, 16, 18] [0, 1, 2, 3, 4, 5, 6, 7, 8, 9, 10, 11, 12, 13, 14, 17, 19] rfl rfl (by decide +kernel) (by decide +kernel) (fun u H locs hw_7 hP hD hS => ?_)
    obtain ⟨br__7, rfl⟩ : ∃ z, z = u := ⟨_, rfl⟩
    have hQ9 := pd_mk [((a 0), .inr (7, (fX7 (a 1) (a 3) (a 19) (a 35) (a 40) (nI rk) lfa (a 53) (a 56) (a 63) (a 64) (a 68)))), ((a 3), .inl (k 3, 3, .inr (.inr (.inr (.inr (a3 (a 4) (a 9) (a 14))))))), ((a 4), .inr (5, (fX5 (a 5) (a 6) (a 7) (a 8)))), (aI k (a 5) 10 (vv n0 see0 tm0 g0)), (aI k (a 7) 24 fp0), (aI k (a 8) 4 fl0), ((a 14), .inr (5, (fX5 (a 15) (a 16) (a 17) (a 18)))), (aI k (a 15) 10 (vv n2 see2 tm2 g2)), (aI k (a 17) 24 fp2), (aI k (a 18) 4 fl2), (aI k (a 71) 16 pg), ((a 9), .inr (5, (fX5 (a 10) (a 11) (a 12) (a 13)))), (aI k (a 10) 10 (vv n1 see1 tm1 g1)), (aI k (a 12) 24 fp1), (aI k (a 13) 4 fl1), ((a 68), .inr (1, (fX1 (a 53) (a 69) (a 70) (a 71) (nI n1) p1 0 0))), (aI k (a 70) 100 pco__5), ((a 53), .inr (4, (fX4 (a 54) (a 55) (nI cc) (nI rz) ro sd))), (aI k (a 54) 4 wk), (aI k (a 55) 4 (nF br__7)), (aI k (a 69) 4 (nF pb__6))] hP hD
    clear hP hD
    obtain ⟨hP, hD⟩ := hQ9
    try dsimp only at hw_7
    refine lv_iload hx hb dX7_turn_50 (lv_at hl 0 rfl) ?_
    obtain ⟨hP9, hD9⟩ := pd_sub [((a 0), .inr (7, (fX7 (a 1) (a 3) (a 19) (a 35) (a 40) (nI rk) lfa (a 53) (a 56) (a 63) (a 64) (a 68)))), ((a 3), .inl (k 3, 3, .inr (.inr (.inr (.inr (a3 (a 4) (a 9) (a 14))))))), ((a 4), .inr (5, (fX5 (a 5) (a 6) (a 7) (a 8)))), (aI k (a 5) 10 (vv n0 see0 tm0 g0)), (aI k (a 7) 24 fp0), (aI k (a 8) 4 fl0), ((a 9), .inr (5, (fX5 (a 10) (a 11) (a 12) (a 13)))), (aI k (a 10) 10 (vv n1 see1 tm1 g1)), (aI k (a 12) 24 fp1), (aI k (a 13) 4 fl1), ((a 14), .inr (5, (fX5 (a 15) (a 16) (a 17) (a 18)))), (aI k (a 15) 10 (vv n2 see2 tm2 g2)), (aI k (a 17) 24 fp2), (aI k (a 18) 4 fl2), ((a 53), .inr (4, (fX4 (a 54) (a 55) (nI cc) (nI rz) ro sd))), (aI k (a 54) 4 wk), (aI k (a 55) 4 (nF br__7)), ((a 68), .inr (1, (fX1 (a 53) (a 69) (a 70) (a 71) (nI n1) p1 0 0))), (aI k (a 69) 4 (nF pb__6)), (aI k (a 70) 100 pco__5), (aI k (a 71) 16 pg)] [0, 1, 2, 3, 4, 5, 11, 12, 13, 14, 6, 7, 8, 9, 17, 18, 19, 15, 20, 16, 10] hP hD (by decide +kernel) rfl
    exact W.iret (v := r_6) hx hb hr (fun t ht hW => ⟨⟨r_6, ((nI n1), p1, 0, 0, pb__6, pco__5, br__7), rfl, ⟨hw_6, hw_7⟩, by rw [ht]; exact hP9, hD9⟩, hS.F ht⟩) hS.2.2 dX7_turn_52
  · refine lv_istore_n (lv' := [(3, .int 0), (0, .ref (a 0)), (1, .int 2), (2, .int p1)]) hx hb dX7_turn_6 rfl hl (by decide) rfl (fun ls hl => ?_)
    refine lv_iload_n hx hb dX7_turn_7 rfl (lv_at hl 0 rfl) ?_
    refine lv_if_eq (tgt := 13) hx hb dX7_turn_8 (by decide) (fun _ => ?_) (fun h => absurd (by decide) h)
    refine lv_aload_n hx hb dX7_turn_13 rfl (lv_at hl 1 rfl) ?_
    refine va_get (D := D) (ci := 7) (v := .ref (a 68)) (C := RX7) (T := TX7) (N := 12) hx hb hts inX7 hown hK hP 0 rfl rfl 11 (by decide) (hts _ tw_316) (fun _ h9 => h9) rfl dX7_turn_14 ?_
    refine lv_aload_n hx hb dX7_turn_17 rfl (lv_at hl 1 rfl) ?_
    refine va_get (D := D) (ci := 7) (v := .ref (a 3)) (C := RX7) (T := TX7) (N := 12) hx hb hts inX7 hown hK hP 0 rfl rfl 1 (by decide) (hts _ tw_306) (fun _ h9 => h9) rfl dX7_turn_18 ?_
    refine lv_iload_n hx hb dX7_turn_21 rfl (lv_at hl 2 rfl) ?_
    refine va_aldq hx hb hK hP 1 3 rfl rfl (by unfold vp_in; decide) dX7_turn_22 ?_
    refine lv_tr (y := .ref (a 14)) rfl ?_
    refine lv_iload_n hx hb dX7_turn_23 rfl (lv_at hl 3 rfl) ?_
    refine rw_v (D := D) (wr := [((a 0), .inr (7, (fX7 (a 1) (a 3) (a 19) (a 35) (a 40) (nI rk) lfa (a 53) (a 56) (a 63) (a 64) (a 68)))), ((a 3), .inl (k 3, 3, .inr (.inr (.inr (.inr (a3 (a 4) (a 9) (a 14))))))), ((a 4), .inr (5, (fX5 (a 5) (a 6) (a 7) (a 8)))), (aI k (a 5) 10 (vv n0 see0 tm0 g0)), (aI k (a 7) 24 fp0), (aI k (a 8) 4 fl0), ((a 9), .inr (5, (fX5 (a 10) (a 11) (a 12) (a 13)))), (aI k (a 10) 10 (vv n1 see1 tm1 g1)), (aI k (a 12) 24 fp1), (aI k (a 13) 4 fl1), (aI k (a 71) 16 pg)]) (va_runV (As := [.ref (a 14), .int p1]) (rest := []) ⟨hx, hb, hml, hown, hts⟩ ((x_comeTo l D k st lo (a 53) (a 68) (a 69) (a 70) (a 71) pn pf pd pe pb pco (a 14) (a 15) (a 16) (a 17) (a 18) n2 see2 tm2 g2 fp2 fl2 (a 54) (a 55) cc rz ro sd wk br p1 (by first | assumption | omega) (by first | assumption | omega) hbr hpb) H.size) (cwV 2 hts (gV tw_821 tw_822 tw_823 tw_84 tw_824) rfl rfl rfl (by decide +kernel) ⟨Nat.le_of_ble_eq_true rfl, Nat.le_of_ble_eq_true rfl⟩) (pV hS hAlo hlo hP hK (va_Dlo hD hAlo) hZ [17, 18, 19, 10, 11, 12, 13, 14, 15, 16] (by decide +kernel) rfl (ci := 1) (q := (RX1, TX1, 8)) (q0 := 0) rfl rfl) rfl rfl hl.1 rfl (lv_room (Nat.le_of_ble_eq_true rfl)) dX7_turn_24 ⟨Nat.le_of_ble_eq_true rfl, Nat.le_of_ble_eq_true rfl⟩) hS hA hP hD [17, 18, 19, 10, 11, 12, 13, 14, 15, 16] [0, 1, 2, 3, 4, 5, 6, 7, 8, 9, 20] rfl rfl (by decide +kernel) (by decide +kernel) (fun u H locs hw_8 hP hD hS => ?_)
    obtain ⟨pb__8, pco__8⟩ := u
    have hQ9 := pd_mk [((a 0), .inr (7, (fX7 (a 1) (a 3) (a 19) (a 35) (a 40) (nI rk) lfa (a 53) (a 56) (a 63) (a 64) (a 68)))), ((a 3), .inl (k 3, 3, .inr (.inr (.inr (.inr (a3 (a 4) (a 9) (a 14))))))), ((a 4), .inr (5, (fX5 (a 5) (a 6) (a 7) (a 8)))), (aI k (a 5) 10 (vv n0 see0 tm0 g0)), (aI k (a 7) 24 fp0), (aI k (a 8) 4 fl0), ((a 9), .inr (5, (fX5 (a 10) (a 11) (a 12) (a 13)))), (aI k (a 10) 10 (vv n1 see1 tm1 g1)), (aI k (a 12) 24 fp1), (aI k (a 13) 4 fl1), (aI k (a 71) 16 pg), ((a 68), .inr (1, (fX1 (a 53) (a 69) (a 70) (a 71) (nI n2) p1 0 0))), (aI k (a 69) 4 (nF pb__8)), (aI k (a 70) 100 pco__8), ((a 14), .inr (5, (fX5 (a 15) (a 16) (a 17) (a 18)))), (aI k (a 15) 10 (vv n2 see2 tm2 g2)), (aI k (a 17) 24 fp2), (aI k (a 18) 4 fl2), ((a 53), .inr (4, (fX4 (a 54) (a 55) (nI cc) (nI rz) ro sd))), (aI k (a 54) 4 wk), (aI k (a 55) 4 (nF br))] hP hD
    clear hP hD
    obtain ⟨hP, hD⟩ := hQ9
    try dsimp only at hw_8
    refine lv_aload_n hx hb dX7_turn_27 rfl (lv_at hl 1 rfl) ?_
    refine va_get (D := D) (ci := 7) (v := .ref (a 68)) (C := RX7) (T := TX7) (N := 12) hx hb hts inX7 hown hK hP 0 rfl rfl 11 (by decide) (hts _ tw_316) (fun _ h9 => h9) rfl dX7_turn_28 ?_
    refine rw_i (D := D) (wr := [((a 0), .inr (7, (fX7 (a 1) (a 3) (a 19) (a 35) (a 40) (nI rk) lfa (a 53) (a 56) (a 63) (a 64) (a 68)))), ((a 3), .inl (k 3, 3, .inr (.inr (.inr (.inr (a3 (a 4) (a 9) (a 14))))))), ((a 4), .inr (5, (fX5 (a 5) (a 6) (a 7) (a 8)))), (aI k (a 5) 10 (vv n0 see0 tm0 g0)), (aI k (a 7) 24 fp0), (aI k (a 8) 4 fl0), ((a 9), .inr (5, (fX5 (a 10) (a 11) (a 12) (a 13)))), (aI k (a 10) 10 (vv n1 see1 tm1 g1)), (aI k (a 12) 24 fp1), (aI k (a 13) 4 fl1), (aI k (a 71) 16 pg), ((a 14), .inr (5, (fX5 (a 15) (a 16) (a 17) (a 18)))), (aI k (a 15) 10 (vv n2 see2 tm2 g2)), (aI k (a 17) 24 fp2), (aI k (a 18) 4 fl2), (aI k (a 54) 4 wk), (aI k (a 55) 4 (nF br))]) (va_runV (As := []) (rest := []) ⟨hx, hb, hml, hown, hts⟩ ((x_goByTurns l D k st lo (a 53) (a 68) (a 69) (a 70) (a 71) n2 p1 0 0 pb__8 pco__8 (a 54) (a 55) cc rz ro sd (by first | assumption | omega) (by first | assumption | omega) hw_8) H.size) (cwV 0 hts (gV tw_871 tw_872 tw_873 tw_84 tw_874) rfl rfl rfl (by decide +kernel) ⟨Nat.le_of_ble_eq_true rfl, Nat.le_of_ble_eq_true rfl⟩) (pV hS hAlo hlo hP hK (va_Dlo hD hAlo) hZ [11, 12, 13, 18] (by decide) rfl (ci := 1) (q := (RX1, TX1, 8)) (q0 := 0) rfl rfl) rfl rfl hl.1 rfl (lv_room (Nat.le_of_ble_eq_true rfl)) dX7_turn_31 ⟨Nat.le_of_ble_eq_true rfl, Nat.le_of_ble_eq_true rfl⟩) hS hA hP hD [11, 12, 13, 18] [0, 1, 2, 3, 4, 5, 6, 7, 8, 9, 10, 14, 15, 16, 17, 19, 20] rfl rfl (by decide +kernel) (by decide +kernel) (fun r_9 u H locs hw_9 hP hD hS => ?_)
    obtain ⟨pb__9, rfl⟩ : ∃ z, z = u := ⟨_, rfl⟩
    have hQ9 := pd_mk [((a 0), .inr (7, (fX7 (a 1) (a 3) (a 19) (a 35) (a 40) (nI rk) lfa (a 53) (a 56) (a 63) (a 64) (a 68)))), ((a 3), .inl (k 3, 3, .inr (.inr (.inr (.inr (a3 (a 4) (a 9) (a 14))))))), ((a 4), .inr (5, (fX5 (a 5) (a 6) (a 7) (a 8)))), (aI k (a 5) 10 (vv n0 see0 tm0 g0)), (aI k (a 7) 24 fp0), (aI k (a 8) 4 fl0), ((a 9), .inr (5, (fX5 (a 10) (a 11) (a 12) (a 13)))), (aI k (a 10) 10 (vv n1 see1 tm1 g1)), (aI k (a 12) 24 fp1), (aI k (a 13) 4 fl1), (aI k (a 71) 16 pg), ((a 14), .inr (5, (fX5 (a 15) (a 16) (a 17) (a 18)))), (aI k (a 15) 10 (vv n2 see2 tm2 g2)), (aI k (a 17) 24 fp2), (aI k (a 18) 4 fl2), (aI k (a 54) 4 wk), (aI k (a 55) 4 (nF br)), ((a 68), .inr (1, (fX1 (a 53) (a 69) (a 70) (a 71) (nI n2) p1 0 0))), (aI k (a 69) 4 (nF pb__9)), (aI k (a 70) 100 pco__8), ((a 53), .inr (4, (fX4 (a 54) (a 55) (nI cc) (nI rz) ro sd)))] hP hD
    clear hP hD
    obtain ⟨hP, hD⟩ := hQ9
    try dsimp only at hw_9
    refine lv_istore (lv' := [(4, .int r_9), (3, .int 0), (0, .ref (a 0)), (1, .int 2), (2, .int p1)]) hx hb dX7_turn_34 hl (by decide) rfl (fun ls hl => ?_)
    refine lv_aload_n hx hb dX7_turn_36 rfl (lv_at hl 2 rfl) ?_
    refine va_get (D := D) (ci := 7) (v := .ref (a 53)) (C := RX7) (T := TX7) (N := 12) hx hb hts inX7 hown hK hP 0 rfl rfl 7 (by decide) (hts _ tw_312) (fun _ h9 => h9) rfl dX7_turn_37 ?_
    refine lv_aload_n hx hb dX7_turn_40 rfl (lv_at hl 2 rfl) ?_
    refine va_get (D := D) (ci := 7) (v := .ref (a 68)) (C := RX7) (T := TX7) (N := 12) hx hb hts inX7 hown hK hP 0 rfl rfl 11 (by decide) (hts _ tw_316) (fun _ h9 => h9) rfl dX7_turn_41 ?_
    refine va_get (D := D) (ci := 1) (v := .ref (a 69)) (C := RX1) (T := TX1) (N := 8) hx hb hts inX1 hown hK hP 17 rfl rfl 1 (by decide) (hts _ tw_237) (fun _ h9 => h9) rfl dX7_turn_44 ?_
    refine rw_v (D := D) (wr := [((a 0), .inr (7, (fX7 (a 1) (a 3) (a 19) (a 35) (a 40) (nI rk) lfa (a 53) (a 56) (a 63) (a 64) (a 68)))), ((a 3), .inl (k 3, 3, .inr (.inr (.inr (.inr (a3 (a 4) (a 9) (a 14))))))), ((a 4), .inr (5, (fX5 (a 5) (a 6) (a 7) (a 8)))), (aI k (a 5) 10 (vv n0 see0 tm0 g0)), (aI k (a 7) 24 fp0), (aI k (a 8) 4 fl0), ((a 9), .inr (5, (fX5 (a 10) (a 11) (a 12) (a 13)))), (aI k (a 10) 10 (vv n1 see1 tm1 g1)), (aI k (a 12) 24 fp1), (aI k (a 13) 4 fl1), (aI k (a 71) 16 pg), ((a 14), .inr (5, (fX5 (a 15) (a 16) (a 17) (a 18)))), (aI k (a 15) 10 (vv n2 see2 tm2 g2)), (aI k (a 17) 24 fp2), (aI k (a 18) 4 fl2), ((a 68), .inr (1, (fX1 (a 53) (a 69) (a 70) (a 71) (nI n2) p1 0 0))), (aI k (a 70) 100 pco__8)]) (va_runV (As := [.ref (a 69)]) (rest := []) ⟨hx, hb, hml, hown, hts⟩ ((x_takeBars l D k st lo (a 53) (a 54) (a 55) cc rz ro sd wk br (a 69) pb__9 hbr hw_9) H.size) (cwV 1 hts (gV tw_879 tw_880 tw_881 tw_82 tw_882) rfl rfl rfl (by decide +kernel) ⟨Nat.le_of_ble_eq_true rfl, Nat.le_of_ble_eq_true rfl⟩) (pV hS hAlo hlo hP hK (va_Dlo hD hAlo) hZ [20, 15, 16, 18] (by decide) rfl (ci := 4) (q := (RX4, TX4, 6)) (q0 := 0) rfl rfl) rfl rfl hl.1 rfl (lv_room (Nat.le_of_ble_eq_true rfl)) dX7_turn_47 ⟨Nat.le_of_ble_eq_true rfl, Nat.le_of_ble_eq_true rfl⟩) hS hA hP hD [20, 15, 16, 18] [0, 1, 2, 3, 4, 5, 6, 7, 8, 9, 10, 11, 12, 13, 14, 17, 19] rfl rfl (by decide +kernel) (by decide +kernel) (fun u H locs hw_10 hP hD hS => ?_)
    obtain ⟨br__10, rfl⟩ : ∃ z, z = u := ⟨_, rfl⟩
    have hQ9 := pd_mk [((a 0), .inr (7, (fX7 (a 1) (a 3) (a 19) (a 35) (a 40) (nI rk) lfa (a 53) (a 56) (a 63) (a 64) (a 68)))), ((a 3), .inl (k 3, 3, .inr (.inr (.inr (.inr (a3 (a 4) (a 9) (a 14))))))), ((a 4), .inr (5, (fX5 (a 5) (a 6) (a 7) (a 8)))), (aI k (a 5) 10 (vv n0 see0 tm0 g0)), (aI k (a 7) 24 fp0), (aI k (a 8) 4 fl0), ((a 9), .inr (5, (fX5 (a 10) (a 11) (a 12) (a 13)))), (aI k (a 10) 10 (vv n1 see1 tm1 g1)), (aI k (a 12) 24 fp1), (aI k (a 13) 4 fl1), (aI k (a 71) 16 pg), ((a 14), .inr (5, (fX5 (a 15) (a 16) (a 17) (a 18)))), (aI k (a 15) 10 (vv n2 see2 tm2 g2)), (aI k (a 17) 24 fp2), (aI k (a 18) 4 fl2), ((a 68), .inr (1, (fX1 (a 53) (a 69) (a 70) (a 71) (nI n2) p1 0 0))), (aI k (a 70) 100 pco__8), ((a 53), .inr (4, (fX4 (a 54) (a 55) (nI cc) (nI rz) ro sd))), (aI k (a 54) 4 wk), (aI k (a 55) 4 (nF br__10)), (aI k (a 69) 4 (nF pb__9))] hP hD
    clear hP hD
    obtain ⟨hP, hD⟩ := hQ9
    try dsimp only at hw_10
    refine lv_iload hx hb dX7_turn_50 (lv_at hl 0 rfl) ?_
    obtain ⟨hP9, hD9⟩ := pd_sub [((a 0), .inr (7, (fX7 (a 1) (a 3) (a 19) (a 35) (a 40) (nI rk) lfa (a 53) (a 56) (a 63) (a 64) (a 68)))), ((a 3), .inl (k 3, 3, .inr (.inr (.inr (.inr (a3 (a 4) (a 9) (a 14))))))), ((a 4), .inr (5, (fX5 (a 5) (a 6) (a 7) (a 8)))), (aI k (a 5) 10 (vv n0 see0 tm0 g0)), (aI k (a 7) 24 fp0), (aI k (a 8) 4 fl0), ((a 9), .inr (5, (fX5 (a 10) (a 11) (a 12) (a 13)))), (aI k (a 10) 10 (vv n1 see1 tm1 g1)), (aI k (a 12) 24 fp1), (aI k (a 13) 4 fl1), ((a 14), .inr (5, (fX5 (a 15) (a 16) (a 17) (a 18)))), (aI k (a 15) 10 (vv n2 see2 tm2 g2)), (aI k (a 17) 24 fp2), (aI k (a 18) 4 fl2), ((a 53), .inr (4, (fX4 (a 54) (a 55) (nI cc) (nI rz) ro sd))), (aI k (a 54) 4 wk), (aI k (a 55) 4 (nF br__10)), ((a 68), .inr (1, (fX1 (a 53) (a 69) (a 70) (a 71) (nI n2) p1 0 0))), (aI k (a 69) 4 (nF pb__9)), (aI k (a 70) 100 pco__8), (aI k (a 71) 16 pg)] [0, 1, 2, 3, 4, 5, 6, 7, 8, 9, 11, 12, 13, 14, 17, 18, 19, 15, 20, 16, 10] hP hD (by decide +kernel) rfl
    exact W.iret (v := r_9) hx hb hr (fun t ht hW => ⟨⟨r_9, ((nI n2), p1, 0, 0, pb__9, pco__8, br__10), rfl, ⟨hw_9, hw_10⟩, by rw [ht]; exact hP9, hD9⟩, hS.F ht⟩) hS.2.2 dX7_turn_52
  · refine lv_istore_n (lv' := [(3, .int (-1001)), (0, .ref (a 0)), (1, .int p0), (2, .int p1)]) hx hb dX7_turn_6 rfl hl (by decide) rfl (fun ls hl => ?_)
    refine lv_iload_n hx hb dX7_turn_7 rfl (lv_at hl 0 rfl) ?_
    refine lv_if_eq (tgt := 13) hx hb dX7_turn_8 (by decide) (fun h => absurd h (by decide)) (fun _ => ?_)
    refine lv_iload_n hx hb dX7_turn_11 rfl (lv_at hl 0 rfl) ?_
    obtain ⟨hP9, hD9⟩ := pd_sub [((a 0), .inr (7, (fX7 (a 1) (a 3) (a 19) (a 35) (a 40) (nI rk) lfa (a 53) (a 56) (a 63) (a 64) (a 68)))), ((a 3), .inl (k 3, 3, .inr (.inr (.inr (.inr (a3 (a 4) (a 9) (a 14))))))), ((a 4), .inr (5, (fX5 (a 5) (a 6) (a 7) (a 8)))), (aI k (a 5) 10 (vv n0 see0 tm0 g0)), (aI k (a 7) 24 fp0), (aI k (a 8) 4 fl0), ((a 9), .inr (5, (fX5 (a 10) (a 11) (a 12) (a 13)))), (aI k (a 10) 10 (vv n1 see1 tm1 g1)), (aI k (a 12) 24 fp1), (aI k (a 13) 4 fl1), ((a 14), .inr (5, (fX5 (a 15) (a 16) (a 17) (a 18)))), (aI k (a 15) 10 (vv n2 see2 tm2 g2)), (aI k (a 17) 24 fp2), (aI k (a 18) 4 fl2), ((a 53), .inr (4, (fX4 (a 54) (a 55) (nI cc) (nI rz) ro sd))), (aI k (a 54) 4 wk), (aI k (a 55) 4 (nF br)), ((a 68), .inr (1, (fX1 (a 53) (a 69) (a 70) (a 71) pn pf pd pe))), (aI k (a 69) 4 (nF pb)), (aI k (a 70) 100 pco), (aI k (a 71) 16 pg)] [0, 1, 2, 3, 4, 5, 6, 7, 8, 9, 10, 11, 12, 13, 14, 15, 16, 17, 18, 19, 20] hP hD (by decide +kernel) rfl
    exact W.iret (v := (-1001)) hx hb hr (fun t ht hW => ⟨⟨(-1001), (pn, pf, pd, pe, pb, pco, br), rfl, ⟨hpb, hbr⟩, by rw [ht]; exact hP9, hD9⟩, hS.F ht⟩) hS.2.2 dX7_turn_12
  · refine lv_istore_n (lv' := [(3, .int (-1002)), (0, .ref (a 0)), (1, .int p0), (2, .int p1)]) hx hb dX7_turn_6 rfl hl (by decide) rfl (fun ls hl => ?_)
    refine lv_iload_n hx hb dX7_turn_7 rfl (lv_at hl 0 rfl) ?_
    refine lv_if_eq (tgt := 13) hx hb dX7_turn_8 (by decide) (fun h => absurd h (by decide)) (fun _ => ?_)
    refine lv_iload_n hx hb dX7_turn_11 rfl (lv_at hl 0 rfl) ?_
    obtain ⟨hP9, hD9⟩ := pd_sub [((a 0), .inr (7, (fX7 (a 1) (a 3) (a 19) (a 35) (a 40) (nI rk) lfa (a 53) (a 56) (a 63) (a 64) (a 68)))), ((a 3), .inl (k 3, 3, .inr (.inr (.inr (.inr (a3 (a 4) (a 9) (a 14))))))), ((a 4), .inr (5, (fX5 (a 5) (a 6) (a 7) (a 8)))), (aI k (a 5) 10 (vv n0 see0 tm0 g0)), (aI k (a 7) 24 fp0), (aI k (a 8) 4 fl0), ((a 9), .inr (5, (fX5 (a 10) (a 11) (a 12) (a 13)))), (aI k (a 10) 10 (vv n1 see1 tm1 g1)), (aI k (a 12) 24 fp1), (aI k (a 13) 4 fl1), ((a 14), .inr (5, (fX5 (a 15) (a 16) (a 17) (a 18)))), (aI k (a 15) 10 (vv n2 see2 tm2 g2)), (aI k (a 17) 24 fp2), (aI k (a 18) 4 fl2), ((a 53), .inr (4, (fX4 (a 54) (a 55) (nI cc) (nI rz) ro sd))), (aI k (a 54) 4 wk), (aI k (a 55) 4 (nF br)), ((a 68), .inr (1, (fX1 (a 53) (a 69) (a 70) (a 71) pn pf pd pe))), (aI k (a 69) 4 (nF pb)), (aI k (a 70) 100 pco), (aI k (a 71) 16 pg)] [0, 1, 2, 3, 4, 5, 6, 7, 8, 9, 10, 11, 12, 13, 14, 15, 16, 17, 18, 19, 20] hP hD (by decide +kernel) rfl
    exact W.iret (v := (-1002)) hx hb hr (fun t ht hW => ⟨⟨(-1002), (pn, pf, pd, pe, pb, pco, br), rfl, ⟨hpb, hbr⟩, by rw [ht]; exact hP9, hD9⟩, hS.F ht⟩) hS.2.2 dX7_turn_12


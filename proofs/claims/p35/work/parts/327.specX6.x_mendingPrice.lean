theorem dX1_mendingPrice_0 : decode cX1_mendingPrice 0 = .ok (.aload_n 0, 1) := by decide +kernel
theorem dX1_mendingPrice_1 : decode cX1_mendingPrice 1 = .ok (.iload_n 1, 1) := by decide +kernel
theorem dX1_mendingPrice_2 : decode cX1_mendingPrice 2 = .ok (.putfield 28, 3) := by decide +kernel
theorem dX1_mendingPrice_5 : decode cX1_mendingPrice 5 = .ok (.iconst 0, 1) := by decide +kernel
theorem dX1_mendingPrice_6 : decode cX1_mendingPrice 6 = .ok (.istore_n 2, 1) := by decide +kernel
theorem dX1_mendingPrice_7 : decode cX1_mendingPrice 7 = .ok (.iconst 0, 1) := by decide +kernel
theorem dX1_mendingPrice_8 : decode cX1_mendingPrice 8 = .ok (.istore_n 3, 1) := by decide +kernel
theorem dX1_mendingPrice_9 : decode cX1_mendingPrice 9 = .ok (.iconst 0, 1) := by decide +kernel
theorem dX1_mendingPrice_10 : decode cX1_mendingPrice 10 = .ok (.istore 4, 2) := by decide +kernel
theorem dX1_mendingPrice_12 : decode cX1_mendingPrice 12 = .ok (.iload 4, 2) := by decide +kernel
theorem dX1_mendingPrice_14 : decode cX1_mendingPrice 14 = .ok (.bipush 20, 2) := by decide +kernel
theorem dX1_mendingPrice_16 : decode cX1_mendingPrice 16 = .ok (.if_icmp .gt 73, 3) := by decide +kernel
theorem dX1_mendingPrice_19 : decode cX1_mendingPrice 19 = .ok (.aload_n 0, 1) := by decide +kernel
theorem dX1_mendingPrice_20 : decode cX1_mendingPrice 20 = .ok (.bipush 10, 2) := by decide +kernel
theorem dX1_mendingPrice_22 : decode cX1_mendingPrice 22 = .ok (.iload 4, 2) := by decide +kernel
theorem dX1_mendingPrice_24 : decode cX1_mendingPrice 24 = .ok (.imul, 1) := by decide +kernel
theorem dX1_mendingPrice_25 : decode cX1_mendingPrice 25 = .ok (.sipush 1000, 3) := by decide +kernel
theorem dX1_mendingPrice_28 : decode cX1_mendingPrice 28 = .ok (.imul, 1) := by decide +kernel
theorem dX1_mendingPrice_29 : decode cX1_mendingPrice 29 = .ok (.putfield 31, 3) := by decide +kernel
theorem dX1_mendingPrice_32 : decode cX1_mendingPrice 32 = .ok (.iconst 0, 1) := by decide +kernel
theorem dX1_mendingPrice_33 : decode cX1_mendingPrice 33 = .ok (.istore 5, 2) := by decide +kernel
theorem dX1_mendingPrice_35 : decode cX1_mendingPrice 35 = .ok (.iload 5, 2) := by decide +kernel
theorem dX1_mendingPrice_37 : decode cX1_mendingPrice 37 = .ok (.iconst 4, 1) := by decide +kernel
theorem dX1_mendingPrice_38 : decode cX1_mendingPrice 38 = .ok (.if_icmp .ge 17, 3) := by decide +kernel
theorem dX1_mendingPrice_41 : decode cX1_mendingPrice 41 = .ok (.aload_n 0, 1) := by decide +kernel
theorem dX1_mendingPrice_42 : decode cX1_mendingPrice 42 = .ok (.getfield 9, 3) := by decide +kernel
theorem dX1_mendingPrice_45 : decode cX1_mendingPrice 45 = .ok (.iload 5, 2) := by decide +kernel
theorem dX1_mendingPrice_47 : decode cX1_mendingPrice 47 = .ok (.iconst 0, 1) := by decide +kernel
theorem dX1_mendingPrice_48 : decode cX1_mendingPrice 48 = .ok (.iastore, 1) := by decide +kernel
theorem dX1_mendingPrice_49 : decode cX1_mendingPrice 49 = .ok (.iinc 5 1, 3) := by decide +kernel
theorem dX1_mendingPrice_52 : decode cX1_mendingPrice 52 = .ok (.goto (-17), 3) := by decide +kernel
theorem dX1_mendingPrice_55 : decode cX1_mendingPrice 55 = .ok (.aload_n 0, 1) := by decide +kernel
theorem dX1_mendingPrice_56 : decode cX1_mendingPrice 56 = .ok (.invokevirtual 102, 3) := by decide +kernel
theorem dX1_mendingPrice_59 : decode cX1_mendingPrice 59 = .ok (.pop, 1) := by decide +kernel
theorem dX1_mendingPrice_60 : decode cX1_mendingPrice 60 = .ok (.aload_n 0, 1) := by decide +kernel
theorem dX1_mendingPrice_61 : decode cX1_mendingPrice 61 = .ok (.invokevirtual 105, 3) := by decide +kernel
theorem dX1_mendingPrice_64 : decode cX1_mendingPrice 64 = .ok (.istore 5, 2) := by decide +kernel
theorem dX1_mendingPrice_66 : decode cX1_mendingPrice 66 = .ok (.iload 4, 2) := by decide +kernel
theorem dX1_mendingPrice_68 : decode cX1_mendingPrice 68 = .ok (.ifCond .eq 9, 3) := by decide +kernel
theorem dX1_mendingPrice_71 : decode cX1_mendingPrice 71 = .ok (.iload 5, 2) := by decide +kernel
theorem dX1_mendingPrice_73 : decode cX1_mendingPrice 73 = .ok (.iload_n 3, 1) := by decide +kernel
theorem dX1_mendingPrice_74 : decode cX1_mendingPrice 74 = .ok (.if_icmp .ge 9, 3) := by decide +kernel
theorem dX1_mendingPrice_77 : decode cX1_mendingPrice 77 = .ok (.iload 5, 2) := by decide +kernel
theorem dX1_mendingPrice_79 : decode cX1_mendingPrice 79 = .ok (.istore_n 3, 1) := by decide +kernel
theorem dX1_mendingPrice_80 : decode cX1_mendingPrice 80 = .ok (.iload 4, 2) := by decide +kernel
theorem dX1_mendingPrice_82 : decode cX1_mendingPrice 82 = .ok (.istore_n 2, 1) := by decide +kernel
theorem dX1_mendingPrice_83 : decode cX1_mendingPrice 83 = .ok (.iinc 4 1, 3) := by decide +kernel
theorem dX1_mendingPrice_86 : decode cX1_mendingPrice 86 = .ok (.goto (-74), 3) := by decide +kernel
theorem dX1_mendingPrice_89 : decode cX1_mendingPrice 89 = .ok (.iload_n 2, 1) := by decide +kernel
theorem dX1_mendingPrice_90 : decode cX1_mendingPrice 90 = .ok (.ireturn, 1) := by decide +kernel
set_option maxHeartbeats 4000000 in
set_option maxRecDepth 100000 in
theorem x_mendingPrice (l : Launch) (D : va_G) (k : Nat → ClassId) (st : Nat → Nat) (lo : Nat) (c0 : Nat) (z0 : Nat) (z1 : Nat) (z2 : Nat) (z3 : Nat) (pn : Nat) (pf : Int32) (pd : Int32) (pe : Int32) (pb : Nat → Nat) (pco : Nat → Int32) (c1 : Nat) (c2 : Nat) (cc : Nat) (rz : Nat) (ro : Int32) (sd : Int32) (p0 : Int32) (hpn : pn ≤ 24) (hcc : cc ≤ 4) (hpb : ∀ j, pb j ≤ 24) : CWi l D k st lo yX1_mendingPrice cX1_mendingPrice 6 (some .int) ({ frames := 5, cells := 0, slots := 0, locals := 117 }) 0 0 [.ref z0, .int p0] [(z0, .inr (1, [.ref c0, .ref z1, .ref z2, .ref z3, .int (nI pn), .int pf, .int pd, .int pe])), (z1, .inl (k 1, 4, .inl (nF pb))), (z2, .inl (k 1, 100, .inl pco)), (c0, .inr (4, [.ref c1, .ref c2, .int (nI cc), .int (nI rz), .int ro, .int sd]))] (fun (r : Int32) (u : Int32 × Int32 × (Nat → Nat)) => match u with | (pd_, pe_, pb_) => ∀ j, pb_ j ≤ 24) (fun (u : Int32 × Int32 × (Nat → Nat)) => match u with | (pd_, pe_, pb_) => [(z0, .inr (1, [.ref c0, .ref z1, .ref z2, .ref z3, .int (nI pn), .int pf, .int pd_, .int pe_])), (z1, .inl (k 1, 4, .inl (nF pb_))), (z2, .inl (k 1, 100, .inl pco)), (c0, .inr (4, [.ref c1, .ref c2, .int (nI cc), .int (nI rz), .int ro, .int sd]))]) := by
  intro sz
  refine Met.ofW (cc := cX1_mendingPrice) (maxL := 6) (ret := (some .int)) (by decide) rfl ?_
  intro p e s m args below meth c s₁ B hml hv
  obtain ⟨rfl, hsz, hlo, hP, hK, hDL, hZ⟩ := hv
  have hx := B.exec
  have hb := B.bytes
  have hr := B.returns
  have hts := WS_ts B.pre
  have hown : s.vm.findClass RX1 = some m.cls := findClass_of_methodNamed B.named
  have hlocks := B.notSynchronized
  subst hsz
  have hD := hDL.self (sz := s.heap.size)
  have hAlo := A_lo hDL hlo
  generalize hAe : va_A [(z0, .inr (1, [.ref c0, .ref z1, .ref z2, .ref z3, .int (nI pn), .int pf, .int pd, .int pe])), (z1, .inl (k 1, 4, .inl (nF pb))), (z2, .inl (k 1, 100, .inl pco)), (c0, .inr (4, [.ref c1, .ref c2, .int (nI cc), .int (nI rz), .int ro, .int sd]))] s.heap.size = A at hD hAlo ⊢
  have hA : ∀ q : Nat, s.heap.size ≤ q → A q := fun q h => by rw [← hAe]; exact Or.inr h
  have hS : va_S A s.heap s.heap [] := va_S.rf
  have hl := lv_entry ([.ref z0, .int p0]) (n := 6) (Nat.le_of_ble_eq_true rfl)
  rw [lg_entry_eq]
  generalize (lg_sl ([.ref z0, .int p0]) ++ List.replicate (6 - (lg_sl ([.ref z0, .int p0])).length) Slot.unset).toArray = ls at hl ⊢
  have hl : lv_has ls 6 [(0, .ref z0), (1, .int p0)] := hl
  refine lv_aload_n hx hb dX1_mendingPrice_0 rfl (lv_at hl 0 rfl) ?_
  refine lv_iload_n hx hb dX1_mendingPrice_1 rfl (lv_at hl 1 rfl) ?_
  refine va_put (D := D) (ci := 1) (v := .int p0) (ty := .int) (C := RX1) (T := TX1) (N := 8) hx hb hts inX1 tyX1 tyX1_ok nmX1 hown hK hP hD hS 0 rfl rfl 6 (by decide) (hts _ tw_242) (fun _ h9 => h9) rfl (by decide +kernel) rfl rfl (Nat.le_of_ble_eq_true rfl) dX1_mendingPrice_2 (fun H locs hP hD hS => ?_)
  replace hP : va_P D classes [(z0, .inr (1, [.ref c0, .ref z1, .ref z2, .ref z3, .int (nI pn), .int pf, .int p0, .int pe])), (z1, .inl (k 1, 4, .inl (nF pb))), (z2, .inl (k 1, 100, .inl pco)), (c0, .inr (4, [.ref c1, .ref c2, .int (nI cc), .int (nI rz), .int ro, .int sd]))] H := hP
  replace hD : va_D A [(z0, .inr (1, [.ref c0, .ref z1, .ref z2, .ref z3, .int (nI pn), .int pf, .int p0, .int pe])), (z1, .inl (k 1, 4, .inl (nF pb))), (z2, .inl (k 1, 100, .inl pco)), (c0, .inr (4, [.ref c1, .ref c2, .int (nI cc), .int (nI rz), .int ro, .int sd]))] := hD
  refine lv_iconst (v := 0) hx hb dX1_mendingPrice_5 (by decide) ?_
  refine lv_istore_n (lv' := [(2, .int 0), (0, .ref z0), (1, .int p0)]) hx hb dX1_mendingPrice_6 rfl hl (by decide) rfl (fun ls hl => ?_)
  refine lv_iconst (v := 0) hx hb dX1_mendingPrice_7 (by decide) ?_
  refine lv_istore_n (lv' := [(3, .int 0), (2, .int 0), (0, .ref z0), (1, .int p0)]) hx hb dX1_mendingPrice_8 rfl hl (by decide) rfl (fun ls hl => ?_)
  refine lv_iconst (v := 0) hx hb dX1_mendingPrice_9 (by decide) ?_
  refine lv_istore (lv' := [(4, .int 0), (3, .int 0), (2, .int 0), (0, .ref z0), (1, .int p0)]) hx hb dX1_mendingPrice_10 hl (by decide) rfl (fun ls hl => ?_)
  refine W_loop (σ := Nat × Int32 × Int32 × Int32 × (Nat → Nat)) (fun (n_ : Nat) (x_ : Nat × Int32 × Int32 × Int32 × (Nat → Nat)) (H : Heap) (locs : List Loc) (ls : Array Slot) => match x_ with | (pp_1, me_1, le_1, pe2_1, pb2_1) => n_ = 22 - pp_1 ∧ ((pp_1 ≤ 21) ∧ (∀ j, pb2_1 j ≤ 24)) ∧ va_P D classes [(z0, .inr (1, [.ref c0, .ref z1, .ref z2, .ref z3, .int (nI pn), .int pf, .int p0, .int pe2_1])), (z1, .inl (k 1, 4, .inl (nF pb2_1))), (z2, .inl (k 1, 100, .inl pco)), (c0, .inr (4, [.ref c1, .ref c2, .int (nI cc), .int (nI rz), .int ro, .int sd]))] H ∧ va_D A [(z0, .inr (1, [.ref c0, .ref z1, .ref z2, .ref z3, .int (nI pn), .int pf, .int p0, .int pe2_1])), (z1, .inl (k 1, 4, .inl (nF pb2_1))), (z2, .inl (k 1, 100, .inl pco)), (c0, .inr (4, [.ref c1, .ref c2, .int (nI cc), .int (nI rz), .int ro, .int sd]))] ∧ va_S A s.heap H locs ∧ lv_has ls 6 [(4, .int (nI pp_1)), (3, .int le_1), (2, .int me_1), (0, .ref z0), (1, .int p0)]) (fun n_1 x_1 H locs ls hI ih_1 => ?_) _ (0, 0, 0, pe, pb) ⟨rfl, ⟨by omega, hpb⟩, hP, hD, hS, (lv_sub hl [0, 1, 2, 3, 4] rfl)⟩
  obtain ⟨pp_1, me_1, le_1, pe2_1, pb2_1⟩ := x_1
  obtain ⟨hm_1, hv_1, hP, hD, hS, hl⟩ := hI
  subst hm_1
  have hpl_1 := hv_1.2
  refine lv_iload hx hb dX1_mendingPrice_12 (lv_at hl 0 rfl) ?_
  refine lv_bipush (v := 20) hx hb dX1_mendingPrice_14 (by decide) ?_
  refine lv_icmp_gt (tgt := 89) hx hb dX1_mendingPrice_16 (by decide) (fun c_2 => ?_) (fun c_2 => ?_)
  · have c_2 := (nI_ltI (a := 20) (b := pp_1) (by omega) (by omega)).mp c_2
    refine lv_iload_n hx hb dX1_mendingPrice_89 rfl (lv_at hl 2 rfl) ?_
    have hP9 := hP.sub (ws' := [(z0, .inr (1, [.ref c0, .ref z1, .ref z2, .ref z3, .int (nI pn), .int pf, .int p0, .int pe2_1])), (z1, .inl (k 1, 4, .inl (nF pb2_1))), (z2, .inl (k 1, 100, .inl pco)), (c0, .inr (4, [.ref c1, .ref c2, .int (nI cc), .int (nI rz), .int ro, .int sd]))]) [0, 1, 2, 3] rfl
    have hD9 := hD.sub (ws' := [(z0, .inr (1, [.ref c0, .ref z1, .ref z2, .ref z3, .int (nI pn), .int pf, .int p0, .int pe2_1])), (z1, .inl (k 1, 4, .inl (nF pb2_1))), (z2, .inl (k 1, 100, .inl pco)), (c0, .inr (4, [.ref c1, .ref c2, .int (nI cc), .int (nI rz), .int ro, .int sd]))]) [0, 1, 2, 3] (by decide) rfl
    exact W.iret (v := me_1) hx hb hr (fun t ht hW => ⟨⟨me_1, (p0, pe2_1, pb2_1), rfl, hpl_1, by rw [ht]; exact hP9, hD9⟩, hS.F ht⟩) hS.2.2 dX1_mendingPrice_90
  · have c_2 : ¬ (20 < pp_1) := fun h => c_2 ((nI_ltI (a := 20) (b := pp_1) (by omega) (by omega)).mpr h)
    refine lv_aload_n hx hb dX1_mendingPrice_19 rfl (lv_at hl 3 rfl) ?_
    refine lv_bipush (v := 10) hx hb dX1_mendingPrice_20 (by decide) ?_
    refine lv_iload hx hb dX1_mendingPrice_22 (lv_at hl 0 rfl) ?_
    refine lv_imul hx hb dX1_mendingPrice_24 ?_
    refine lv_ti (y := (nI (10 * pp_1))) (pk_mul 10 pp_1) ?_
    refine lv_sipush (v := 1000) hx hb dX1_mendingPrice_25 (by decide) ?_
    refine lv_imul hx hb dX1_mendingPrice_28 ?_
    refine lv_ti (y := (nI ((10 * pp_1) * 1000))) (pk_mul (10 * pp_1) 1000) ?_
    refine va_put (D := D) (ci := 1) (v := .int (nI ((10 * pp_1) * 1000))) (ty := .int) (C := RX1) (T := TX1) (N := 8) hx hb hts inX1 tyX1 tyX1_ok nmX1 hown hK hP hD hS 0 rfl rfl 7 (by decide) (hts _ tw_243) (fun _ h9 => h9) rfl (by decide +kernel) rfl rfl (Nat.le_of_ble_eq_true rfl) dX1_mendingPrice_29 (fun H locs hP hD hS => ?_)
    replace hP : va_P D classes [(z0, .inr (1, [.ref c0, .ref z1, .ref z2, .ref z3, .int (nI pn), .int pf, .int p0, .int (nI ((10 * pp_1) * 1000))])), (z1, .inl (k 1, 4, .inl (nF pb2_1))), (z2, .inl (k 1, 100, .inl pco)), (c0, .inr (4, [.ref c1, .ref c2, .int (nI cc), .int (nI rz), .int ro, .int sd]))] H := hP
    replace hD : va_D A [(z0, .inr (1, [.ref c0, .ref z1, .ref z2, .ref z3, .int (nI pn), .int pf, .int p0, .int (nI ((10 * pp_1) * 1000))])), (z1, .inl (k 1, 4, .inl (nF pb2_1))), (z2, .inl (k 1, 100, .inl pco)), (c0, .inr (4, [.ref c1, .ref c2, .int (nI cc), .int (nI rz), .int ro, .int sd]))] := hD
    refine lv_iconst (v := 0) hx hb dX1_mendingPrice_32 (by decide) ?_
    refine lv_istore (lv' := [(5, .int 0), (4, .int (nI pp_1)), (3, .int le_1), (2, .int me_1), (0, .ref z0), (1, .int p0)]) hx hb dX1_mendingPrice_33 hl (by decide) rfl (fun ls hl => ?_)
    refine lv_iload hx hb dX1_mendingPrice_35 (lv_at hl 0 rfl) ?_
    refine lv_iconst (v := 4) hx hb dX1_mendingPrice_37 (by decide) ?_
    refine lv_icmp_ge (tgt := 55) hx hb dX1_mendingPrice_38 (by decide) (fun h => absurd h (by decide)) (fun _ => ?_)
    refine lv_aload_n hx hb dX1_mendingPrice_41 rfl (lv_at hl 4 rfl) ?_
    refine va_get (D := D) (ci := 1) (v := .ref z1) (C := RX1) (T := TX1) (N := 8) hx hb hts inX1 hown hK hP 0 rfl rfl 1 (by decide) (hts _ tw_236) (fun _ h9 => h9) rfl dX1_mendingPrice_42 ?_
    refine lv_iload hx hb dX1_mendingPrice_45 (lv_at hl 0 rfl) ?_
    refine lv_iconst (v := 0) hx hb dX1_mendingPrice_47 (by decide) ?_
    refine va_iast hx hb hK hP hD hS 1 1 rfl rfl (by unfold vp_in; decide) dX1_mendingPrice_48 (fun H locs hP hD hS => ?_)
    replace hP : va_P D classes [(z0, .inr (1, [.ref c0, .ref z1, .ref z2, .ref z3, .int (nI pn), .int pf, .int p0, .int (nI ((10 * pp_1) * 1000))])), (z1, .inl (k 1, 4, .inl (upd (nF pb2_1) (Int32.toNatClampNeg 0) 0))), (z2, .inl (k 1, 100, .inl pco)), (c0, .inr (4, [.ref c1, .ref c2, .int (nI cc), .int (nI rz), .int ro, .int sd]))] H := hP
    replace hD : va_D A [(z0, .inr (1, [.ref c0, .ref z1, .ref z2, .ref z3, .int (nI pn), .int pf, .int p0, .int (nI ((10 * pp_1) * 1000))])), (z1, .inl (k 1, 4, .inl (upd (nF pb2_1) (Int32.toNatClampNeg 0) 0))), (z2, .inl (k 1, 100, .inl pco)), (c0, .inr (4, [.ref c1, .ref c2, .int (nI cc), .int (nI rz), .int ro, .int sd]))] := hD
    rw [show upd (nF pb2_1) (Int32.toNatClampNeg 0) 0 = nF (fun j => if j = 0 then 0 else pb2_1 j) from nF_upd _ _ _] at hP hD
    obtain ⟨d_4, hd_4⟩ : ∃ z : Nat → Nat, z = (fun j => if j = 0 then 0 else pb2_1 j) := ⟨_, rfl⟩
    rw [← hd_4] at hP hD
    have hbb_4 : ∀ j, d_4 j ≤ 24 := by rw [hd_4]; exact up_le hpl_1 (by omega)
    refine lv_iinc (v := 1) (lv' := [(5, .int 1), (4, .int (nI pp_1)), (3, .int le_1), (2, .int me_1), (0, .ref z0), (1, .int p0)]) hx hb dX1_mendingPrice_49 hl (k := 0) rfl (by decide) (by decide) rfl (fun ls hl => ?_)
    refine lv_goto (tgt := 35) hx hb dX1_mendingPrice_52 (by decide) ?_
    refine lv_iload hx hb dX1_mendingPrice_35 (lv_at hl 0 rfl) ?_
    refine lv_iconst (v := 4) hx hb dX1_mendingPrice_37 (by decide) ?_
    refine lv_icmp_ge (tgt := 55) hx hb dX1_mendingPrice_38 (by decide) (fun h => absurd h (by decide)) (fun _ => ?_)
    refine lv_aload_n hx hb dX1_mendingPrice_41 rfl (lv_at hl 4 rfl) ?_
    refine va_get (D := D) (ci := 1) (v := .ref z1) (C := RX1) (T := TX1) (N := 8) hx hb hts inX1 hown hK hP 0 rfl rfl 1 (by decide) (hts _ tw_236) (fun _ h9 => h9) rfl dX1_mendingPrice_42 ?_
    refine lv_iload hx hb dX1_mendingPrice_45 (lv_at hl 0 rfl) ?_
    refine lv_iconst (v := 0) hx hb dX1_mendingPrice_47 (by decide) ?_
    refine va_iast hx hb hK hP hD hS 1 1 rfl rfl (by unfold vp_in; decide) dX1_mendingPrice_48 (fun H locs hP hD hS => ?_)
    replace hP : va_P D classes [(z0, .inr (1, [.ref c0, .ref z1, .ref z2, .ref z3, .int (nI pn), .int pf, .int p0, .int (nI ((10 * pp_1) * 1000))])), (z1, .inl (k 1, 4, .inl (upd (nF d_4) (Int32.toNatClampNeg 1) 0))), (z2, .inl (k 1, 100, .inl pco)), (c0, .inr (4, [.ref c1, .ref c2, .int (nI cc), .int (nI rz), .int ro, .int sd]))] H := hP
    replace hD : va_D A [(z0, .inr (1, [.ref c0, .ref z1, .ref z2, .ref z3, .int (nI pn), .int pf, .int p0, .int (nI ((10 * pp_1) * 1000))])), (z1, .inl (k 1, 4, .inl (upd (nF d_4) (Int32.toNatClampNeg 1) 0))), (z2, .inl (k 1, 100, .inl pco)), (c0, .inr (4, [.ref c1, .ref c2, .int (nI cc), .int (nI rz), .int ro, .int sd]))] := hD
    rw [show upd (nF d_4) (Int32.toNatClampNeg 1) 0 = nF (fun j => if j = 1 then 0 else d_4 j) from nF_upd _ _ _] at hP hD
    obtain ⟨d_6, hd_6⟩ : ∃ z : Nat → Nat, z = (fun j => if j = 1 then 0 else d_4 j) := ⟨_, rfl⟩
    rw [← hd_6] at hP hD
    have hbb_6 : ∀ j, d_6 j ≤ 24 := by rw [hd_6]; exact up_le hbb_4 (by omega)
    refine lv_iinc (v := 2) (lv' := [(5, .int 2), (4, .int (nI pp_1)), (3, .int le_1), (2, .int me_1), (0, .ref z0), (1, .int p0)]) hx hb dX1_mendingPrice_49 hl (k := 0) rfl (by decide) (by decide) rfl (fun ls hl => ?_)
    refine lv_goto (tgt := 35) hx hb dX1_mendingPrice_52 (by decide) ?_
    refine lv_iload hx hb dX1_mendingPrice_35 (lv_at hl 0 rfl) ?_
    refine lv_iconst (v := 4) hx hb dX1_mendingPrice_37 (by decide) ?_
    refine lv_icmp_ge (tgt := 55) hx hb dX1_mendingPrice_38 (by decide) (fun h => absurd h (by decide)) (fun _ => ?_)
    refine lv_aload_n hx hb dX1_mendingPrice_41 rfl (lv_at hl 4 rfl) ?_
    refine va_get (D := D) (ci := 1) (v := .ref z1) (C := RX1) (T := TX1) (N := 8) hx hb hts inX1 hown hK hP 0 rfl rfl 1 (by decide) (hts _ tw_236) (fun _ h9 => h9) rfl dX1_mendingPrice_42 ?_
    refine lv_iload hx hb dX1_mendingPrice_45 (lv_at hl 0 rfl) ?_
    refine lv_iconst (v := 0) hx hb dX1_mendingPrice_47 (by decide) ?_
    refine va_iast hx hb hK hP hD hS 1 1 rfl rfl (by unfold vp_in; decide) dX1_mendingPrice_48 (fun H locs hP hD hS => ?_)
    replace hP : va_P D classes [(z0, .inr (1, [.ref c0, .ref z1, .ref z2, .ref z3, .int (nI pn), .int pf, .int p0, .int (nI ((10 * pp_1) * 1000))])), (z1, .inl (k 1, 4, .inl (upd (nF d_6) (Int32.toNatClampNeg 2) 0))), (z2, .inl (k 1, 100, .inl pco)), (c0, .inr (4, [.ref c1, .ref c2, .int (nI cc), .int (nI rz), .int ro, .int sd]))] H := hP
    replace hD : va_D A [(z0, .inr (1, [.ref c0, .ref z1, .ref z2, .ref z3, .int (nI pn), .int pf, .int p0, .int (nI ((10 * pp_1) * 1000))])), (z1, .inl (k 1, 4, .inl (upd (nF d_6) (Int32.toNatClampNeg 2) 0))), (z2, .inl (k 1, 100, .inl pco)), (c0, .inr (4, [.ref c1, .ref c2, .int (nI cc), .int (nI rz), .int ro, .int sd]))] := hD
    rw [show upd (nF d_6) (Int32.toNatClampNeg 2) 0 = nF (fun j => if j = 2 then 0 else d_6 j) from nF_upd _ _ _] at hP hD
    obtain ⟨d_8, hd_8⟩ : ∃ z : Nat → Nat, z = (fun j => if j = 2 then 0 else d_6 j) := ⟨_, rfl⟩
    rw [← hd_8] at hP hD
    have hbb_8 : ∀ j, d_8 j ≤ 24 := by rw [hd_8]; exact up_le hbb_6 (by omega)
    refine lv_iinc (v := 3) (lv' := [(5, .int 3), (4, .int (nI pp_1)), (3, .int le_1), (2, .int me_1), (0, .ref z0), (1, .int p0)]) hx hb dX1_mendingPrice_49 hl (k := 0) rfl (by decide) (by decide) rfl (fun ls hl => ?_)
    refine lv_goto (tgt := 35) hx hb dX1_mendingPrice_52 (by decide) ?_
    refine lv_iload hx hb dX1_mendingPrice_35 (lv_at hl 0 rfl) ?_
    refine lv_iconst (v := 4) hx hb dX1_mendingPrice_37 (by decide) ?_
    refine lv_icmp_ge (tgt := 55) hx hb dX1_mendingPrice_38 (by decide) (fun h => absurd h (by decide)) (fun _ => ?_)
    refine lv_aload_n hx hb dX1_mendingPrice_41 rfl (lv_at hl 4 rfl) ?_
    refine va_get (D := D) (ci := 1) (v := .ref z1) (C := RX1) (T := TX1) (N := 8) hx hb hts inX1 hown hK hP 0 rfl rfl 1 (by decide) (hts _ tw_236) (fun _ h9 => h9) rfl dX1_mendingPrice_42 ?_
    refine lv_iload hx hb dX1_mendingPrice_45 (lv_at hl 0 rfl) ?_
    refine lv_iconst (v := 0) hx hb dX1_mendingPrice_47 (by decide) ?_
    refine va_iast hx hb hK hP hD hS 1 1 rfl rfl (by unfold vp_in; decide) dX1_mendingPrice_48 (fun H locs hP hD hS => ?_)
    replace hP : va_P D classes [(z0, .inr (1, [.ref c0, .ref z1, .ref z2, .ref z3, .int (nI pn), .int pf, .int p0, .int (nI ((10 * pp_1) * 1000))])), (z1, .inl (k 1, 4, .inl (upd (nF d_8) (Int32.toNatClampNeg 3) 0))), (z2, .inl (k 1, 100, .inl pco)), (c0, .inr (4, [.ref c1, .ref c2, .int (nI cc), .int (nI rz), .int ro, .int sd]))] H := hP
    replace hD : va_D A [(z0, .inr (1, [.ref c0, .ref z1, .ref z2, .ref z3, .int (nI pn), .int pf, .int p0, .int (nI ((10 * pp_1) * 1000))])), (z1, .inl (k 1, 4, .inl (upd (nF d_8) (Int32.toNatClampNeg 3) 0))), (z2, .inl (k 1, 100, .inl pco)), (c0, .inr (4, [.ref c1, .ref c2, .int (nI cc), .int (nI rz), .int ro, .int sd]))] := hD
    rw [show upd (nF d_8) (Int32.toNatClampNeg 3) 0 = nF (fun j => if j = 3 then 0 else d_8 j) from nF_upd _ _ _] at hP hD
    obtain ⟨d_10, hd_10⟩ : ∃ z : Nat → Nat, z = (fun j => if j = 3 then 0 else d_8 j) := ⟨_, rfl⟩
    rw [← hd_10] at hP hD
    have hbb_10 : ∀ j, d_10 j ≤ 24 := by rw [hd_10]; exact up_le hbb_8 (by omega)
    refine lv_iinc (v := 4) (lv' := [(5, .int 4), (4, .int (nI pp_1)), (3, .int le_1), (2, .int me_1), (0, .ref z0), (1, .int p0)]) hx hb dX1_mendingPrice_49 hl (k := 0) rfl (by decide) (by decide) rfl (fun ls hl => ?_)
    refine lv_goto (tgt := 35) hx hb dX1_mendingPrice_52 (by decide) ?_
    refine lv_iload hx hb dX1_mendingPrice_35 (lv_at hl 0 rfl) ?_
    refine lv_iconst (v := 4) hx hb dX1_mendingPrice_37 (by decide) ?_
    refine lv_icmp_ge (tgt := 55) hx hb dX1_mendingPrice_38 (by decide) (fun _ => ?_) (fun h => absurd (by decide) h)
    refine lv_aload_n hx hb dX1_mendingPrice_55 rfl (lv_at hl 4 rfl) ?_
    refine rw_i (D := D) (wr := []) (va_runV (As := []) (rest := []) ⟨hx, hb, hml, hown, hts⟩ ((x_goByTurns l D k st lo c0 z0 z1 z2 z3 pn pf p0 (nI ((10 * pp_1) * 1000)) d_10 pco c1 c2 cc rz ro sd (by omega) (by omega) hbb_10) H.size) (cwV 0 hts (gV tw_918 tw_872 tw_873 tw_84 tw_874) rfl rfl rfl (by decide +kernel) ⟨Nat.le_of_ble_eq_true rfl, Nat.le_of_ble_eq_true rfl⟩) (pV hS hAlo hlo hP hK (va_Dlo hD hAlo) hZ [0, 1, 2, 3] (by decide) rfl (ci := 1) (q0 := 0) rfl rfl) rfl rfl hl.1 rfl (lv_room (Nat.le_of_ble_eq_true rfl)) dX1_mendingPrice_56 ⟨Nat.le_of_ble_eq_true rfl, Nat.le_of_ble_eq_true rfl⟩) hS hA hP hD [0, 1, 2, 3] [] rfl rfl (by decide) (by decide) (fun r_11 u H locs hw_11 hP hD hS => ?_)
    obtain ⟨pb__11, rfl⟩ : ∃ z, z = u := ⟨_, rfl⟩
    replace hP : va_P D classes [(z0, .inr (1, [.ref c0, .ref z1, .ref z2, .ref z3, .int (nI pn), .int pf, .int p0, .int (nI ((10 * pp_1) * 1000))])), (z1, .inl (k 1, 4, .inl (nF pb__11))), (z2, .inl (k 1, 100, .inl pco)), (c0, .inr (4, [.ref c1, .ref c2, .int (nI cc), .int (nI rz), .int ro, .int sd]))] H := hP
    replace hD : va_D A [(z0, .inr (1, [.ref c0, .ref z1, .ref z2, .ref z3, .int (nI pn), .int pf, .int p0, .int (nI ((10 * pp_1) * 1000))])), (z1, .inl (k 1, 4, .inl (nF pb__11))), (z2, .inl (k 1, 100, .inl pco)), (c0, .inr (4, [.ref c1, .ref c2, .int (nI cc), .int (nI rz), .int ro, .int sd]))] := hD
    try dsimp only at hw_11
    refine lv_pop hx hb dX1_mendingPrice_59 rfl ?_
    refine lv_aload_n hx hb dX1_mendingPrice_60 rfl (lv_at hl 4 rfl) ?_
    refine ro_i (D := D) (va_runV (As := []) (rest := []) ⟨hx, hb, hml, hown, hts⟩ ((x_costOfAll l D k st lo c0 z0 z1 z2 z3 pn pf p0 (nI ((10 * pp_1) * 1000)) pb__11 pco c1 c2 cc rz ro sd (by omega) (by omega) hw_11) H.size) (cwV 0 hts (gV tw_919 tw_898 tw_899 tw_84 tw_900) rfl rfl rfl (by decide +kernel) ⟨Nat.le_of_ble_eq_true rfl, Nat.le_of_ble_eq_true rfl⟩) (pV hS hAlo hlo hP hK (va_Dlo hD hAlo) hZ [0, 1, 2, 3] (by decide) rfl (ci := 1) (q0 := 0) rfl rfl) rfl rfl hl.1 rfl (lv_room (Nat.le_of_ble_eq_true rfl)) dX1_mendingPrice_61 ⟨Nat.le_of_ble_eq_true rfl, Nat.le_of_ble_eq_true rfl⟩) hS hA hP (fun r_12 H locs hw_12 hP hS => ?_)
    try dsimp only at hw_12
    refine lv_istore (lv' := [(5, .int r_12), (4, .int (nI pp_1)), (3, .int le_1), (2, .int me_1), (0, .ref z0), (1, .int p0)]) hx hb dX1_mendingPrice_64 hl (by decide) rfl (fun ls hl => ?_)
    refine lv_iload hx hb dX1_mendingPrice_66 (lv_at hl 1 rfl) ?_
    refine lv_if_eq (tgt := 77) hx hb dX1_mendingPrice_68 (by decide) (fun c_13 => ?_) (fun c_13 => ?_)
    · have c_13 := (nI_eq (a := pp_1) (b := 0) (by omega) (by omega)).mp c_13
      refine lv_iload hx hb dX1_mendingPrice_77 (lv_at hl 0 rfl) ?_
      refine lv_istore_n (lv' := [(3, .int r_12), (5, .int r_12), (4, .int (nI pp_1)), (2, .int me_1), (0, .ref z0), (1, .int p0)]) hx hb dX1_mendingPrice_79 rfl hl (by decide) rfl (fun ls hl => ?_)
      refine lv_iload hx hb dX1_mendingPrice_80 (lv_at hl 2 rfl) ?_
      refine lv_istore_n (lv' := [(2, .int (nI pp_1)), (3, .int r_12), (5, .int r_12), (4, .int (nI pp_1)), (0, .ref z0), (1, .int p0)]) hx hb dX1_mendingPrice_82 rfl hl (by decide) rfl (fun ls hl => ?_)
      refine lv_iinc (v := (nI (pp_1 + 1))) (lv' := [(4, .int (nI (pp_1 + 1))), (2, .int (nI pp_1)), (3, .int r_12), (5, .int r_12), (0, .ref z0), (1, .int p0)]) hx hb dX1_mendingPrice_83 hl (k := 3) rfl (nI_add pp_1 1) (by decide) rfl (fun ls hl => ?_)
      refine lv_goto (tgt := 12) hx hb dX1_mendingPrice_86 (by decide) ?_
      exact ih_1 _ (pp_1 + 1, (nI pp_1), r_12, (nI ((10 * pp_1) * 1000)), pb__11) _ _ _ (by omega) ⟨rfl, ⟨by omega, hw_11⟩, hP, hD, hS, (lv_sub hl [0, 2, 1, 4, 5] rfl)⟩
    · have c_13 : ¬ (pp_1 = 0) := fun h => c_13 ((nI_eq (a := pp_1) (b := 0) (by omega) (by omega)).mpr h)
      refine lv_iload hx hb dX1_mendingPrice_71 (lv_at hl 0 rfl) ?_
      refine lv_iload_n hx hb dX1_mendingPrice_73 rfl (lv_at hl 2 rfl) ?_
      refine lv_icmp_ge (tgt := 83) hx hb dX1_mendingPrice_74 (by decide) (fun c_14 => ?_) (fun c_14 => ?_)
      · refine lv_iinc (v := (nI (pp_1 + 1))) (lv' := [(4, .int (nI (pp_1 + 1))), (5, .int r_12), (3, .int le_1), (2, .int me_1), (0, .ref z0), (1, .int p0)]) hx hb dX1_mendingPrice_83 hl (k := 1) rfl (nI_add pp_1 1) (by decide) rfl (fun ls hl => ?_)
        refine lv_goto (tgt := 12) hx hb dX1_mendingPrice_86 (by decide) ?_
        exact ih_1 _ (pp_1 + 1, me_1, le_1, (nI ((10 * pp_1) * 1000)), pb__11) _ _ _ (by omega) ⟨rfl, ⟨by omega, hw_11⟩, hP, hD, hS, (lv_sub hl [0, 2, 3, 4, 5] rfl)⟩
      · refine lv_iload hx hb dX1_mendingPrice_77 (lv_at hl 0 rfl) ?_
        refine lv_istore_n (lv' := [(3, .int r_12), (5, .int r_12), (4, .int (nI pp_1)), (2, .int me_1), (0, .ref z0), (1, .int p0)]) hx hb dX1_mendingPrice_79 rfl hl (by decide) rfl (fun ls hl => ?_)
        refine lv_iload hx hb dX1_mendingPrice_80 (lv_at hl 2 rfl) ?_
        refine lv_istore_n (lv' := [(2, .int (nI pp_1)), (3, .int r_12), (5, .int r_12), (4, .int (nI pp_1)), (0, .ref z0), (1, .int p0)]) hx hb dX1_mendingPrice_82 rfl hl (by decide) rfl (fun ls hl => ?_)
        refine lv_iinc (v := (nI (pp_1 + 1))) (lv' := [(4, .int (nI (pp_1 + 1))), (2, .int (nI pp_1)), (3, .int r_12), (5, .int r_12), (0, .ref z0), (1, .int p0)]) hx hb dX1_mendingPrice_83 hl (k := 3) rfl (nI_add pp_1 1) (by decide) rfl (fun ls hl => ?_)
        refine lv_goto (tgt := 12) hx hb dX1_mendingPrice_86 (by decide) ?_
        exact ih_1 _ (pp_1 + 1, (nI pp_1), r_12, (nI ((10 * pp_1) * 1000)), pb__11) _ _ _ (by omega) ⟨rfl, ⟨by omega, hw_11⟩, hP, hD, hS, (lv_sub hl [0, 2, 1, 4, 5] rfl)⟩


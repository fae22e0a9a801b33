theorem dX1_countRests_0 : decode cX1_countRests 0 = .ok (.aload_n 0, 1) := by decide +kernel
theorem dX1_countRests_1 : decode cX1_countRests 1 = .ok (.getfield 34, 3) := by decide +kernel
theorem dX1_countRests_4 : decode cX1_countRests 4 = .ok (.getfield 53, 3) := by decide +kernel
theorem dX1_countRests_7 : decode cX1_countRests 7 = .ok (.ifCond .le 10, 3) := by decide +kernel
theorem dX1_countRests_10 : decode cX1_countRests 10 = .ok (.aload_n 0, 1) := by decide +kernel
theorem dX1_countRests_11 : decode cX1_countRests 11 = .ok (.getfield 21, 3) := by decide +kernel
theorem dX1_countRests_14 : decode cX1_countRests 14 = .ok (.goto 4, 3) := by decide +kernel
theorem dX1_countRests_17 : decode cX1_countRests 17 = .ok (.iconst 0, 1) := by decide +kernel
theorem dX1_countRests_18 : decode cX1_countRests 18 = .ok (.istore_n 1, 1) := by decide +kernel
theorem dX1_countRests_19 : decode cX1_countRests 19 = .ok (.aload_n 0, 1) := by decide +kernel
theorem dX1_countRests_20 : decode cX1_countRests 20 = .ok (.getfield 34, 3) := by decide +kernel
theorem dX1_countRests_23 : decode cX1_countRests 23 = .ok (.getfield 53, 3) := by decide +kernel
theorem dX1_countRests_26 : decode cX1_countRests 26 = .ok (.iconst 1, 1) := by decide +kernel
theorem dX1_countRests_27 : decode cX1_countRests 27 = .ok (.if_icmp .le 10, 3) := by decide +kernel
theorem dX1_countRests_30 : decode cX1_countRests 30 = .ok (.aload_n 0, 1) := by decide +kernel
theorem dX1_countRests_31 : decode cX1_countRests 31 = .ok (.getfield 21, 3) := by decide +kernel
theorem dX1_countRests_34 : decode cX1_countRests 34 = .ok (.goto 4, 3) := by decide +kernel
theorem dX1_countRests_37 : decode cX1_countRests 37 = .ok (.iconst 0, 1) := by decide +kernel
theorem dX1_countRests_38 : decode cX1_countRests 38 = .ok (.istore_n 2, 1) := by decide +kernel
theorem dX1_countRests_39 : decode cX1_countRests 39 = .ok (.iconst 0, 1) := by decide +kernel
theorem dX1_countRests_40 : decode cX1_countRests 40 = .ok (.istore_n 3, 1) := by decide +kernel
theorem dX1_countRests_41 : decode cX1_countRests 41 = .ok (.iconst 0, 1) := by decide +kernel
theorem dX1_countRests_42 : decode cX1_countRests 42 = .ok (.istore 4, 2) := by decide +kernel
theorem dX1_countRests_44 : decode cX1_countRests 44 = .ok (.iload 4, 2) := by decide +kernel
theorem dX1_countRests_46 : decode cX1_countRests 46 = .ok (.iload_n 1, 1) := by decide +kernel
theorem dX1_countRests_47 : decode cX1_countRests 47 = .ok (.if_icmp .gt 55, 3) := by decide +kernel
theorem dX1_countRests_50 : decode cX1_countRests 50 = .ok (.iconst 0, 1) := by decide +kernel
theorem dX1_countRests_51 : decode cX1_countRests 51 = .ok (.istore 5, 2) := by decide +kernel
theorem dX1_countRests_53 : decode cX1_countRests 53 = .ok (.iload 5, 2) := by decide +kernel
theorem dX1_countRests_55 : decode cX1_countRests 55 = .ok (.iload_n 2, 1) := by decide +kernel
theorem dX1_countRests_56 : decode cX1_countRests 56 = .ok (.if_icmp .gt 40, 3) := by decide +kernel
theorem dX1_countRests_59 : decode cX1_countRests 59 = .ok (.aload_n 0, 1) := by decide +kernel
theorem dX1_countRests_60 : decode cX1_countRests 60 = .ok (.getfield 9, 3) := by decide +kernel
theorem dX1_countRests_63 : decode cX1_countRests 63 = .ok (.iconst 0, 1) := by decide +kernel
theorem dX1_countRests_64 : decode cX1_countRests 64 = .ok (.iload 4, 2) := by decide +kernel
theorem dX1_countRests_66 : decode cX1_countRests 66 = .ok (.iastore, 1) := by decide +kernel
theorem dX1_countRests_67 : decode cX1_countRests 67 = .ok (.aload_n 0, 1) := by decide +kernel
theorem dX1_countRests_68 : decode cX1_countRests 68 = .ok (.getfield 9, 3) := by decide +kernel
theorem dX1_countRests_71 : decode cX1_countRests 71 = .ok (.iconst 1, 1) := by decide +kernel
theorem dX1_countRests_72 : decode cX1_countRests 72 = .ok (.iload 5, 2) := by decide +kernel
theorem dX1_countRests_74 : decode cX1_countRests 74 = .ok (.iastore, 1) := by decide +kernel
theorem dX1_countRests_75 : decode cX1_countRests 75 = .ok (.iload_n 3, 1) := by decide +kernel
theorem dX1_countRests_76 : decode cX1_countRests 76 = .ok (.aload_n 0, 1) := by decide +kernel
theorem dX1_countRests_77 : decode cX1_countRests 77 = .ok (.invokevirtual 90, 3) := by decide +kernel
theorem dX1_countRests_80 : decode cX1_countRests 80 = .ok (.ifCond .eq 7, 3) := by decide +kernel
theorem dX1_countRests_83 : decode cX1_countRests 83 = .ok (.iconst 1, 1) := by decide +kernel
theorem dX1_countRests_84 : decode cX1_countRests 84 = .ok (.goto 4, 3) := by decide +kernel
theorem dX1_countRests_87 : decode cX1_countRests 87 = .ok (.iconst 0, 1) := by decide +kernel
theorem dX1_countRests_88 : decode cX1_countRests 88 = .ok (.iadd, 1) := by decide +kernel
theorem dX1_countRests_89 : decode cX1_countRests 89 = .ok (.istore_n 3, 1) := by decide +kernel
theorem dX1_countRests_90 : decode cX1_countRests 90 = .ok (.iinc 5 1, 3) := by decide +kernel
theorem dX1_countRests_93 : decode cX1_countRests 93 = .ok (.goto (-40), 3) := by decide +kernel
theorem dX1_countRests_96 : decode cX1_countRests 96 = .ok (.iinc 4 1, 3) := by decide +kernel
theorem dX1_countRests_99 : decode cX1_countRests 99 = .ok (.goto (-55), 3) := by decide +kernel
theorem dX1_countRests_102 : decode cX1_countRests 102 = .ok (.iload_n 3, 1) := by decide +kernel
theorem dX1_countRests_103 : decode cX1_countRests 103 = .ok (.ireturn, 1) := by decide +kernel
set_option maxHeartbeats 4000000 in
set_option maxRecDepth 100000 in
theorem x_countRests (l : Launch) (D : va_G) (k : Nat → ClassId) (st : Nat → Nat) (lo : Nat) (c0 : Nat) (z0 : Nat) (z1 : Nat) (z2 : Nat) (z3 : Nat) (pn : Nat) (pf : Int32) (pd : Int32) (pe : Int32) (pb : Nat → Nat) (pco : Nat → Int32) (c1 : Nat) (c2 : Nat) (cc : Nat) (rz : Nat) (ro : Int32) (sd : Int32) (hpn : pn ≤ 24) (hcc : cc ≤ 4) (hpb : ∀ j, pb j ≤ 24) : CWi l D k st lo yX1_countRests cX1_countRests 6 (some .int) ({ frames := 4, cells := 0, slots := 0, locals := 95 }) 0 0 [.ref z0] [(z0, .inr (1, [.ref c0, .ref z1, .ref z2, .ref z3, .int (nI pn), .int pf, .int pd, .int pe])), (z1, .inl (k 1, 4, .inl (nF pb))), (z2, .inl (k 1, 100, .inl pco)), (c0, .inr (4, [.ref c1, .ref c2, .int (nI cc), .int (nI rz), .int ro, .int sd]))] (fun (r : Int32) (pb_ : (Nat → Nat)) => ∀ j, pb_ j ≤ 24) (fun (pb_ : (Nat → Nat)) => [(z0, .inr (1, [.ref c0, .ref z1, .ref z2, .ref z3, .int (nI pn), .int pf, .int pd, .int pe])), (z1, .inl (k 1, 4, .inl (nF pb_))), (z2, .inl (k 1, 100, .inl pco)), (c0, .inr (4, [.ref c1, .ref c2, .int (nI cc), .int (nI rz), .int ro, .int sd]))]) := by
  intro sz
  refine Met.ofW (cc := cX1_countRests) (maxL := 6) (ret := (some .int)) (by decide) rfl ?_
  intro p e s m args below meth c s₁ B hml hv
  obtain ⟨rfl, hsz, hlo, hP, hK, hDL, hZ⟩ := hv
  have hx := B.exec
  have hb := B.bytes
  have hr := B.returns
  have hts := WS_ts B.pre
  have hown : s.vm.findClass RX1 = some m.cls := findClass_of_methodNamed B.named
  have hlocks := B.notSynchronized
  subst hsz
  have hD := hDL.self (sz := s.heap.size)
  have hAlo := A_lo hDL hlo
  generalize hAe : va_A [(z0, .inr (1, [.ref c0, .ref z1, .ref z2, .ref z3, .int (nI pn), .int pf, .int pd, .int pe])), (z1, .inl (k 1, 4, .inl (nF pb))), (z2, .inl (k 1, 100, .inl pco)), (c0, .inr (4, [.ref c1, .ref c2, .int (nI cc), .int (nI rz), .int ro, .int sd]))] s.heap.size = A at hD hAlo ⊢
  have hA : ∀ q : Nat, s.heap.size ≤ q → A q := fun q h => by rw [← hAe]; exact Or.inr h
  have hS : va_S A s.heap s.heap [] := va_S.rf
  have hl := lv_entry ([.ref z0]) (n := 6) (Nat.le_of_ble_eq_true rfl)
  rw [lg_entry_eq]
  generalize (lg_sl ([.ref z0]) ++ List.replicate (6 - (lg_sl ([.ref z0])).length) Slot.unset).toArray = ls at hl ⊢
  have hl : lv_has ls 6 [(0, .ref z0)] := hl
  refine lv_aload_n hx hb dX1_countRests_0 rfl (lv_at hl 0 rfl) ?_
  refine va_get (D := D) (ci := 1) (v := .ref c0) (C := RX1) (T := TX1) (N := 8) hx hb hts inX1 hown hK hP 0 rfl rfl 0 (by decide) (hts _ tw_235) (fun _ h9 => h9) rfl dX1_countRests_1 ?_
  refine va_get (D := D) (ci := 4) (v := .int (nI cc)) (C := RX4) (T := TX4) (N := 6) hx hb hts inX4 hown hK hP 3 rfl rfl 2 (by decide) (hts _ tw_179) (fun _ h9 => h9) rfl dX1_countRests_4 ?_
  refine lv_if_le (tgt := 17) hx hb dX1_countRests_7 (by decide) (fun c_1 => ?_) (fun c_1 => ?_)
  · have c_1 := (nI_leI (a := cc) (b := 0) (by omega) (by omega)).mp c_1
    refine lv_iconst (v := 0) hx hb dX1_countRests_17 (by decide) ?_
    refine lv_istore_n (lv' := [(1, .int 0), (0, .ref z0)]) hx hb dX1_countRests_18 rfl hl (by decide) rfl (fun ls hl => ?_)
    refine lv_aload_n hx hb dX1_countRests_19 rfl (lv_at hl 1 rfl) ?_
    refine va_get (D := D) (ci := 1) (v := .ref c0) (C := RX1) (T := TX1) (N := 8) hx hb hts inX1 hown hK hP 0 rfl rfl 0 (by decide) (hts _ tw_235) (fun _ h9 => h9) rfl dX1_countRests_20 ?_
    refine va_get (D := D) (ci := 4) (v := .int (nI cc)) (C := RX4) (T := TX4) (N := 6) hx hb hts inX4 hown hK hP 3 rfl rfl 2 (by decide) (hts _ tw_179) (fun _ h9 => h9) rfl dX1_countRests_23 ?_
    refine lv_iconst (v := 1) hx hb dX1_countRests_26 (by decide) ?_
    refine lv_icmp_le (tgt := 37) hx hb dX1_countRests_27 (by decide) (fun _ => ?_) (fun h => absurd ((nI_leI (a := cc) (b := 1) (by omega) (by omega)).mpr (by omega)) h)
    refine lv_iconst (v := 0) hx hb dX1_countRests_37 (by decide) ?_
    refine lv_istore_n (lv' := [(2, .int 0), (1, .int 0), (0, .ref z0)]) hx hb dX1_countRests_38 rfl hl (by decide) rfl (fun ls hl => ?_)
    refine lv_iconst (v := 0) hx hb dX1_countRests_39 (by decide) ?_
    refine lv_istore_n (lv' := [(3, .int 0), (2, .int 0), (1, .int 0), (0, .ref z0)]) hx hb dX1_countRests_40 rfl hl (by decide) rfl (fun ls hl => ?_)
    refine lv_iconst (v := 0) hx hb dX1_countRests_41 (by decide) ?_
    refine lv_istore (lv' := [(4, .int 0), (3, .int 0), (2, .int 0), (1, .int 0), (0, .ref z0)]) hx hb dX1_countRests_42 hl (by decide) rfl (fun ls hl => ?_)
    refine W_loop (σ := Nat × Int32 × (Nat → Nat)) (fun (n_ : Nat) (x_ : Nat × Int32 × (Nat → Nat)) (H : Heap) (locs : List Loc) (ls : Array Slot) => match x_ with | (aa_3, rs2_3, pb2_3) => n_ = 26 - aa_3 ∧ ((aa_3 ≤ 25) ∧ (∀ j, pb2_3 j ≤ 24)) ∧ va_P D classes [(z0, .inr (1, [.ref c0, .ref z1, .ref z2, .ref z3, .int (nI pn), .int pf, .int pd, .int pe])), (z1, .inl (k 1, 4, .inl (nF pb2_3))), (z2, .inl (k 1, 100, .inl pco)), (c0, .inr (4, [.ref c1, .ref c2, .int (nI cc), .int (nI rz), .int ro, .int sd]))] H ∧ va_D A [(z0, .inr (1, [.ref c0, .ref z1, .ref z2, .ref z3, .int (nI pn), .int pf, .int pd, .int pe])), (z1, .inl (k 1, 4, .inl (nF pb2_3))), (z2, .inl (k 1, 100, .inl pco)), (c0, .inr (4, [.ref c1, .ref c2, .int (nI cc), .int (nI rz), .int ro, .int sd]))] ∧ va_S A s.heap H locs ∧ lv_has ls 6 [(4, .int (nI aa_3)), (3, .int rs2_3), (2, .int 0), (1, .int 0), (0, .ref z0)]) (fun n_3 x_3 H locs ls hI ih_3 => ?_) _ (0, 0, pb) ⟨rfl, ⟨by omega, hpb⟩, hP, hD, hS, (lv_sub hl [0, 1, 2, 3, 4] rfl)⟩
    obtain ⟨aa_3, rs2_3, pb2_3⟩ := x_3
    obtain ⟨hm_3, hv_3, hP, hD, hS, hl⟩ := hI
    subst hm_3
    have hpl_3 := hv_3.2
    refine lv_iload hx hb dX1_countRests_44 (lv_at hl 0 rfl) ?_
    refine lv_iload_n hx hb dX1_countRests_46 rfl (lv_at hl 3 rfl) ?_
    refine lv_icmp_gt (tgt := 102) hx hb dX1_countRests_47 (by decide) (fun c_4 => ?_) (fun c_4 => ?_)
    · have c_4 := (nI_ltI (a := 0) (b := aa_3) (by omega) (by omega)).mp c_4
      refine lv_iload_n hx hb dX1_countRests_102 rfl (lv_at hl 1 rfl) ?_
      have hP9 := hP.sub (ws' := [(z0, .inr (1, [.ref c0, .ref z1, .ref z2, .ref z3, .int (nI pn), .int pf, .int pd, .int pe])), (z1, .inl (k 1, 4, .inl (nF pb2_3))), (z2, .inl (k 1, 100, .inl pco)), (c0, .inr (4, [.ref c1, .ref c2, .int (nI cc), .int (nI rz), .int ro, .int sd]))]) [0, 1, 2, 3] rfl
      have hD9 := hD.sub (ws' := [(z0, .inr (1, [.ref c0, .ref z1, .ref z2, .ref z3, .int (nI pn), .int pf, .int pd, .int pe])), (z1, .inl (k 1, 4, .inl (nF pb2_3))), (z2, .inl (k 1, 100, .inl pco)), (c0, .inr (4, [.ref c1, .ref c2, .int (nI cc), .int (nI rz), .int ro, .int sd]))]) [0, 1, 2, 3] (by decide) rfl
      exact W.iret (v := rs2_3) hx hb hr (fun t ht hW => ⟨⟨rs2_3, pb2_3, rfl, hpl_3, by rw [ht]; exact hP9, hD9⟩, hS.F ht⟩) hS.2.2 dX1_countRests_103
    · have c_4 : ¬ (0 < aa_3) := fun h => c_4 ((nI_ltI (a := 0) (b := aa_3) (by omega) (by omega)).mpr h)
      refine lv_iconst (v := 0) hx hb dX1_countRests_50 (by decide) ?_
      refine lv_istore (lv' := [(5, .int 0), (4, .int (nI aa_3)), (3, .int rs2_3), (2, .int 0), (1, .int 0), (0, .ref z0)]) hx hb dX1_countRests_51 hl (by decide) rfl (fun ls hl => ?_)
      refine W_loop (σ := Nat × Int32 × (Nat → Nat)) (fun (n_ : Nat) (x_ : Nat × Int32 × (Nat → Nat)) (H : Heap) (locs : List Loc) (ls : Array Slot) => match x_ with | (b3_5, rs2_5, pb2_5) => n_ = 26 - b3_5 ∧ ((b3_5 ≤ 25) ∧ (∀ j, pb2_5 j ≤ 24)) ∧ va_P D classes [(z0, .inr (1, [.ref c0, .ref z1, .ref z2, .ref z3, .int (nI pn), .int pf, .int pd, .int pe])), (z1, .inl (k 1, 4, .inl (nF pb2_5))), (z2, .inl (k 1, 100, .inl pco)), (c0, .inr (4, [.ref c1, .ref c2, .int (nI cc), .int (nI rz), .int ro, .int sd]))] H ∧ va_D A [(z0, .inr (1, [.ref c0, .ref z1, .ref z2, .ref z3, .int (nI pn), .int pf, .int pd, .int pe])), (z1, .inl (k 1, 4, .inl (nF pb2_5))), (z2, .inl (k 1, 100, .inl pco)), (c0, .inr (4, [.ref c1, .ref c2, .int (nI cc), .int (nI rz), .int ro, .int sd]))] ∧ va_S A s.heap H locs ∧ lv_has ls 6 [(5, .int (nI b3_5)), (4, .int (nI aa_3)), (3, .int rs2_5), (2, .int 0), (1, .int 0), (0, .ref z0)]) (fun n_5 x_5 H locs ls hI ih_5 => ?_) _ (0, rs2_3, pb2_3) ⟨rfl, ⟨by omega, hpl_3⟩, hP, hD, hS, (lv_sub hl [0, 1, 2, 3, 4, 5] rfl)⟩
      obtain ⟨b3_5, rs2_5, pb2_5⟩ := x_5
      obtain ⟨hm_5, hv_5, hP, hD, hS, hl⟩ := hI
      subst hm_5
      have hpl_5 := hv_5.2
      refine lv_iload hx hb dX1_countRests_53 (lv_at hl 0 rfl) ?_
      refine lv_iload_n hx hb dX1_countRests_55 rfl (lv_at hl 3 rfl) ?_
      refine lv_icmp_gt (tgt := 96) hx hb dX1_countRests_56 (by decide) (fun c_6 => ?_) (fun c_6 => ?_)
      · have c_6 := (nI_ltI (a := 0) (b := b3_5) (by omega) (by omega)).mp c_6
        refine lv_iinc (v := (nI (aa_3 + 1))) (lv' := [(4, .int (nI (aa_3 + 1))), (5, .int (nI b3_5)), (3, .int rs2_5), (2, .int 0), (1, .int 0), (0, .ref z0)]) hx hb dX1_countRests_96 hl (k := 1) rfl (nI_add aa_3 1) (by decide) rfl (fun ls hl => ?_)
        refine lv_goto (tgt := 44) hx hb dX1_countRests_99 (by decide) ?_
        exact ih_3 _ (aa_3 + 1, rs2_5, pb2_5) _ _ _ (by omega) ⟨rfl, ⟨by omega, hpl_5⟩, hP, hD, hS, (lv_sub hl [0, 2, 3, 4, 5] rfl)⟩
      · have c_6 : ¬ (0 < b3_5) := fun h => c_6 ((nI_ltI (a := 0) (b := b3_5) (by omega) (by omega)).mpr h)
        refine lv_aload_n hx hb dX1_countRests_59 rfl (lv_at hl 5 rfl) ?_
        refine va_get (D := D) (ci := 1) (v := .ref z1) (C := RX1) (T := TX1) (N := 8) hx hb hts inX1 hown hK hP 0 rfl rfl 1 (by decide) (hts _ tw_236) (fun _ h9 => h9) rfl dX1_countRests_60 ?_
        refine lv_iconst (v := 0) hx hb dX1_countRests_63 (by decide) ?_
        refine lv_iload hx hb dX1_countRests_64 (lv_at hl 1 rfl) ?_
        refine va_iast hx hb hK hP hD hS 1 1 rfl rfl (by unfold vp_in; decide) dX1_countRests_66 (fun H locs hP hD hS => ?_)
        replace hP : va_P D classes [(z0, .inr (1, [.ref c0, .ref z1, .ref z2, .ref z3, .int (nI pn), .int pf, .int pd, .int pe])), (z1, .inl (k 1, 4, .inl (upd (nF pb2_5) (Int32.toNatClampNeg 0) (nI aa_3)))), (z2, .inl (k 1, 100, .inl pco)), (c0, .inr (4, [.ref c1, .ref c2, .int (nI cc), .int (nI rz), .int ro, .int sd]))] H := hP
        replace hD : va_D A [(z0, .inr (1, [.ref c0, .ref z1, .ref z2, .ref z3, .int (nI pn), .int pf, .int pd, .int pe])), (z1, .inl (k 1, 4, .inl (upd (nF pb2_5) (Int32.toNatClampNeg 0) (nI aa_3)))), (z2, .inl (k 1, 100, .inl pco)), (c0, .inr (4, [.ref c1, .ref c2, .int (nI cc), .int (nI rz), .int ro, .int sd]))] := hD
        rw [show upd (nF pb2_5) (Int32.toNatClampNeg 0) (nI aa_3) = nF (fun j => if j = 0 then aa_3 else pb2_5 j) from nF_upd _ _ _] at hP hD
        obtain ⟨d_8, hd_8⟩ : ∃ z : Nat → Nat, z = (fun j => if j = 0 then aa_3 else pb2_5 j) := ⟨_, rfl⟩
        rw [← hd_8] at hP hD
        have hbb_8 : ∀ j, d_8 j ≤ 24 := by rw [hd_8]; exact up_le hpl_5 (by omega)
        refine lv_aload_n hx hb dX1_countRests_67 rfl (lv_at hl 5 rfl) ?_
        refine va_get (D := D) (ci := 1) (v := .ref z1) (C := RX1) (T := TX1) (N := 8) hx hb hts inX1 hown hK hP 0 rfl rfl 1 (by decide) (hts _ tw_236) (fun _ h9 => h9) rfl dX1_countRests_68 ?_
        refine lv_iconst (v := 1) hx hb dX1_countRests_71 (by decide) ?_
        refine lv_iload hx hb dX1_countRests_72 (lv_at hl 0 rfl) ?_
        refine va_iast hx hb hK hP hD hS 1 1 rfl rfl (by unfold vp_in; decide) dX1_countRests_74 (fun H locs hP hD hS => ?_)
        replace hP : va_P D classes [(z0, .inr (1, [.ref c0, .ref z1, .ref z2, .ref z3, .int (nI pn), .int pf, .int pd, .int pe])), (z1, .inl (k 1, 4, .inl (upd (nF d_8) (Int32.toNatClampNeg 1) (nI b3_5)))), (z2, .inl (k 1, 100, .inl pco)), (c0, .inr (4, [.ref c1, .ref c2, .int (nI cc), .int (nI rz), .int ro, .int sd]))] H := hP
        replace hD : va_D A [(z0, .inr (1, [.ref c0, .ref z1, .ref z2, .ref z3, .int (nI pn), .int pf, .int pd, .int pe])), (z1, .inl (k 1, 4, .inl (upd (nF d_8) (Int32.toNatClampNeg 1) (nI b3_5)))), (z2, .inl (k 1, 100, .inl pco)), (c0, .inr (4, [.ref c1, .ref c2, .int (nI cc), .int (nI rz), .int ro, .int sd]))] := hD
        rw [show upd (nF d_8) (Int32.toNatClampNeg 1) (nI b3_5) = nF (fun j => if j = 1 then b3_5 else d_8 j) from nF_upd _ _ _] at hP hD
        obtain ⟨d_10, hd_10⟩ : ∃ z : Nat → Nat, z = (fun j => if j = 1 then b3_5 else d_8 j) := ⟨_, rfl⟩
        rw [← hd_10] at hP hD
        have hbb_10 : ∀ j, d_10 j ≤ 24 := by rw [hd_10]; exact up_le hbb_8 (by omega)
        refine lv_iload_n hx hb dX1_countRests_75 rfl (lv_at hl 2 rfl) ?_
        refine lv_aload_n hx hb dX1_countRests_76 rfl (lv_at hl 5 rfl) ?_
        refine ro_i (D := D) (va_runV (As := []) (rest := [.int rs2_5]) ⟨hx, hb, hml, hown, hts⟩ ((x_isAtRest l D k st lo c0 z0 z1 z2 z3 pn pf pd pe d_10 pco c1 c2 cc rz ro sd (by omega) (by omega) hbb_10) H.size) (cwV 0 hts (gV tw_892 tw_855 tw_856 tw_84 tw_857) rfl rfl rfl (by decide +kernel) ⟨Nat.le_of_ble_eq_true rfl, Nat.le_of_ble_eq_true rfl⟩) (pV hS hAlo hlo hP hK (va_Dlo hD hAlo) hZ [0, 1, 2, 3] (by decide) rfl (ci := 1) (q0 := 0) rfl rfl) rfl rfl hl.1 rfl (lv_room (Nat.le_of_ble_eq_true rfl)) dX1_countRests_77 ⟨Nat.le_of_ble_eq_true rfl, Nat.le_of_ble_eq_true rfl⟩) hS hA hP (fun r_11 H locs hw_11 hP hS => ?_)
        try dsimp only at hw_11
        rcases hw_11 with rfl | rfl
        · refine lv_if_eq (tgt := 87) hx hb dX1_countRests_80 (by decide) (fun h => absurd h (by decide)) (fun _ => ?_)
          refine lv_iconst (v := 1) hx hb dX1_countRests_83 (by decide) ?_
          refine lv_goto (tgt := 88) hx hb dX1_countRests_84 (by decide) ?_
          refine lv_iadd hx hb dX1_countRests_88 ?_
          refine lv_topi (fun x_12 ex_12 => ?_)
          refine lv_istore_n (lv' := [(3, .int x_12), (5, .int (nI b3_5)), (4, .int (nI aa_3)), (2, .int 0), (1, .int 0), (0, .ref z0)]) hx hb dX1_countRests_89 rfl hl (by decide) rfl (fun ls hl => ?_)
          refine lv_iinc (v := (nI (b3_5 + 1))) (lv' := [(5, .int (nI (b3_5 + 1))), (3, .int x_12), (4, .int (nI aa_3)), (2, .int 0), (1, .int 0), (0, .ref z0)]) hx hb dX1_countRests_90 hl (k := 1) rfl (nI_add b3_5 1) (by decide) rfl (fun ls hl => ?_)
          refine lv_goto (tgt := 53) hx hb dX1_countRests_93 (by decide) ?_
          exact ih_5 _ (b3_5 + 1, x_12, d_10) _ _ _ (by omega) ⟨rfl, ⟨by omega, hbb_10⟩, hP, hD, hS, (lv_sub hl [0, 2, 1, 3, 4, 5] rfl)⟩
        · refine lv_if_eq (tgt := 87) hx hb dX1_countRests_80 (by decide) (fun _ => ?_) (fun h => absurd (by decide) h)
          refine lv_iconst (v := 0) hx hb dX1_countRests_87 (by decide) ?_
          refine lv_iadd hx hb dX1_countRests_88 ?_
          refine lv_topi (fun x_13 ex_13 => ?_)
          refine lv_istore_n (lv' := [(3, .int x_13), (5, .int (nI b3_5)), (4, .int (nI aa_3)), (2, .int 0), (1, .int 0), (0, .ref z0)]) hx hb dX1_countRests_89 rfl hl (by decide) rfl (fun ls hl => ?_)
          refine lv_iinc (v := (nI (b3_5 + 1))) (lv' := [(5, .int (nI (b3_5 + 1))), (3, .int x_13), (4, .int (nI aa_3)), (2, .int 0), (1, .int 0), (0, .ref z0)]) hx hb dX1_countRests_90 hl (k := 1) rfl (nI_add b3_5 1) (by decide) rfl (fun ls hl => ?_)
          refine lv_goto (tgt := 53) hx hb dX1_countRests_93 (by decide) ?_
          exact ih_5 _ (b3_5 + 1, x_13, d_10) _ _ _ (by omega) ⟨rfl, ⟨by omega, hbb_10⟩, hP, hD, hS, (lv_sub hl [0, 2, 1, 3, 4, 5] rfl)⟩
  · have c_1 : ¬ (cc ≤ 0) := fun h => c_1 ((nI_leI (a := cc) (b := 0) (by omega) (by omega)).mpr h)
    refine lv_aload_n hx hb dX1_countRests_10 rfl (lv_at hl 0 rfl) ?_
    refine va_get (D := D) (ci := 1) (v := .int (nI pn)) (C := RX1) (T := TX1) (N := 8) hx hb hts inX1 hown hK hP 0 rfl rfl 4 (by decide) (hts _ tw_240) (fun _ h9 => h9) rfl dX1_countRests_11 ?_
    refine lv_goto (tgt := 18) hx hb dX1_countRests_14 (by decide) ?_
    refine lv_istore_n (lv' := [(1, .int (nI pn)), (0, .ref z0)]) hx hb dX1_countRests_18 rfl hl (by decide) rfl (fun ls hl => ?_)
    refine lv_aload_n hx hb dX1_countRests_19 rfl (lv_at hl 1 rfl) ?_
    refine va_get (D := D) (ci := 1) (v := .ref c0) (C := RX1) (T := TX1) (N := 8) hx hb hts inX1 hown hK hP 0 rfl rfl 0 (by decide) (hts _ tw_235) (fun _ h9 => h9) rfl dX1_countRests_20 ?_
    refine va_get (D := D) (ci := 4) (v := .int (nI cc)) (C := RX4) (T := TX4) (N := 6) hx hb hts inX4 hown hK hP 3 rfl rfl 2 (by decide) (hts _ tw_179) (fun _ h9 => h9) rfl dX1_countRests_23 ?_
    refine lv_iconst (v := 1) hx hb dX1_countRests_26 (by decide) ?_
    refine lv_icmp_le (tgt := 37) hx hb dX1_countRests_27 (by decide) (fun c_14 => ?_) (fun c_14 => ?_)
    · have c_14 := (nI_leI (a := cc) (b := 1) (by omega) (by omega)).mp c_14
      refine lv_iconst (v := 0) hx hb dX1_countRests_37 (by decide) ?_
      refine lv_istore_n (lv' := [(2, .int 0), (1, .int (nI pn)), (0, .ref z0)]) hx hb dX1_countRests_38 rfl hl (by decide) rfl (fun ls hl => ?_)
      refine lv_iconst (v := 0) hx hb dX1_countRests_39 (by decide) ?_
      refine lv_istore_n (lv' := [(3, .int 0), (2, .int 0), (1, .int (nI pn)), (0, .ref z0)]) hx hb dX1_countRests_40 rfl hl (by decide) rfl (fun ls hl => ?_)
      refine lv_iconst (v := 0) hx hb dX1_countRests_41 (by decide) ?_
      refine lv_istore (lv' := [(4, .int 0), (3, .int 0), (2, .int 0), (1, .int (nI pn)), (0, .ref z0)]) hx hb dX1_countRests_42 hl (by decide) rfl (fun ls hl => ?_)
      refine W_loop (σ := Nat × Int32 × (Nat → Nat)) (fun (n_ : Nat) (x_ : Nat × Int32 × (Nat → Nat)) (H : Heap) (locs : List Loc) (ls : Array Slot) => match x_ with | (aa_15, rs2_15, pb2_15) => n_ = 26 - aa_15 ∧ ((aa_15 ≤ 25) ∧ (∀ j, pb2_15 j ≤ 24)) ∧ va_P D classes [(z0, .inr (1, [.ref c0, .ref z1, .ref z2, .ref z3, .int (nI pn), .int pf, .int pd, .int pe])), (z1, .inl (k 1, 4, .inl (nF pb2_15))), (z2, .inl (k 1, 100, .inl pco)), (c0, .inr (4, [.ref c1, .ref c2, .int (nI cc), .int (nI rz), .int ro, .int sd]))] H ∧ va_D A [(z0, .inr (1, [.ref c0, .ref z1, .ref z2, .ref z3, .int (nI pn), .int pf, .int pd, .int pe])), (z1, .inl (k 1, 4, .inl (nF pb2_15))), (z2, .inl (k 1, 100, .inl pco)), (c0, .inr (4, [.ref c1, .ref c2, .int (nI cc), .int (nI rz), .int ro, .int sd]))] ∧ va_S A s.heap H locs ∧ lv_has ls 6 [(4, .int (nI aa_15)), (3, .int rs2_15), (2, .int 0), (1, .int (nI pn)), (0, .ref z0)]) (fun n_15 x_15 H locs ls hI ih_15 => ?_) _ (0, 0, pb) ⟨rfl, ⟨by omega, hpb⟩, hP, hD, hS, (lv_sub hl [0, 1, 2, 3, 4] rfl)⟩
      obtain ⟨aa_15, rs2_15, pb2_15⟩ := x_15
      obtain ⟨hm_15, hv_15, hP, hD, hS, hl⟩ := hI
      subst hm_15
      have hpl_15 := hv_15.2
      refine lv_iload hx hb dX1_countRests_44 (lv_at hl 0 rfl) ?_
      refine lv_iload_n hx hb dX1_countRests_46 rfl (lv_at hl 3 rfl) ?_
      refine lv_icmp_gt (tgt := 102) hx hb dX1_countRests_47 (by decide) (fun c_16 => ?_) (fun c_16 => ?_)
      · have c_16 := (nI_ltI (a := pn) (b := aa_15) (by omega) (by omega)).mp c_16
        refine lv_iload_n hx hb dX1_countRests_102 rfl (lv_at hl 1 rfl) ?_
        have hP9 := hP.sub (ws' := [(z0, .inr (1, [.ref c0, .ref z1, .ref z2, .ref z3, .int (nI pn), .int pf, .int pd, .int pe])), (z1, .inl (k 1, 4, .inl (nF pb2_15))), (z2, .inl (k 1, 100, .inl pco)), (c0, .inr (4, [.ref c1, .ref c2, .int (nI cc), .int (nI rz), .int ro, .int sd]))]) [0, 1, 2, 3] rfl
        have hD9 := hD.sub (ws' := [(z0, .inr (1, [.ref c0, .ref z1, .ref z2, .ref z3, .int (nI pn), .int pf, .int pd, .int pe])), (z1, .inl (k 1, 4, .inl (nF pb2_15))), (z2, .inl (k 1, 100, .inl pco)), (c0, .inr (4, [.ref c1, .ref c2, .int (nI cc), .int (nI rz), .int ro, .int sd]))]) [0, 1, 2, 3] (by decide) rfl
        exact W.iret (v := rs2_15) hx hb hr (fun t ht hW => ⟨⟨rs2_15, pb2_15, rfl, hpl_15, by rw [ht]; exact hP9, hD9⟩, hS.F ht⟩) hS.2.2 dX1_countRests_103
      · have c_16 : ¬ (pn < aa_15) := fun h => c_16 ((nI_ltI (a := pn) (b := aa_15) (by omega) (by omega)).mpr h)
        refine lv_iconst (v := 0) hx hb dX1_countRests_50 (by decide) ?_
        refine lv_istore (lv' := [(5, .int 0), (4, .int (nI aa_15)), (3, .int rs2_15), (2, .int 0), (1, .int (nI pn)), (0, .ref z0)]) hx hb dX1_countRests_51 hl (by decide) rfl (fun ls hl => ?_)
        refine W_loop (σ := Nat × Int32 × (Nat → Nat)) (fun (n_ : Nat) (x_ : Nat × Int32 × (Nat → Nat)) (H : Heap) (locs : List Loc) (ls : Array Slot) => match x_ with | (b3_17, rs2_17, pb2_17) => n_ = 26 - b3_17 ∧ ((b3_17 ≤ 25) ∧ (∀ j, pb2_17 j ≤ 24)) ∧ va_P D classes [(z0, .inr (1, [.ref c0, .ref z1, .ref z2, .ref z3, .int (nI pn), .int pf, .int pd, .int pe])), (z1, .inl (k 1, 4, .inl (nF pb2_17))), (z2, .inl (k 1, 100, .inl pco)), (c0, .inr (4, [.ref c1, .ref c2, .int (nI cc), .int (nI rz), .int ro, .int sd]))] H ∧ va_D A [(z0, .inr (1, [.ref c0, .ref z1, .ref z2, .ref z3, .int (nI pn), .int pf, .int pd, .int pe])), (z1, .inl (k 1, 4, .inl (nF pb2_17))), (z2, .inl (k 1, 100, .inl pco)), (c0, .inr (4, [.ref c1, .ref c2, .int (nI cc), .int (nI rz), .int ro, .int sd]))] ∧ va_S A s.heap H locs ∧ lv_has ls 6 [(5, .int (nI b3_17)), (4, .int (nI aa_15)), (3, .int rs2_17), (2, .int 0), (1, .int (nI pn)), (0, .ref z0)]) (fun n_17 x_17 H locs ls hI ih_17 => ?_) _ (0, rs2_15, pb2_15) ⟨rfl, ⟨by omega, hpl_15⟩, hP, hD, hS, (lv_sub hl [0, 1, 2, 3, 4, 5] rfl)⟩
        obtain ⟨b3_17, rs2_17, pb2_17⟩ := x_17
        obtain ⟨hm_17, hv_17, hP, hD, hS, hl⟩ := hI
        subst hm_17
        have hpl_17 := hv_17.2
        refine lv_iload hx hb dX1_countRests_53 (lv_at hl 0 rfl) ?_
        refine lv_iload_n hx hb dX1_countRests_55 rfl (lv_at hl 3 rfl) ?_
        refine lv_icmp_gt (tgt := 96) hx hb dX1_countRests_56 (by decide) (fun c_18 => ?_) (fun c_18 => ?_)
        · have c_18 := (nI_ltI (a := 0) (b := b3_17) (by omega) (by omega)).mp c_18
          refine lv_iinc (v := (nI (aa_15 + 1))) (lv' := [(4, .int (nI (aa_15 + 1))), (5, .int (nI b3_17)), (3, .int rs2_17), (2, .int 0), (1, .int (nI pn)), (0, .ref z0)]) hx hb dX1_countRests_96 hl (k := 1) rfl (nI_add aa_15 1) (by decide) rfl (fun ls hl => ?_)
          refine lv_goto (tgt := 44) hx hb dX1_countRests_99 (by decide) ?_
          exact ih_15 _ (aa_15 + 1, rs2_17, pb2_17) _ _ _ (by omega) ⟨rfl, ⟨by omega, hpl_17⟩, hP, hD, hS, (lv_sub hl [0, 2, 3, 4, 5] rfl)⟩
        · have c_18 : ¬ (0 < b3_17) := fun h => c_18 ((nI_ltI (a := 0) (b := b3_17) (by omega) (by omega)).mpr h)
          refine lv_aload_n hx hb dX1_countRests_59 rfl (lv_at hl 5 rfl) ?_
          refine va_get (D := D) (ci := 1) (v := .ref z1) (C := RX1) (T := TX1) (N := 8) hx hb hts inX1 hown hK hP 0 rfl rfl 1 (by decide) (hts _ tw_236) (fun _ h9 => h9) rfl dX1_countRests_60 ?_
          refine lv_iconst (v := 0) hx hb dX1_countRests_63 (by decide) ?_
          refine lv_iload hx hb dX1_countRests_64 (lv_at hl 1 rfl) ?_
          refine va_iast hx hb hK hP hD hS 1 1 rfl rfl (by unfold vp_in; decide) dX1_countRests_66 (fun H locs hP hD hS => ?_)
          replace hP : va_P D classes [(z0, .inr (1, [.ref c0, .ref z1, .ref z2, .ref z3, .int (nI pn), .int pf, .int pd, .int pe])), (z1, .inl (k 1, 4, .inl (upd (nF pb2_17) (Int32.toNatClampNeg 0) (nI aa_15)))), (z2, .inl (k 1, 100, .inl pco)), (c0, .inr (4, [.ref c1, .ref c2, .int (nI cc), .int (nI rz), .int ro, .int sd]))] H := hP
          replace hD : va_D A [(z0, .inr (1, [.ref c0, .ref z1, .ref z2, .ref z3, .int (nI pn), .int pf, .int pd, .int pe])), (z1, .inl (k 1, 4, .inl (upd (nF pb2_17) (Int32.toNatClampNeg 0) (nI aa_15)))), (z2, .inl (k 1, 100, .inl pco)), (c0, .inr (4, [.ref c1, .ref c2, .int (nI cc), .int (nI rz), .int ro, .int sd]))] := hD
          rw [show upd (nF pb2_17) (Int32.toNatClampNeg 0) (nI aa_15) = nF (fun j => if j = 0 then aa_15 else pb2_17 j) from nF_upd _ _ _] at hP hD
          obtain ⟨d_20, hd_20⟩ : ∃ z : Nat → Nat, z = (fun j => if j = 0 then aa_15 else pb2_17 j) := ⟨_, rfl⟩
          rw [← hd_20] at hP hD
          have hbb_20 : ∀ j, d_20 j ≤ 24 := by rw [hd_20]; exact up_le hpl_17 (by omega)
          refine lv_aload_n hx hb dX1_countRests_67 rfl (lv_at hl 5 rfl) ?_
          refine va_get (D := D) (ci := 1) (v := .ref z1) (C := RX1) (T := TX1) (N := 8) hx hb hts inX1 hown hK hP 0 rfl rfl 1 (by decide) (hts _ tw_236) (fun _ h9 => h9) rfl dX1_countRests_68 ?_
          refine lv_iconst (v := 1) hx hb dX1_countRests_71 (by decide) ?_
          refine lv_iload hx hb dX1_countRests_72 (lv_at hl 0 rfl) ?_
          refine va_iast hx hb hK hP hD hS 1 1 rfl rfl (by unfold vp_in; decide) dX1_countRests_74 (fun H locs hP hD hS => ?_)
          replace hP : va_P D classes [(z0, .inr (1, [.ref c0, .ref z1, .ref z2, .ref z3, .int (nI pn), .int pf, .int pd, .int pe])), (z1, .inl (k 1, 4, .inl (upd (nF d_20) (Int32.toNatClampNeg 1) (nI b3_17)))), (z2, .inl (k 1, 100, .inl pco)), (c0, .inr (4, [.ref c1, .ref c2, .int (nI cc), .int (nI rz), .int ro, .int sd]))] H := hP
          replace hD : va_D A [(z0, .inr (1, [.ref c0, .ref z1, .ref z2, .ref z3, .int (nI pn), .int pf, .int pd, .int pe])), (z1, .inl (k 1, 4, .inl (upd (nF d_20) (Int32.toNatClampNeg 1) (nI b3_17)))), (z2, .inl (k 1, 100, .inl pco)), (c0, .inr (4, [.ref c1, .ref c2, .int (nI cc), .int (nI rz), .int ro, .int sd]))] := hD
          rw [show upd (nF d_20) (Int32.toNatClampNeg 1) (nI b3_17) = nF (fun j => if j = 1 then b3_17 else d_20 j) from nF_upd _ _ _] at hP hD
          obtain ⟨d_22, hd_22⟩ : ∃ z : Nat → Nat, z = (fun j => if j = 1 then b3_17 else d_20 j) := ⟨_, rfl⟩
          rw [← hd_22] at hP hD
          have hbb_22 : ∀ j, d_22 j ≤ 24 := by rw [hd_22]; exact up_le hbb_20 (by omega)
          refine lv_iload_n hx hb dX1_countRests_75 rfl (lv_at hl 2 rfl) ?_
          refine lv_aload_n hx hb dX1_countRests_76 rfl (lv_at hl 5 rfl) ?_
          refine ro_i (D := D) (va_runV (As := []) (rest := [.int rs2_17]) ⟨hx, hb, hml, hown, hts⟩ ((x_isAtRest l D k st lo c0 z0 z1 z2 z3 pn pf pd pe d_22 pco c1 c2 cc rz ro sd (by omega) (by omega) hbb_22) H.size) (cwV 0 hts (gV tw_892 tw_855 tw_856 tw_84 tw_857) rfl rfl rfl (by decide +kernel) ⟨Nat.le_of_ble_eq_true rfl, Nat.le_of_ble_eq_true rfl⟩) (pV hS hAlo hlo hP hK (va_Dlo hD hAlo) hZ [0, 1, 2, 3] (by decide) rfl (ci := 1) (q0 := 0) rfl rfl) rfl rfl hl.1 rfl (lv_room (Nat.le_of_ble_eq_true rfl)) dX1_countRests_77 ⟨Nat.le_of_ble_eq_true rfl, Nat.le_of_ble_eq_true rfl⟩) hS hA hP (fun r_23 H locs hw_23 hP hS => ?_)
          try dsimp only at hw_23
          rcases hw_23 with rfl | rfl
          · refine lv_if_eq (tgt := 87) hx hb dX1_countRests_80 (by decide) (fun h => absurd h (by decide)) (fun _ => ?_)
            refine lv_iconst (v := 1) hx hb dX1_countRests_83 (by decide) ?_
            refine lv_goto (tgt := 88) hx hb dX1_countRests_84 (by decide) ?_
            refine lv_iadd hx hb dX1_countRests_88 ?_
            refine lv_topi (fun x_24 ex_24 => ?_)
            refine lv_istore_n (lv' := [(3, .int x_24), (5, .int (nI b3_17)), (4, .int (nI aa_15)), (2, .int 0), (1, .int (nI pn)), (0, .ref z0)]) hx hb dX1_countRests_89 rfl hl (by decide) rfl (fun ls hl => ?_)
            refine lv_iinc (v := (nI (b3_17 + 1))) (lv' := [(5, .int (nI (b3_17 + 1))), (3, .int x_24), (4, .int (nI aa_15)), (2, .int 0), (1, .int (nI pn)), (0, .ref z0)]) hx hb dX1_countRests_90 hl (k := 1) rfl (nI_add b3_17 1) (by decide) rfl (fun ls hl => ?_)
            refine lv_goto (tgt := 53) hx hb dX1_countRests_93 (by decide) ?_
            exact ih_17 _ (b3_17 + 1, x_24, d_22) _ _ _ (by omega) ⟨rfl, ⟨by omega, hbb_22⟩, hP, hD, hS, (lv_sub hl [0, 2, 1, 3, 4, 5] rfl)⟩
          · refine lv_if_eq (tgt := 87) hx hb dX1_countRests_80 (by decide) (fun _ => ?_) (fun h => absurd (by decide) h)
            refine lv_iconst (v := 0) hx hb dX1_countRests_87 (by decide) ?_
            refine lv_iadd hx hb dX1_countRests_88 ?_
            refine lv_topi (fun x_25 ex_25 => ?_)
            refine lv_istore_n (lv' := [(3, .int x_25), (5, .int (nI b3_17)), (4, .int (nI aa_15)), (2, .int 0), (1, .int (nI pn)), (0, .ref z0)]) hx hb dX1_countRests_89 rfl hl (by decide) rfl (fun ls hl => ?_)
            refine lv_iinc (v := (nI (b3_17 + 1))) (lv' := [(5, .int (nI (b3_17 + 1))), (3, .int x_25), (4, .int (nI aa_15)), (2, .int 0), (1, .int (nI pn)), (0, .ref z0)]) hx hb dX1_countRests_90 hl (k := 1) rfl (nI_add b3_17 1) (by decide) rfl (fun ls hl => ?_)
            refine lv_goto (tgt := 53) hx hb dX1_countRests_93 (by decide) ?_
            exact ih_17 _ (b3_17 + 1, x_25, d_22) _ _ _ (by omega) ⟨rfl, ⟨by omega, hbb_22⟩, hP, hD, hS, (lv_sub hl [0, 2, 1, 3, 4, 5] rfl)⟩
    · have c_14 : ¬ (cc ≤ 1) := fun h => c_14 ((nI_leI (a := cc) (b := 1) (by omega) (by omega)).mpr h)
      refine lv_aload_n hx hb dX1_countRests_30 rfl (lv_at hl 1 rfl) ?_
      refine va_get (D := D) (ci := 1) (v := .int (nI pn)) (C := RX1) (T := TX1) (N := 8) hx hb hts inX1 hown hK hP 0 rfl rfl 4 (by decide) (hts _ tw_240) (fun _ h9 => h9) rfl dX1_countRests_31 ?_
      refine lv_goto (tgt := 38) hx hb dX1_countRests_34 (by decide) ?_
      refine lv_istore_n (lv' := [(2, .int (nI pn)), (1, .int (nI pn)), (0, .ref z0)]) hx hb dX1_countRests_38 rfl hl (by decide) rfl (fun ls hl => ?_)
      refine lv_iconst (v := 0) hx hb dX1_countRests_39 (by decide) ?_
      refine lv_istore_n (lv' := [(3, .int 0), (2, .int (nI pn)), (1, .int (nI pn)), (0, .ref z0)]) hx hb dX1_countRests_40 rfl hl (by decide) rfl (fun ls hl => ?_)
      refine lv_iconst (v := 0) hx hb dX1_countRests_41 (by decide) ?_
      refine lv_istore (lv' := [(4, .int 0), (3, .int 0), (2, .int (nI pn)), (1, .int (nI pn)), (0, .ref z0)]) hx hb dX1_countRests_42 hl (by decide) rfl (fun ls hl => ?_)
      refine W_loop (σ := Nat × Int32 × (Nat → Nat)) (fun (n_ : Nat) (x_ : Nat × Int32 × (Nat → Nat)) (H : Heap) (locs : List Loc) (ls : Array Slot) => match x_ with | (aa_26, rs2_26, pb2_26) => n_ = 26 - aa_26 ∧ ((aa_26 ≤ 25) ∧ (∀ j, pb2_26 j ≤ 24)) ∧ va_P D classes [(z0, .inr (1, [.ref c0, .ref z1, .ref z2, .ref z3, .int (nI pn), .int pf, .int pd, .int pe])), (z1, .inl (k 1, 4, .inl (nF pb2_26))), (z2, .inl (k 1, 100, .inl pco)), (c0, .inr (4, [.ref c1, .ref c2, .int (nI cc), .int (nI rz), .int ro, .int sd]))] H ∧ va_D A [(z0, .inr (1, [.ref c0, .ref z1, .ref z2, .ref z3, .int (nI pn), .int pf, .int pd, .int pe])), (z1, .inl (k 1, 4, .inl (nF pb2_26))), (z2, .inl (k 1, 100, .inl pco)), (c0, .inr (4, [.ref c1, .ref c2, .int (nI cc), .int (nI rz), .int ro, .int sd]))] ∧ va_S A s.heap H locs ∧ lv_has ls 6 [(4, .int (nI aa_26)), (3, .int rs2_26), (2, .int (nI pn)), (1, .int (nI pn)), (0, .ref z0)]) (fun n_26 x_26 H locs ls hI ih_26 => ?_) _ (0, 0, pb) ⟨rfl, ⟨by omega, hpb⟩, hP, hD, hS, (lv_sub hl [0, 1, 2, 3, 4] rfl)⟩
      obtain ⟨aa_26, rs2_26, pb2_26⟩ := x_26
      obtain ⟨hm_26, hv_26, hP, hD, hS, hl⟩ := hI
      subst hm_26
      have hpl_26 := hv_26.2
      refine lv_iload hx hb dX1_countRests_44 (lv_at hl 0 rfl) ?_
      refine lv_iload_n hx hb dX1_countRests_46 rfl (lv_at hl 3 rfl) ?_
      refine lv_icmp_gt (tgt := 102) hx hb dX1_countRests_47 (by decide) (fun c_27 => ?_) (fun c_27 => ?_)
      · have c_27 := (nI_ltI (a := pn) (b := aa_26) (by omega) (by omega)).mp c_27
        refine lv_iload_n hx hb dX1_countRests_102 rfl (lv_at hl 1 rfl) ?_
        have hP9 := hP.sub (ws' := [(z0, .inr (1, [.ref c0, .ref z1, .ref z2, .ref z3, .int (nI pn), .int pf, .int pd, .int pe])), (z1, .inl (k 1, 4, .inl (nF pb2_26))), (z2, .inl (k 1, 100, .inl pco)), (c0, .inr (4, [.ref c1, .ref c2, .int (nI cc), .int (nI rz), .int ro, .int sd]))]) [0, 1, 2, 3] rfl
        have hD9 := hD.sub (ws' := [(z0, .inr (1, [.ref c0, .ref z1, .ref z2, .ref z3, .int (nI pn), .int pf, .int pd, .int pe])), (z1, .inl (k 1, 4, .inl (nF pb2_26))), (z2, .inl (k 1, 100, .inl pco)), (c0, .inr (4, [.ref c1, .ref c2, .int (nI cc), .int (nI rz), .int ro, .int sd]))]) [0, 1, 2, 3] (by decide) rfl
        exact W.iret (v := rs2_26) hx hb hr (fun t ht hW => ⟨⟨rs2_26, pb2_26, rfl, hpl_26, by rw [ht]; exact hP9, hD9⟩, hS.F ht⟩) hS.2.2 dX1_countRests_103
      · have c_27 : ¬ (pn < aa_26) := fun h => c_27 ((nI_ltI (a := pn) (b := aa_26) (by omega) (by omega)).mpr h)
        refine lv_iconst (v := 0) hx hb dX1_countRests_50 (by decide) ?_
        refine lv_istore (lv' := [(5, .int 0), (4, .int (nI aa_26)), (3, .int rs2_26), (2, .int (nI pn)), (1, .int (nI pn)), (0, .ref z0)]) hx hb dX1_countRests_51 hl (by decide) rfl (fun ls hl => ?_)
        refine W_loop (σ := Nat × Int32 × (Nat → Nat)) (fun (n_ : Nat) (x_ : Nat × Int32 × (Nat → Nat)) (H : Heap) (locs : List Loc) (ls : Array Slot) => match x_ with | (b3_28, rs2_28, pb2_28) => n_ = 26 - b3_28 ∧ ((b3_28 ≤ 25) ∧ (∀ j, pb2_28 j ≤ 24)) ∧ va_P D classes [(z0, .inr (1, [.ref c0, .ref z1, .ref z2, .ref z3, .int (nI pn), .int pf, .int pd, .int pe])), (z1, .inl (k 1, 4, .inl (nF pb2_28))), (z2, .inl (k 1, 100, .inl pco)), (c0, .inr (4, [.ref c1, .ref c2, .int (nI cc), .int (nI rz), .int ro, .int sd]))] H ∧ va_D A [(z0, .inr (1, [.ref c0, .ref z1, .ref z2, .ref z3, .int (nI pn), .int pf, .int pd, .int pe])), (z1, .inl (k 1, 4, .inl (nF pb2_28))), (z2, .inl (k 1, 100, .inl pco)), (c0, .inr (4, [.ref c1, .ref c2, .int (nI cc), .int (nI rz), .int ro, .int sd]))] ∧ va_S A s.heap H locs ∧ lv_has ls 6 [(5, .int (nI b3_28)), (4, .int (nI aa_26)), (3, .int rs2_28), (2, .int (nI pn)), (1, .int (nI pn)), (0, .ref z0)]) (fun n_28 x_28 H locs ls hI ih_28 => ?_) _ (0, rs2_26, pb2_26) ⟨rfl, ⟨by omega, hpl_26⟩, hP, hD, hS, (lv_sub hl [0, 1, 2, 3, 4, 5] rfl)⟩
        obtain ⟨b3_28, rs2_28, pb2_28⟩ := x_28
        obtain ⟨hm_28, hv_28, hP, hD, hS, hl⟩ := hI
        subst hm_28
        have hpl_28 := hv_28.2
        refine lv_iload hx hb dX1_countRests_53 (lv_at hl 0 rfl) ?_
        refine lv_iload_n hx hb dX1_countRests_55 rfl (lv_at hl 3 rfl) ?_
        refine lv_icmp_gt (tgt := 96) hx hb dX1_countRests_56 (by decide) (fun c_29 => ?_) (fun c_29 => ?_)
        · have c_29 := (nI_ltI (a := pn) (b := b3_28) (by omega) (by omega)).mp c_29
          refine lv_iinc (v := (nI (aa_26 + 1))) (lv' := [(4, .int (nI (aa_26 + 1))), (5, .int (nI b3_28)), (3, .int rs2_28), (2, .int (nI pn)), (1, .int (nI pn)), (0, .ref z0)]) hx hb dX1_countRests_96 hl (k := 1) rfl (nI_add aa_26 1) (by decide) rfl (fun ls hl => ?_)
          refine lv_goto (tgt := 44) hx hb dX1_countRests_99 (by decide) ?_
          exact ih_26 _ (aa_26 + 1, rs2_28, pb2_28) _ _ _ (by omega) ⟨rfl, ⟨by omega, hpl_28⟩, hP, hD, hS, (lv_sub hl [0, 2, 3, 4, 5] rfl)⟩
        · have c_29 : ¬ (pn < b3_28) := fun h => c_29 ((nI_ltI (a := pn) (b := b3_28) (by omega) (by omega)).mpr h)
          refine lv_aload_n hx hb dX1_countRests_59 rfl (lv_at hl 5 rfl) ?_
          refine va_get (D := D) (ci := 1) (v := .ref z1) (C := RX1) (T := TX1) (N := 8) hx hb hts inX1 hown hK hP 0 rfl rfl 1 (by decide) (hts _ tw_236) (fun _ h9 => h9) rfl dX1_countRests_60 ?_
          refine lv_iconst (v := 0) hx hb dX1_countRests_63 (by decide) ?_
          refine lv_iload hx hb dX1_countRests_64 (lv_at hl 1 rfl) ?_
          refine va_iast hx hb hK hP hD hS 1 1 rfl rfl (by unfold vp_in; decide) dX1_countRests_66 (fun H locs hP hD hS => ?_)
          replace hP : va_P D classes [(z0, .inr (1, [.ref c0, .ref z1, .ref z2, .ref z3, .int (nI pn), .int pf, .int pd, .int pe])), (z1, .inl (k 1, 4, .inl (upd (nF pb2_28) (Int32.toNatClampNeg 0) (nI aa_26)))), (z2, .inl (k 1, 100, .inl pco)), (c0, .inr (4, [.ref c1, .ref c2, .int (nI cc), .int (nI rz), .int ro, .int sd]))] H := hP
          replace hD : va_D A [(z0, .inr (1, [.ref c0, .ref z1, .ref z2, .ref z3, .int (nI pn), .int pf, .int pd, .int pe])), (z1, .inl (k 1, 4, .inl (upd (nF pb2_28) (Int32.toNatClampNeg 0) (nI aa_26)))), (z2, .inl (k 1, 100, .inl pco)), (c0, .inr (4, [.ref c1, .ref c2, .int (nI cc), .int (nI rz), .int ro, .int sd]))] := hD
          rw [show upd (nF pb2_28) (Int32.toNatClampNeg 0) (nI aa_26) = nF (fun j => if j = 0 then aa_26 else pb2_28 j) from nF_upd _ _ _] at hP hD
          obtain ⟨d_31, hd_31⟩ : ∃ z : Nat → Nat, z = (fun j => if j = 0 then aa_26 else pb2_28 j) := ⟨_, rfl⟩
          rw [← hd_31] at hP hD
          have hbb_31 : ∀ j, d_31 j ≤ 24 := by rw [hd_31]; exact up_le hpl_28 (by omega)
          refine lv_aload_n hx hb dX1_countRests_67 rfl (lv_at hl 5 rfl) ?_
          refine va_get (D := D) (ci := 1) (v := .ref z1) (C := RX1) (T := TX1) (N := 8) hx hb hts inX1 hown hK hP 0 rfl rfl 1 (by decide) (hts _ tw_236) (fun _ h9 => h9) rfl dX1_countRests_68 ?_
          refine lv_iconst (v := 1) hx hb dX1_countRests_71 (by decide) ?_
          refine lv_iload hx hb dX1_countRests_72 (lv_at hl 0 rfl) ?_
          refine va_iast hx hb hK hP hD hS 1 1 rfl rfl (by unfold vp_in; decide) dX1_countRests_74 (fun H locs hP hD hS => ?_)
          replace hP : va_P D classes [(z0, .inr (1, [.ref c0, .ref z1, .ref z2, .ref z3, .int (nI pn), .int pf, .int pd, .int pe])), (z1, .inl (k 1, 4, .inl (upd (nF d_31) (Int32.toNatClampNeg 1) (nI b3_28)))), (z2, .inl (k 1, 100, .inl pco)), (c0, .inr (4, [.ref c1, .ref c2, .int (nI cc), .int (nI rz), .int ro, .int sd]))] H := hP
          replace hD : va_D A [(z0, .inr (1, [.ref c0, .ref z1, .ref z2, .ref z3, .int (nI pn), .int pf, .int pd, .int pe])), (z1, .inl (k 1, 4, .inl (upd (nF d_31) (Int32.toNatClampNeg 1) (nI b3_28)))), (z2, .inl (k 1, 100, .inl pco)), (c0, .inr (4, [.ref c1, .ref c2, .int (nI cc), .int (nI rz), .int ro, .int sd]))] := hD
          rw [show upd (nF d_31) (Int32.toNatClampNeg 1) (nI b3_28) = nF (fun j => if j = 1 then b3_28 else d_31 j) from nF_upd _ _ _] at hP hD
          obtain ⟨d_33, hd_33⟩ : ∃ z : Nat → Nat, z = (fun j => if j = 1 then b3_28 else d_31 j) := ⟨_, rfl⟩
          rw [← hd_33] at hP hD
          have hbb_33 : ∀ j, d_33 j ≤ 24 := by rw [hd_33]; exact up_le hbb_31 (by omega)
          refine lv_iload_n hx hb dX1_countRests_75 rfl (lv_at hl 2 rfl) ?_
          refine lv_aload_n hx hb dX1_countRests_76 rfl (lv_at hl 5 rfl) ?_
          refine ro_i (D := D) (va_runV (As := []) (rest := [.int rs2_28]) ⟨hx, hb, hml, hown, hts⟩ ((x_isAtRest l D k st lo c0 z0 z1 z2 z3 pn pf pd pe d_33 pco c1 c2 cc rz ro sd (by omega) (by omega) hbb_33) H.size) (cwV 0 hts (gV tw_892 tw_855 tw_856 tw_84 tw_857) rfl rfl rfl (by decide +kernel) ⟨Nat.le_of_ble_eq_true rfl, Nat.le_of_ble_eq_true rfl⟩) (pV hS hAlo hlo hP hK (va_Dlo hD hAlo) hZ [0, 1, 2, 3] (by decide) rfl (ci := 1) (q0 := 0) rfl rfl) rfl rfl hl.1 rfl (lv_room (Nat.le_of_ble_eq_true rfl)) dX1_countRests_77 ⟨Nat.le_of_ble_eq_true rfl, Nat.le_of_ble_eq_true rfl⟩) hS hA hP (fun r_34 H locs hw_34 hP hS => ?_)
          try dsimp only at hw_34
          rcases hw_34 with rfl | rfl
          · refine lv_if_eq (tgt := 87) hx hb dX1_countRests_80 (by decide) (fun h => absurd h (by decide)) (fun _ => ?_)
            refine lv_iconst (v := 1) hx hb dX1_countRests_83 (by decide) ?_
            refine lv_goto (tgt := 88) hx hb dX1_countRests_84 (by decide) ?_
            refine lv_iadd hx hb dX1_countRests_88 ?_
            refine lv_topi (fun x_35 ex_35 => ?_)
            refine lv_istore_n (lv' := [(3, .int x_35), (5, .int (nI b3_28)), (4, .int (nI aa_26)), (2, .int (nI pn)), (1, .int (nI pn)), (0, .ref z0)]) hx hb dX1_countRests_89 rfl hl (by decide) rfl (fun ls hl => ?_)
            refine lv_iinc (v := (nI (b3_28 + 1))) (lv' := [(5, .int (nI (b3_28 + 1))), (3, .int x_35), (4, .int (nI aa_26)), (2, .int (nI pn)), (1, .int (nI pn)), (0, .ref z0)]) hx hb dX1_countRests_90 hl (k := 1) rfl (nI_add b3_28 1) (by decide) rfl (fun ls hl => ?_)
            refine lv_goto (tgt := 53) hx hb dX1_countRests_93 (by decide) ?_
            exact ih_28 _ (b3_28 + 1, x_35, d_33) _ _ _ (by omega) ⟨rfl, ⟨by omega, hbb_33⟩, hP, hD, hS, (lv_sub hl [0, 2, 1, 3, 4, 5] rfl)⟩
          · refine lv_if_eq (tgt := 87) hx hb dX1_countRests_80 (by decide) (fun _ => ?_) (fun h => absurd (by decide) h)
            refine lv_iconst (v := 0) hx hb dX1_countRests_87 (by decide) ?_
            refine lv_iadd hx hb dX1_countRests_88 ?_
            refine lv_topi (fun x_36 ex_36 => ?_)
            refine lv_istore_n (lv' := [(3, .int x_36), (5, .int (nI b3_28)), (4, .int (nI aa_26)), (2, .int (nI pn)), (1, .int (nI pn)), (0, .ref z0)]) hx hb dX1_countRests_89 rfl hl (by decide) rfl (fun ls hl => ?_)
            refine lv_iinc (v := (nI (b3_28 + 1))) (lv' := [(5, .int (nI (b3_28 + 1))), (3, .int x_36), (4, .int (nI aa_26)), (2, .int (nI pn)), (1, .int (nI pn)), (0, .ref z0)]) hx hb dX1_countRests_90 hl (k := 1) rfl (nI_add b3_28 1) (by decide) rfl (fun ls hl => ?_)
            refine lv_goto (tgt := 53) hx hb dX1_countRests_93 (by decide) ?_
            exact ih_28 _ (b3_28 + 1, x_36, d_33) _ _ _ (by omega) ⟨rfl, ⟨by omega, hbb_33⟩, hP, hD, hS, (lv_sub hl [0, 2, 1, 3, 4, 5] rfl)⟩


theorem dX8_parkAll_0 : decode cX8_parkAll 0 = .ok (.iload_n 2, 1) := by decide +kernel
theorem dX8_parkAll_1 : decode cX8_parkAll 1 = .ok (.istore_n 3, 1) := by decide +kernel
theorem dX8_parkAll_2 : decode cX8_parkAll 2 = .ok (.iconst 0, 1) := by decide +kernel
theorem dX8_parkAll_3 : decode cX8_parkAll 3 = .ok (.istore 4, 2) := by decide +kernel
theorem dX8_parkAll_5 : decode cX8_parkAll 5 = .ok (.iload 4, 2) := by decide +kernel
theorem dX8_parkAll_7 : decode cX8_parkAll 7 = .ok (.aload_n 0, 1) := by decide +kernel
theorem dX8_parkAll_8 : decode cX8_parkAll 8 = .ok (.getfield 315, 3) := by decide +kernel
theorem dX8_parkAll_11 : decode cX8_parkAll 11 = .ok (.if_icmp .ge 107, 3) := by decide +kernel
theorem dX8_parkAll_14 : decode cX8_parkAll 14 = .ok (.aload_n 0, 1) := by decide +kernel
theorem dX8_parkAll_15 : decode cX8_parkAll 15 = .ok (.getfield 90, 3) := by decide +kernel
theorem dX8_parkAll_18 : decode cX8_parkAll 18 = .ok (.iload 4, 2) := by decide +kernel
theorem dX8_parkAll_20 : decode cX8_parkAll 20 = .ok (.iconst (-1), 1) := by decide +kernel
theorem dX8_parkAll_21 : decode cX8_parkAll 21 = .ok (.iastore, 1) := by decide +kernel
theorem dX8_parkAll_22 : decode cX8_parkAll 22 = .ok (.aload_n 0, 1) := by decide +kernel
theorem dX8_parkAll_23 : decode cX8_parkAll 23 = .ok (.getfield 7, 3) := by decide +kernel
theorem dX8_parkAll_26 : decode cX8_parkAll 26 = .ok (.iload_n 1, 1) := by decide +kernel
theorem dX8_parkAll_27 : decode cX8_parkAll 27 = .ok (.iaload, 1) := by decide +kernel
theorem dX8_parkAll_28 : decode cX8_parkAll 28 = .ok (.iconst 1, 1) := by decide +kernel
theorem dX8_parkAll_29 : decode cX8_parkAll 29 = .ok (.isub, 1) := by decide +kernel
theorem dX8_parkAll_30 : decode cX8_parkAll 30 = .ok (.istore 5, 2) := by decide +kernel
theorem dX8_parkAll_32 : decode cX8_parkAll 32 = .ok (.iload 5, 2) := by decide +kernel
theorem dX8_parkAll_34 : decode cX8_parkAll 34 = .ok (.ifCond .lt 50, 3) := by decide +kernel
theorem dX8_parkAll_37 : decode cX8_parkAll 37 = .ok (.iload 5, 2) := by decide +kernel
theorem dX8_parkAll_39 : decode cX8_parkAll 39 = .ok (.aload_n 0, 1) := by decide +kernel
theorem dX8_parkAll_40 : decode cX8_parkAll 40 = .ok (.getfield 87, 3) := by decide +kernel
theorem dX8_parkAll_43 : decode cX8_parkAll 43 = .ok (.iload 4, 2) := by decide +kernel
theorem dX8_parkAll_45 : decode cX8_parkAll 45 = .ok (.iaload, 1) := by decide +kernel
theorem dX8_parkAll_46 : decode cX8_parkAll 46 = .ok (.if_icmp .lt 38, 3) := by decide +kernel
theorem dX8_parkAll_49 : decode cX8_parkAll 49 = .ok (.aload_n 0, 1) := by decide +kernel
theorem dX8_parkAll_50 : decode cX8_parkAll 50 = .ok (.getfield 90, 3) := by decide +kernel
theorem dX8_parkAll_53 : decode cX8_parkAll 53 = .ok (.iload 4, 2) := by decide +kernel
theorem dX8_parkAll_55 : decode cX8_parkAll 55 = .ok (.iload_n 3, 1) := by decide +kernel
theorem dX8_parkAll_56 : decode cX8_parkAll 56 = .ok (.iload 5, 2) := by decide +kernel
theorem dX8_parkAll_58 : decode cX8_parkAll 58 = .ok (.ishr, 1) := by decide +kernel
theorem dX8_parkAll_59 : decode cX8_parkAll 59 = .ok (.iconst 1, 1) := by decide +kernel
theorem dX8_parkAll_60 : decode cX8_parkAll 60 = .ok (.iand, 1) := by decide +kernel
theorem dX8_parkAll_61 : decode cX8_parkAll 61 = .ok (.iconst 1, 1) := by decide +kernel
theorem dX8_parkAll_62 : decode cX8_parkAll 62 = .ok (.if_icmp .ne 8, 3) := by decide +kernel
theorem dX8_parkAll_65 : decode cX8_parkAll 65 = .ok (.iload 5, 2) := by decide +kernel
theorem dX8_parkAll_67 : decode cX8_parkAll 67 = .ok (.goto 10, 3) := by decide +kernel
theorem dX8_parkAll_70 : decode cX8_parkAll 70 = .ok (.aload_n 0, 1) := by decide +kernel
theorem dX8_parkAll_71 : decode cX8_parkAll 71 = .ok (.getfield 90, 3) := by decide +kernel
theorem dX8_parkAll_74 : decode cX8_parkAll 74 = .ok (.iload 4, 2) := by decide +kernel
theorem dX8_parkAll_76 : decode cX8_parkAll 76 = .ok (.iaload, 1) := by decide +kernel
theorem dX8_parkAll_77 : decode cX8_parkAll 77 = .ok (.iastore, 1) := by decide +kernel
theorem dX8_parkAll_78 : decode cX8_parkAll 78 = .ok (.iinc 5 (-1), 3) := by decide +kernel
theorem dX8_parkAll_81 : decode cX8_parkAll 81 = .ok (.goto (-49), 3) := by decide +kernel
theorem dX8_parkAll_84 : decode cX8_parkAll 84 = .ok (.iload_n 3, 1) := by decide +kernel
theorem dX8_parkAll_85 : decode cX8_parkAll 85 = .ok (.aload_n 0, 1) := by decide +kernel
theorem dX8_parkAll_86 : decode cX8_parkAll 86 = .ok (.getfield 90, 3) := by decide +kernel
theorem dX8_parkAll_89 : decode cX8_parkAll 89 = .ok (.iload 4, 2) := by decide +kernel
theorem dX8_parkAll_91 : decode cX8_parkAll 91 = .ok (.iaload, 1) := by decide +kernel
theorem dX8_parkAll_92 : decode cX8_parkAll 92 = .ok (.ifCond .ge 7, 3) := by decide +kernel
theorem dX8_parkAll_95 : decode cX8_parkAll 95 = .ok (.iconst (-1), 1) := by decide +kernel
theorem dX8_parkAll_96 : decode cX8_parkAll 96 = .ok (.goto 14, 3) := by decide +kernel
theorem dX8_parkAll_99 : decode cX8_parkAll 99 = .ok (.iconst 1, 1) := by decide +kernel
theorem dX8_parkAll_100 : decode cX8_parkAll 100 = .ok (.aload_n 0, 1) := by decide +kernel
theorem dX8_parkAll_101 : decode cX8_parkAll 101 = .ok (.getfield 90, 3) := by decide +kernel
theorem dX8_parkAll_104 : decode cX8_parkAll 104 = .ok (.iload 4, 2) := by decide +kernel
theorem dX8_parkAll_106 : decode cX8_parkAll 106 = .ok (.iaload, 1) := by decide +kernel
theorem dX8_parkAll_107 : decode cX8_parkAll 107 = .ok (.ishl, 1) := by decide +kernel
theorem dX8_parkAll_108 : decode cX8_parkAll 108 = .ok (.iconst (-1), 1) := by decide +kernel
theorem dX8_parkAll_109 : decode cX8_parkAll 109 = .ok (.ixor, 1) := by decide +kernel
theorem dX8_parkAll_110 : decode cX8_parkAll 110 = .ok (.iand, 1) := by decide +kernel
theorem dX8_parkAll_111 : decode cX8_parkAll 111 = .ok (.istore_n 3, 1) := by decide +kernel
theorem dX8_parkAll_112 : decode cX8_parkAll 112 = .ok (.iinc 4 1, 3) := by decide +kernel
theorem dX8_parkAll_115 : decode cX8_parkAll 115 = .ok (.goto (-110), 3) := by decide +kernel
theorem dX8_parkAll_118 : decode cX8_parkAll 118 = .ok (.return_, 1) := by decide +kernel
set_option maxHeartbeats 4000000 in
set_option maxRecDepth 100000 in
theorem m_parkAll (l : Launch) (D : va_G) (k : Nat → ClassId) (st : Nat → Nat) (lo : Nat) (a : Nat → Nat) (tx : Nat) (t0 : Nat) (we : Nat) (rd : Nat) (ru : Nat) (rw : Nat) (ca : Nat) (fp : Int32) (wd : Int64) (nu : Int32) (na : Int32) (ts : Int32) (df : Int32) (db : Int32) (sd : Int32) (dn : Nat → Nat) (br : Nat → Nat) (fdoorsOf : Nat → Int32) (sn : Nat) (p1 : Int32) (hdn : ∀ j, dn j ≤ 24) (hca : ca ≤ 4) (hbr : ∀ j, br j ≤ 24) (hs : sn < 3) (hdv : dvOK fdoorsOf) : CWv l D k st lo yX8_parkAll cX8_parkAll 6 none ({ frames := 0, cells := 0, slots := 0, locals := 0 }) 0 0 [.ref (a 0), .int (nI sn), .int p1] [((a 0), .inr (8, [.ref (a 1), .ref (a 2), .ref (a 3), .ref (a 4), .ref (a 5), .int (nI tx), .int fp, .int (nI t0), .long wd, .int (nI we), .int nu, .int na, .int (nI rd), .ref (a 14), .ref (a 15), .ref (a 16), .int ts, .ref (a 18), .ref (a 19), .ref (a 20), .ref (a 21), .ref (a 22), .ref (a 23), .int (nI ru), .ref (a 25), .ref (a 26), .ref (a 27), .ref (a 28), .ref (a 29), .ref (a 30), .int (nI rw), .ref (a 32), .ref (a 33), .ref (a 34), .int (nI ca), .ref (a 36), .ref (a 37), .int df, .int db, .ref (a 40), .ref (a 41), .int sd, .ref (a 43), .ref (a 44)])), ((a 1), .inl (k 1, 3, .inl (nF dn))), ((a 37), .inl (k 1, 4, .inl (nF br))), ((a 40), .inl (k 1, 4, .inl fdoorsOf))] (fun (fdoorsOf_ : (Nat → Int32)) => dvOK fdoorsOf_) (fun (fdoorsOf_ : (Nat → Int32)) => [((a 0), .inr (8, [.ref (a 1), .ref (a 2), .ref (a 3), .ref (a 4), .ref (a 5), .int (nI tx), .int fp, .int (nI t0), .long wd, .int (nI we), .int nu, .int na, .int (nI rd), .ref (a 14), .ref (a 15), .ref (a 16), .int ts, .ref (a 18), .ref (a 19), .ref (a 20), .ref (a 21), .ref (a 22), .ref (a 23), .int (nI ru), .ref (a 25), .ref (a 26), .ref (a 27), .ref (a 28), .ref (a 29), .ref (a 30), .int (nI rw), .ref (a 32), .ref (a 33), .ref (a 34), .int (nI ca), .ref (a 36), .ref (a 37), .int df, .int db, .ref (a 40), .ref (a 41), .int sd, .ref (a 43), .ref (a 44)])), ((a 1), .inl (k 1, 3, .inl (nF dn))), ((a 37), .inl (k 1, 4, .inl (nF br))), ((a 40), .inl (k 1, 4, .inl fdoorsOf_))]) := by
  intro sz
  refine Met.ofW (cc := cX8_parkAll) (maxL := 6) (ret := none) (by decide) rfl ?_
  intro p e s m args below meth c s₁ B hml hv
  obtain ⟨rfl, hsz, hlo, hP, hK, hDL, hZ⟩ := hv
  have hx := B.exec
  have hb := B.bytes
  have hr := B.returns
  have hts := WS_ts B.pre
  have hown : s.vm.findClass RX8 = some m.cls := findClass_of_methodNamed B.named
  have hlocks := B.notSynchronized
  subst hsz
  have hD := hDL.self (sz := s.heap.size)
  have hAlo := A_lo hDL hlo
  generalize hAe : va_A [((a 0), .inr (8, [.ref (a 1), .ref (a 2), .ref (a 3), .ref (a 4), .ref (a 5), .int (nI tx), .int fp, .int (nI t0), .long wd, .int (nI we), .int nu, .int na, .int (nI rd), .ref (a 14), .ref (a 15), .ref (a 16), .int ts, .ref (a 18), .ref (a 19), .ref (a 20), .ref (a 21), .ref (a 22), .ref (a 23), .int (nI ru), .ref (a 25), .ref (a 26), .ref (a 27), .ref (a 28), .ref (a 29), .ref (a 30), .int (nI rw), .ref (a 32), .ref (a 33), .ref (a 34), .int (nI ca), .ref (a 36), .ref (a 37), .int df, .int db, .ref (a 40), .ref (a 41), .int sd, .ref (a 43), .ref (a 44)])), ((a 1), .inl (k 1, 3, .inl (nF dn))), ((a 37), .inl (k 1, 4, .inl (nF br))), ((a 40), .inl (k 1, 4, .inl fdoorsOf))] s.heap.size = A at hD hAlo ⊢
  have hA : ∀ q : Nat, s.heap.size ≤ q → A q := fun q h => by rw [← hAe]; exact Or.inr h
  have hS : va_S A s.heap s.heap [] := va_S.rf
  have hl := lv_entry ([.ref (a 0), .int (nI sn), .int p1]) (n := 6) (Nat.le_of_ble_eq_true rfl)
  rw [lg_entry_eq]
  generalize (lg_sl ([.ref (a 0), .int (nI sn), .int p1]) ++ List.replicate (6 - (lg_sl ([.ref (a 0), .int (nI sn), .int p1])).length) Slot.unset).toArray = ls at hl ⊢
  have hl : lv_has ls 6 [(0, .ref (a 0)), (1, .int (nI sn)), (2, .int p1)] := hl
  have hd_9 := hdn sn
  refine lv_iload_n hx hb dX8_parkAll_0 rfl (lv_at hl 2 rfl) ?_
  refine lv_istore_n (lv' := [(3, .int p1), (0, .ref (a 0)), (1, .int (nI sn)), (2, .int p1)]) hx hb dX8_parkAll_1 rfl hl (by decide) rfl (fun ls hl => ?_)
  refine lv_iconst (v := 0) hx hb dX8_parkAll_2 (by decide) ?_
  refine lv_istore (lv' := [(4, .int 0), (3, .int p1), (0, .ref (a 0)), (1, .int (nI sn)), (2, .int p1)]) hx hb dX8_parkAll_3 hl (by decide) rfl (fun ls hl => ?_)
  refine W_loop (σ := Nat × Int32 × (Nat → Int32)) (fun (n_ : Nat) (x_ : Nat × Int32 × (Nat → Int32)) (H : Heap) (locs : List Loc) (ls : Array Slot) => match x_ with | (cc_1, lf_1, fd_1) => n_ = 4 - cc_1 ∧ (cc_1 ≤ 4 ∧ dvOK fd_1) ∧ va_P D classes [((a 0), .inr (8, [.ref (a 1), .ref (a 2), .ref (a 3), .ref (a 4), .ref (a 5), .int (nI tx), .int fp, .int (nI t0), .long wd, .int (nI we), .int nu, .int na, .int (nI rd), .ref (a 14), .ref (a 15), .ref (a 16), .int ts, .ref (a 18), .ref (a 19), .ref (a 20), .ref (a 21), .ref (a 22), .ref (a 23), .int (nI ru), .ref (a 25), .ref (a 26), .ref (a 27), .ref (a 28), .ref (a 29), .ref (a 30), .int (nI rw), .ref (a 32), .ref (a 33), .ref (a 34), .int (nI ca), .ref (a 36), .ref (a 37), .int df, .int db, .ref (a 40), .ref (a 41), .int sd, .ref (a 43), .ref (a 44)])), ((a 1), .inl (k 1, 3, .inl (nF dn))), ((a 37), .inl (k 1, 4, .inl (nF br))), ((a 40), .inl (k 1, 4, .inl fd_1))] H ∧ va_D A [((a 0), .inr (8, [.ref (a 1), .ref (a 2), .ref (a 3), .ref (a 4), .ref (a 5), .int (nI tx), .int fp, .int (nI t0), .long wd, .int (nI we), .int nu, .int na, .int (nI rd), .ref (a 14), .ref (a 15), .ref (a 16), .int ts, .ref (a 18), .ref (a 19), .ref (a 20), .ref (a 21), .ref (a 22), .ref (a 23), .int (nI ru), .ref (a 25), .ref (a 26), .ref (a 27), .ref (a 28), .ref (a 29), .ref (a 30), .int (nI rw), .ref (a 32), .ref (a 33), .ref (a 34), .int (nI ca), .ref (a 36), .ref (a 37), .int df, .int db, .ref (a 40), .ref (a 41), .int sd, .ref (a 43), .ref (a 44)])), ((a 1), .inl (k 1, 3, .inl (nF dn))), ((a 37), .inl (k 1, 4, .inl (nF br))), ((a 40), .inl (k 1, 4, .inl fd_1))] ∧ va_S A s.heap H locs ∧ lv_has ls 6 [(4, .int (nI cc_1)), (3, .int lf_1), (0, .ref (a 0)), (1, .int (nI sn)), (2, .int p1)]) (fun n_1 x_1 H locs ls hI ih_1 => ?_) _ (0, p1, fdoorsOf) ⟨rfl, ⟨by omega, hdv⟩, hP, hD, hS, (lv_sub hl [0, 1, 2, 3, 4] rfl)⟩
  obtain ⟨cc_1, lf_1, fd_1⟩ := x_1
  obtain ⟨hm_1, hv_1, hP, hD, hS, hl⟩ := hI
  subst hm_1
  have hdvl_1 := hv_1.2
  refine lv_iload hx hb dX8_parkAll_5 (lv_at hl 0 rfl) ?_
  refine lv_aload_n hx hb dX8_parkAll_7 rfl (lv_at hl 2 rfl) ?_
  refine va_get (D := D) (ci := 8) (v := .int (nI ca)) (C := RX8) (T := TX8) (N := 44) hx hb hts inX8 hown hK hP 0 rfl rfl 34 (by decide) (hts _ tw_1007) (fun _ h9 => h9) rfl dX8_parkAll_8 ?_
  refine lv_icmp_ge (tgt := 118) hx hb dX8_parkAll_11 (by decide) (fun c_2 => ?_) (fun c_2 => ?_)
  · have c_2 := (nI_leI (a := ca) (b := cc_1) (by omega) (by omega)).mp c_2
    have hP9 := hP.sub (ws' := [((a 0), .inr (8, [.ref (a 1), .ref (a 2), .ref (a 3), .ref (a 4), .ref (a 5), .int (nI tx), .int fp, .int (nI t0), .long wd, .int (nI we), .int nu, .int na, .int (nI rd), .ref (a 14), .ref (a 15), .ref (a 16), .int ts, .ref (a 18), .ref (a 19), .ref (a 20), .ref (a 21), .ref (a 22), .ref (a 23), .int (nI ru), .ref (a 25), .ref (a 26), .ref (a 27), .ref (a 28), .ref (a 29), .ref (a 30), .int (nI rw), .ref (a 32), .ref (a 33), .ref (a 34), .int (nI ca), .ref (a 36), .ref (a 37), .int df, .int db, .ref (a 40), .ref (a 41), .int sd, .ref (a 43), .ref (a 44)])), ((a 1), .inl (k 1, 3, .inl (nF dn))), ((a 37), .inl (k 1, 4, .inl (nF br))), ((a 40), .inl (k 1, 4, .inl fd_1))]) [0, 1, 2, 3] rfl
    have hD9 := hD.sub (ws' := [((a 0), .inr (8, [.ref (a 1), .ref (a 2), .ref (a 3), .ref (a 4), .ref (a 5), .int (nI tx), .int fp, .int (nI t0), .long wd, .int (nI we), .int nu, .int na, .int (nI rd), .ref (a 14), .ref (a 15), .ref (a 16), .int ts, .ref (a 18), .ref (a 19), .ref (a 20), .ref (a 21), .ref (a 22), .ref (a 23), .int (nI ru), .ref (a 25), .ref (a 26), .ref (a 27), .ref (a 28), .ref (a 29), .ref (a 30), .int (nI rw), .ref (a 32), .ref (a 33), .ref (a 34), .int (nI ca), .ref (a 36), .ref (a 37), .int df, .int db, .ref (a 40), .ref (a 41), .int sd, .ref (a 43), .ref (a 44)])), ((a 1), .inl (k 1, 3, .inl (nF dn))), ((a 37), .inl (k 1, 4, .inl (nF br))), ((a 40), .inl (k 1, 4, .inl fd_1))]) [0, 1, 2, 3] (by decide) rfl
    exact W.vret hx hb hr (fun t ht hW => ⟨⟨fd_1, rfl, hdvl_1, by rw [ht]; exact hP9, hD9⟩, hS.F ht⟩) hS.2.2 dX8_parkAll_118
  · have c_2 : ¬ (ca ≤ cc_1) := fun h => c_2 ((nI_leI (a := ca) (b := cc_1) (by omega) (by omega)).mpr h)
    refine lv_aload_n hx hb dX8_parkAll_14 rfl (lv_at hl 2 rfl) ?_
    refine va_get (D := D) (ci := 8) (v := .ref (a 40)) (C := RX8) (T := TX8) (N := 44) hx hb hts inX8 hown hK hP 0 rfl rfl 39 (by decide) (hts _ tw_1012) (fun _ h9 => h9) rfl dX8_parkAll_15 ?_
    refine lv_iload hx hb dX8_parkAll_18 (lv_at hl 0 rfl) ?_
    refine lv_iconst (v := (-1)) hx hb dX8_parkAll_20 (by decide) ?_
    refine va_iast hx hb hK hP hD hS 3 1 rfl rfl (vp_in_nI (by omega) (by decide)) dX8_parkAll_21 (fun H locs hP hD hS => ?_)
    replace hP : va_P D classes [((a 0), .inr (8, [.ref (a 1), .ref (a 2), .ref (a 3), .ref (a 4), .ref (a 5), .int (nI tx), .int fp, .int (nI t0), .long wd, .int (nI we), .int nu, .int na, .int (nI rd), .ref (a 14), .ref (a 15), .ref (a 16), .int ts, .ref (a 18), .ref (a 19), .ref (a 20), .ref (a 21), .ref (a 22), .ref (a 23), .int (nI ru), .ref (a 25), .ref (a 26), .ref (a 27), .ref (a 28), .ref (a 29), .ref (a 30), .int (nI rw), .ref (a 32), .ref (a 33), .ref (a 34), .int (nI ca), .ref (a 36), .ref (a 37), .int df, .int db, .ref (a 40), .ref (a 41), .int sd, .ref (a 43), .ref (a 44)])), ((a 1), .inl (k 1, 3, .inl (nF dn))), ((a 37), .inl (k 1, 4, .inl (nF br))), ((a 40), .inl (k 1, 4, .inl (upd fd_1 (Int32.toNatClampNeg (nI cc_1)) (-1))))] H := hP
    replace hD : va_D A [((a 0), .inr (8, [.ref (a 1), .ref (a 2), .ref (a 3), .ref (a 4), .ref (a 5), .int (nI tx), .int fp, .int (nI t0), .long wd, .int (nI we), .int nu, .int na, .int (nI rd), .ref (a 14), .ref (a 15), .ref (a 16), .int ts, .ref (a 18), .ref (a 19), .ref (a 20), .ref (a 21), .ref (a 22), .ref (a 23), .int (nI ru), .ref (a 25), .ref (a 26), .ref (a 27), .ref (a 28), .ref (a 29), .ref (a 30), .int (nI rw), .ref (a 32), .ref (a 33), .ref (a 34), .int (nI ca), .ref (a 36), .ref (a 37), .int df, .int db, .ref (a 40), .ref (a 41), .int sd, .ref (a 43), .ref (a 44)])), ((a 1), .inl (k 1, 3, .inl (nF dn))), ((a 37), .inl (k 1, 4, .inl (nF br))), ((a 40), .inl (k 1, 4, .inl (upd fd_1 (Int32.toNatClampNeg (nI cc_1)) (-1))))] := hD
    rw [nI_clamp (n := cc_1) (by omega)] at hP hD
    replace hP : va_P D classes [((a 0), .inr (8, [.ref (a 1), .ref (a 2), .ref (a 3), .ref (a 4), .ref (a 5), .int (nI tx), .int fp, .int (nI t0), .long wd, .int (nI we), .int nu, .int na, .int (nI rd), .ref (a 14), .ref (a 15), .ref (a 16), .int ts, .ref (a 18), .ref (a 19), .ref (a 20), .ref (a 21), .ref (a 22), .ref (a 23), .int (nI ru), .ref (a 25), .ref (a 26), .ref (a 27), .ref (a 28), .ref (a 29), .ref (a 30), .int (nI rw), .ref (a 32), .ref (a 33), .ref (a 34), .int (nI ca), .ref (a 36), .ref (a 37), .int df, .int db, .ref (a 40), .ref (a 41), .int sd, .ref (a 43), .ref (a 44)])), ((a 1), .inl (k 1, 3, .inl (nF dn))), ((a 37), .inl (k 1, 4, .inl (nF br))), ((a 40), .inl (k 1, 4, .inl (upd fd_1 cc_1 (-1))))] H := hP
    replace hD : va_D A [((a 0), .inr (8, [.ref (a 1), .ref (a 2), .ref (a 3), .ref (a 4), .ref (a 5), .int (nI tx), .int fp, .int (nI t0), .long wd, .int (nI we), .int nu, .int na, .int (nI rd), .ref (a 14), .ref (a 15), .ref (a 16), .int ts, .ref (a 18), .ref (a 19), .ref (a 20), .ref (a 21), .ref (a 22), .ref (a 23), .int (nI ru), .ref (a 25), .ref (a 26), .ref (a 27), .ref (a 28), .ref (a 29), .ref (a 30), .int (nI rw), .ref (a 32), .ref (a 33), .ref (a 34), .int (nI ca), .ref (a 36), .ref (a 37), .int df, .int db, .ref (a 40), .ref (a 41), .int sd, .ref (a 43), .ref (a 44)])), ((a 1), .inl (k 1, 3, .inl (nF dn))), ((a 37), .inl (k 1, 4, .inl (nF br))), ((a 40), .inl (k 1, 4, .inl (upd fd_1 cc_1 (-1))))] := hD
    have hdv_4 : dvOK (upd fd_1 cc_1 (-1)) := dvOK_upd hdvl_1 cc_1 (-1) (.inl (by decide))
    generalize (upd fd_1 cc_1 (-1)) = f_4 at hP hD hdv_4
    refine lv_aload_n hx hb dX8_parkAll_22 rfl (lv_at hl 2 rfl) ?_
    refine va_get (D := D) (ci := 8) (v := .ref (a 1)) (C := RX8) (T := TX8) (N := 44) hx hb hts inX8 hown hK hP 0 rfl rfl 0 (by decide) (hts _ tw_973) (fun _ h9 => h9) rfl dX8_parkAll_23 ?_
    refine lv_iload_n hx hb dX8_parkAll_26 rfl (lv_at hl 3 rfl) ?_
    refine va_iald hx hb hK hP 1 1 rfl rfl (vp_in_nI (by omega) (by decide)) dX8_parkAll_27 ?_
    refine lv_ti (y := (nI (dn sn))) (by rw [nI_clamp (by omega)]; rfl) ?_
    refine lv_iconst (v := 1) hx hb dX8_parkAll_28 (by decide) ?_
    refine lv_isub hx hb dX8_parkAll_29 ?_
    refine lv_ti (y := (nI (dn sn) - 1)) rfl ?_
    refine lv_istore (lv' := [(5, .int (nI (dn sn) - 1)), (4, .int (nI cc_1)), (3, .int lf_1), (0, .ref (a 0)), (1, .int (nI sn)), (2, .int p1)]) hx hb dX8_parkAll_30 hl (by decide) rfl (fun ls hl => ?_)
    refine W_loop (σ := Nat × (Nat → Int32)) (fun (n_ : Nat) (x_ : Nat × (Nat → Int32)) (H : Heap) (locs : List Loc) (ls : Array Slot) => match x_ with | (q_5, fd_5) => n_ = 2 * q_5 ∧ (q_5 ≤ 24 ∧ dvOK fd_5) ∧ va_P D classes [((a 0), .inr (8, [.ref (a 1), .ref (a 2), .ref (a 3), .ref (a 4), .ref (a 5), .int (nI tx), .int fp, .int (nI t0), .long wd, .int (nI we), .int nu, .int na, .int (nI rd), .ref (a 14), .ref (a 15), .ref (a 16), .int ts, .ref (a 18), .ref (a 19), .ref (a 20), .ref (a 21), .ref (a 22), .ref (a 23), .int (nI ru), .ref (a 25), .ref (a 26), .ref (a 27), .ref (a 28), .ref (a 29), .ref (a 30), .int (nI rw), .ref (a 32), .ref (a 33), .ref (a 34), .int (nI ca), .ref (a 36), .ref (a 37), .int df, .int db, .ref (a 40), .ref (a 41), .int sd, .ref (a 43), .ref (a 44)])), ((a 1), .inl (k 1, 3, .inl (nF dn))), ((a 37), .inl (k 1, 4, .inl (nF br))), ((a 40), .inl (k 1, 4, .inl fd_5))] H ∧ va_D A [((a 0), .inr (8, [.ref (a 1), .ref (a 2), .ref (a 3), .ref (a 4), .ref (a 5), .int (nI tx), .int fp, .int (nI t0), .long wd, .int (nI we), .int nu, .int na, .int (nI rd), .ref (a 14), .ref (a 15), .ref (a 16), .int ts, .ref (a 18), .ref (a 19), .ref (a 20), .ref (a 21), .ref (a 22), .ref (a 23), .int (nI ru), .ref (a 25), .ref (a 26), .ref (a 27), .ref (a 28), .ref (a 29), .ref (a 30), .int (nI rw), .ref (a 32), .ref (a 33), .ref (a 34), .int (nI ca), .ref (a 36), .ref (a 37), .int df, .int db, .ref (a 40), .ref (a 41), .int sd, .ref (a 43), .ref (a 44)])), ((a 1), .inl (k 1, 3, .inl (nF dn))), ((a 37), .inl (k 1, 4, .inl (nF br))), ((a 40), .inl (k 1, 4, .inl fd_5))] ∧ va_S A s.heap H locs ∧ lv_has ls 6 [(5, .int (nI q_5 - 1)), (4, .int (nI cc_1)), (3, .int lf_1), (0, .ref (a 0)), (1, .int (nI sn)), (2, .int p1)]) (fun n_5 x_5 H locs ls hI ih_5 => ?_) _ (dn sn, f_4) ⟨rfl, ⟨by omega, hdv_4⟩, hP, hD, hS, (lv_sub hl [0, 1, 2, 3, 4, 5] rfl)⟩
    obtain ⟨q_5, fd_5⟩ := x_5
    obtain ⟨hm_5, hv_5, hP, hD, hS, hl⟩ := hI
    subst hm_5
    have hdvl_5 := hv_5.2
    rcases q_5 with _ | q_5
    · rw [dn0] at hl
      refine lv_iload hx hb dX8_parkAll_32 (lv_at hl 0 rfl) ?_
      refine lv_if_lt (tgt := 84) hx hb dX8_parkAll_34 (by decide) (fun _ => ?_) (fun h => absurd (by decide) h)
      refine lv_iload_n hx hb dX8_parkAll_84 rfl (lv_at hl 2 rfl) ?_
      refine lv_aload_n hx hb dX8_parkAll_85 rfl (lv_at hl 3 rfl) ?_
      refine va_get (D := D) (ci := 8) (v := .ref (a 40)) (C := RX8) (T := TX8) (N := 44) hx hb hts inX8 hown hK hP 0 rfl rfl 39 (by decide) (hts _ tw_1012) (fun _ h9 => h9) rfl dX8_parkAll_86 ?_
      refine lv_iload hx hb dX8_parkAll_89 (lv_at hl 1 rfl) ?_
      refine va_iald hx hb hK hP 3 1 rfl rfl (vp_in_nI (by omega) (by decide)) dX8_parkAll_91 ?_
      refine lv_ti (y := (fd_5 cc_1)) (by rw [nI_clamp (by omega)]) ?_
      refine lv_if_ge (tgt := 99) hx hb dX8_parkAll_92 (by decide) (fun c_6 => ?_) (fun c_6 => ?_)
      · refine lv_iconst (v := 1) hx hb dX8_parkAll_99 (by decide) ?_
        refine lv_aload_n hx hb dX8_parkAll_100 rfl (lv_at hl 3 rfl) ?_
        refine va_get (D := D) (ci := 8) (v := .ref (a 40)) (C := RX8) (T := TX8) (N := 44) hx hb hts inX8 hown hK hP 0 rfl rfl 39 (by decide) (hts _ tw_1012) (fun _ h9 => h9) rfl dX8_parkAll_101 ?_
        refine lv_iload hx hb dX8_parkAll_104 (lv_at hl 1 rfl) ?_
        refine va_iald hx hb hK hP 3 1 rfl rfl (vp_in_nI (by omega) (by decide)) dX8_parkAll_106 ?_
        refine lv_ti (y := (fd_5 cc_1)) (by rw [nI_clamp (by omega)]) ?_
        refine lv_ishl hx hb dX8_parkAll_107 ?_
        refine lv_topi (fun x_7 ex_7 => ?_)
        refine lv_iconst (v := (-1)) hx hb dX8_parkAll_108 (by decide) ?_
        refine lv_ixor hx hb dX8_parkAll_109 ?_
        refine lv_topi (fun x_8 ex_8 => ?_)
        refine lv_iand hx hb dX8_parkAll_110 ?_
        refine lv_topi (fun x_9 ex_9 => ?_)
        refine lv_istore_n (lv' := [(3, .int x_9), (5, .int (-1)), (4, .int (nI cc_1)), (0, .ref (a 0)), (1, .int (nI sn)), (2, .int p1)]) hx hb dX8_parkAll_111 rfl hl (by decide) rfl (fun ls hl => ?_)
        refine lv_iinc (v := (nI (cc_1 + 1))) (lv' := [(4, .int (nI (cc_1 + 1))), (3, .int x_9), (5, .int (-1)), (0, .ref (a 0)), (1, .int (nI sn)), (2, .int p1)]) hx hb dX8_parkAll_112 hl (k := 2) rfl (nI_add cc_1 1) (by decide) rfl (fun ls hl => ?_)
        refine lv_goto (tgt := 5) hx hb dX8_parkAll_115 (by decide) ?_
        exact ih_1 _ (cc_1 + 1, x_9, fd_5) _ _ _ (by omega) ⟨rfl, ⟨by omega, hdvl_5⟩, hP, hD, hS, (lv_sub hl [0, 1, 3, 4, 5] rfl)⟩
      · refine lv_iconst (v := (-1)) hx hb dX8_parkAll_95 (by decide) ?_
        refine lv_goto (tgt := 110) hx hb dX8_parkAll_96 (by decide) ?_
        refine lv_iand hx hb dX8_parkAll_110 ?_
        refine lv_topi (fun x_10 ex_10 => ?_)
        refine lv_istore_n (lv' := [(3, .int x_10), (5, .int (-1)), (4, .int (nI cc_1)), (0, .ref (a 0)), (1, .int (nI sn)), (2, .int p1)]) hx hb dX8_parkAll_111 rfl hl (by decide) rfl (fun ls hl => ?_)
        refine lv_iinc (v := (nI (cc_1 + 1))) (lv' := [(4, .int (nI (cc_1 + 1))), (3, .int x_10), (5, .int (-1)), (0, .ref (a 0)), (1, .int (nI sn)), (2, .int p1)]) hx hb dX8_parkAll_112 hl (k := 2) rfl (nI_add cc_1 1) (by decide) rfl (fun ls hl => ?_)
        refine lv_goto (tgt := 5) hx hb dX8_parkAll_115 (by decide) ?_
        exact ih_1 _ (cc_1 + 1, x_10, fd_5) _ _ _ (by omega) ⟨rfl, ⟨by omega, hdvl_5⟩, hP, hD, hS, (lv_sub hl [0, 1, 3, 4, 5] rfl)⟩
    · rw [nI_pred] at hl
      refine lv_iload hx hb dX8_parkAll_32 (lv_at hl 0 rfl) ?_
      refine lv_if_lt (tgt := 84) hx hb dX8_parkAll_34 (by decide) (fun h => absurd h (nI_pos0 (by omega))) (fun _ => ?_)
      refine lv_iload hx hb dX8_parkAll_37 (lv_at hl 0 rfl) ?_
      refine lv_aload_n hx hb dX8_parkAll_39 rfl (lv_at hl 3 rfl) ?_
      refine va_get (D := D) (ci := 8) (v := .ref (a 37)) (C := RX8) (T := TX8) (N := 44) hx hb hts inX8 hown hK hP 0 rfl rfl 36 (by decide) (hts _ tw_1009) (fun _ h9 => h9) rfl dX8_parkAll_40 ?_
      refine lv_iload hx hb dX8_parkAll_43 (lv_at hl 1 rfl) ?_
      refine va_iald hx hb hK hP 2 1 rfl rfl (vp_in_nI (by omega) (by decide)) dX8_parkAll_45 ?_
      have hq_11 := hbr cc_1
      refine lv_ti (y := (nI (br cc_1))) (by rw [nI_clamp (by omega)]; rfl) ?_
      refine lv_icmp_lt (tgt := 84) hx hb dX8_parkAll_46 (by decide) (fun c_12 => ?_) (fun c_12 => ?_)
      · have c_12 := (nI_ltI (a := q_5) (b := (br cc_1)) (by omega) (by omega)).mp c_12
        refine lv_iload_n hx hb dX8_parkAll_84 rfl (lv_at hl 2 rfl) ?_
        refine lv_aload_n hx hb dX8_parkAll_85 rfl (lv_at hl 3 rfl) ?_
        refine va_get (D := D) (ci := 8) (v := .ref (a 40)) (C := RX8) (T := TX8) (N := 44) hx hb hts inX8 hown hK hP 0 rfl rfl 39 (by decide) (hts _ tw_1012) (fun _ h9 => h9) rfl dX8_parkAll_86 ?_
        refine lv_iload hx hb dX8_parkAll_89 (lv_at hl 1 rfl) ?_
        refine va_iald hx hb hK hP 3 1 rfl rfl (vp_in_nI (by omega) (by decide)) dX8_parkAll_91 ?_
        refine lv_ti (y := (fd_5 cc_1)) (by rw [nI_clamp (by omega)]) ?_
        refine lv_if_ge (tgt := 99) hx hb dX8_parkAll_92 (by decide) (fun c_13 => ?_) (fun c_13 => ?_)
        · refine lv_iconst (v := 1) hx hb dX8_parkAll_99 (by decide) ?_
          refine lv_aload_n hx hb dX8_parkAll_100 rfl (lv_at hl 3 rfl) ?_
          refine va_get (D := D) (ci := 8) (v := .ref (a 40)) (C := RX8) (T := TX8) (N := 44) hx hb hts inX8 hown hK hP 0 rfl rfl 39 (by decide) (hts _ tw_1012) (fun _ h9 => h9) rfl dX8_parkAll_101 ?_
          refine lv_iload hx hb dX8_parkAll_104 (lv_at hl 1 rfl) ?_
          refine va_iald hx hb hK hP 3 1 rfl rfl (vp_in_nI (by omega) (by decide)) dX8_parkAll_106 ?_
          refine lv_ti (y := (fd_5 cc_1)) (by rw [nI_clamp (by omega)]) ?_
          refine lv_ishl hx hb dX8_parkAll_107 ?_
          refine lv_topi (fun x_14 ex_14 => ?_)
          refine lv_iconst (v := (-1)) hx hb dX8_parkAll_108 (by decide) ?_
          refine lv_ixor hx hb dX8_parkAll_109 ?_
          refine lv_topi (fun x_15 ex_15 => ?_)
          refine lv_iand hx hb dX8_parkAll_110 ?_
          refine lv_topi (fun x_16 ex_16 => ?_)
          refine lv_istore_n (lv' := [(3, .int x_16), (5, .int (nI q_5)), (4, .int (nI cc_1)), (0, .ref (a 0)), (1, .int (nI sn)), (2, .int p1)]) hx hb dX8_parkAll_111 rfl hl (by decide) rfl (fun ls hl => ?_)
          refine lv_iinc (v := (nI (cc_1 + 1))) (lv' := [(4, .int (nI (cc_1 + 1))), (3, .int x_16), (5, .int (nI q_5)), (0, .ref (a 0)), (1, .int (nI sn)), (2, .int p1)]) hx hb dX8_parkAll_112 hl (k := 2) rfl (nI_add cc_1 1) (by decide) rfl (fun ls hl => ?_)
          refine lv_goto (tgt := 5) hx hb dX8_parkAll_115 (by decide) ?_
          exact ih_1 _ (cc_1 + 1, x_16, fd_5) _ _ _ (by omega) ⟨rfl, ⟨by omega, hdvl_5⟩, hP, hD, hS, (lv_sub hl [0, 1, 3, 4, 5] rfl)⟩
        · refine lv_iconst (v := (-1)) hx hb dX8_parkAll_95 (by decide) ?_
          refine lv_goto (tgt := 110) hx hb dX8_parkAll_96 (by decide) ?_
          refine lv_iand hx hb dX8_parkAll_110 ?_
          refine lv_topi (fun x_17 ex_17 => ?_)
          refine lv_istore_n (lv' := [(3, .int x_17), (5, .int (nI q_5)), (4, .int (nI cc_1)), (0, .ref (a 0)), (1, .int (nI sn)), (2, .int p1)]) hx hb dX8_parkAll_111 rfl hl (by decide) rfl (fun ls hl => ?_)
          refine lv_iinc (v := (nI (cc_1 + 1))) (lv' := [(4, .int (nI (cc_1 + 1))), (3, .int x_17), (5, .int (nI q_5)), (0, .ref (a 0)), (1, .int (nI sn)), (2, .int p1)]) hx hb dX8_parkAll_112 hl (k := 2) rfl (nI_add cc_1 1) (by decide) rfl (fun ls hl => ?_)
          refine lv_goto (tgt := 5) hx hb dX8_parkAll_115 (by decide) ?_
          exact ih_1 _ (cc_1 + 1, x_17, fd_5) _ _ _ (by omega) ⟨rfl, ⟨by omega, hdvl_5⟩, hP, hD, hS, (lv_sub hl [0, 1, 3, 4, 5] rfl)⟩
      · have c_12 : ¬ (q_5 < (br cc_1)) := fun h => c_12 ((nI_ltI (a := q_5) (b := (br cc_1)) (by omega) (by omega)).mpr h)
        refine lv_aload_n hx hb dX8_parkAll_49 rfl (lv_at hl 3 rfl) ?_
        refine va_get (D := D) (ci := 8) (v := .ref (a 40)) (C := RX8) (T := TX8) (N := 44) hx hb hts inX8 hown hK hP 0 rfl rfl 39 (by decide) (hts _ tw_1012) (fun _ h9 => h9) rfl dX8_parkAll_50 ?_
        refine lv_iload hx hb dX8_parkAll_53 (lv_at hl 1 rfl) ?_
        refine lv_iload_n hx hb dX8_parkAll_55 rfl (lv_at hl 2 rfl) ?_
        refine lv_iload hx hb dX8_parkAll_56 (lv_at hl 0 rfl) ?_
        refine lv_ishr hx hb dX8_parkAll_58 ?_
        refine lv_topi (fun x_18 ex_18 => ?_)
        refine lv_iconst (v := 1) hx hb dX8_parkAll_59 (by decide) ?_
        refine lv_iand hx hb dX8_parkAll_60 ?_
        refine lv_topi (fun x_19 ex_19 => ?_)
        refine lv_iconst (v := 1) hx hb dX8_parkAll_61 (by decide) ?_
        refine lv_icmp_ne (tgt := 70) hx hb dX8_parkAll_62 (by decide) (fun c_20 => ?_) (fun c_20 => ?_)
        · refine lv_aload_n hx hb dX8_parkAll_70 rfl (lv_at hl 3 rfl) ?_
          refine va_get (D := D) (ci := 8) (v := .ref (a 40)) (C := RX8) (T := TX8) (N := 44) hx hb hts inX8 hown hK hP 0 rfl rfl 39 (by decide) (hts _ tw_1012) (fun _ h9 => h9) rfl dX8_parkAll_71 ?_
          refine lv_iload hx hb dX8_parkAll_74 (lv_at hl 1 rfl) ?_
          refine va_iald hx hb hK hP 3 1 rfl rfl (vp_in_nI (by omega) (by decide)) dX8_parkAll_76 ?_
          refine lv_ti (y := (fd_5 cc_1)) (by rw [nI_clamp (by omega)]) ?_
          refine va_iast hx hb hK hP hD hS 3 1 rfl rfl (vp_in_nI (by omega) (by decide)) dX8_parkAll_77 (fun H locs hP hD hS => ?_)
          replace hP : va_P D classes [((a 0), .inr (8, [.ref (a 1), .ref (a 2), .ref (a 3), .ref (a 4), .ref (a 5), .int (nI tx), .int fp, .int (nI t0), .long wd, .int (nI we), .int nu, .int na, .int (nI rd), .ref (a 14), .ref (a 15), .ref (a 16), .int ts, .ref (a 18), .ref (a 19), .ref (a 20), .ref (a 21), .ref (a 22), .ref (a 23), .int (nI ru), .ref (a 25), .ref (a 26), .ref (a 27), .ref (a 28), .ref (a 29), .ref (a 30), .int (nI rw), .ref (a 32), .ref (a 33), .ref (a 34), .int (nI ca), .ref (a 36), .ref (a 37), .int df, .int db, .ref (a 40), .ref (a 41), .int sd, .ref (a 43), .ref (a 44)])), ((a 1), .inl (k 1, 3, .inl (nF dn))), ((a 37), .inl (k 1, 4, .inl (nF br))), ((a 40), .inl (k 1, 4, .inl (upd fd_5 (Int32.toNatClampNeg (nI cc_1)) (fd_5 cc_1))))] H := hP
          replace hD : va_D A [((a 0), .inr (8, [.ref (a 1), .ref (a 2), .ref (a 3), .ref (a 4), .ref (a 5), .int (nI tx), .int fp, .int (nI t0), .long wd, .int (nI we), .int nu, .int na, .int (nI rd), .ref (a 14), .ref (a 15), .ref (a 16), .int ts, .ref (a 18), .ref (a 19), .ref (a 20), .ref (a 21), .ref (a 22), .ref (a 23), .int (nI ru), .ref (a 25), .ref (a 26), .ref (a 27), .ref (a 28), .ref (a 29), .ref (a 30), .int (nI rw), .ref (a 32), .ref (a 33), .ref (a 34), .int (nI ca), .ref (a 36), .ref (a 37), .int df, .int db, .ref (a 40), .ref (a 41), .int sd, .ref (a 43), .ref (a 44)])), ((a 1), .inl (k 1, 3, .inl (nF dn))), ((a 37), .inl (k 1, 4, .inl (nF br))), ((a 40), .inl (k 1, 4, .inl (upd fd_5 (Int32.toNatClampNeg (nI cc_1)) (fd_5 cc_1))))] := hD
          rw [nI_clamp (n := cc_1) (by omega)] at hP hD
          replace hP : va_P D classes [((a 0), .inr (8, [.ref (a 1), .ref (a 2), .ref (a 3), .ref (a 4), .ref (a 5), .int (nI tx), .int fp, .int (nI t0), .long wd, .int (nI we), .int nu, .int na, .int (nI rd), .ref (a 14), .ref (a 15), .ref (a 16), .int ts, .ref (a 18), .ref (a 19), .ref (a 20), .ref (a 21), .ref (a 22), .ref (a 23), .int (nI ru), .ref (a 25), .ref (a 26), .ref (a 27), .ref (a 28), .ref (a 29), .ref (a 30), .int (nI rw), .ref (a 32), .ref (a 33), .ref (a 34), .int (nI ca), .ref (a 36), .ref (a 37), .int df, .int db, .ref (a 40), .ref (a 41), .int sd, .ref (a 43), .ref (a 44)])), ((a 1), .inl (k 1, 3, .inl (nF dn))), ((a 37), .inl (k 1, 4, .inl (nF br))), ((a 40), .inl (k 1, 4, .inl (upd fd_5 cc_1 (fd_5 cc_1))))] H := hP
          replace hD : va_D A [((a 0), .inr (8, [.ref (a 1), .ref (a 2), .ref (a 3), .ref (a 4), .ref (a 5), .int (nI tx), .int fp, .int (nI t0), .long wd, .int (nI we), .int nu, .int na, .int (nI rd), .ref (a 14), .ref (a 15), .ref (a 16), .int ts, .ref (a 18), .ref (a 19), .ref (a 20), .ref (a 21), .ref (a 22), .ref (a 23), .int (nI ru), .ref (a 25), .ref (a 26), .ref (a 27), .ref (a 28), .ref (a 29), .ref (a 30), .int (nI rw), .ref (a 32), .ref (a 33), .ref (a 34), .int (nI ca), .ref (a 36), .ref (a 37), .int df, .int db, .ref (a 40), .ref (a 41), .int sd, .ref (a 43), .ref (a 44)])), ((a 1), .inl (k 1, 3, .inl (nF dn))), ((a 37), .inl (k 1, 4, .inl (nF br))), ((a 40), .inl (k 1, 4, .inl (upd fd_5 cc_1 (fd_5 cc_1))))] := hD
          have hdv_22 : dvOK (upd fd_5 cc_1 (fd_5 cc_1)) := dvOK_upd hdvl_5 cc_1 (fd_5 cc_1) (hdvl_5 _)
          generalize (upd fd_5 cc_1 (fd_5 cc_1)) = f_22 at hP hD hdv_22
          refine lv_iinc (v := (nI q_5 - 1)) (lv' := [(5, .int (nI q_5 - 1)), (4, .int (nI cc_1)), (3, .int lf_1), (0, .ref (a 0)), (1, .int (nI sn)), (2, .int p1)]) hx hb dX8_parkAll_78 hl (k := 0) rfl (dn1 _) (by decide) rfl (fun ls hl => ?_)
          refine lv_goto (tgt := 32) hx hb dX8_parkAll_81 (by decide) ?_
          exact ih_5 _ (q_5, f_22) _ _ _ (by omega) ⟨rfl, ⟨by omega, hdv_22⟩, hP, hD, hS, (lv_sub hl [0, 1, 2, 3, 4, 5] rfl)⟩
        · refine lv_iload hx hb dX8_parkAll_65 (lv_at hl 0 rfl) ?_
          refine lv_goto (tgt := 77) hx hb dX8_parkAll_67 (by decide) ?_
          refine va_iast hx hb hK hP hD hS 3 1 rfl rfl (vp_in_nI (by omega) (by decide)) dX8_parkAll_77 (fun H locs hP hD hS => ?_)
          replace hP : va_P D classes [((a 0), .inr (8, [.ref (a 1), .ref (a 2), .ref (a 3), .ref (a 4), .ref (a 5), .int (nI tx), .int fp, .int (nI t0), .long wd, .int (nI we), .int nu, .int na, .int (nI rd), .ref (a 14), .ref (a 15), .ref (a 16), .int ts, .ref (a 18), .ref (a 19), .ref (a 20), .ref (a 21), .ref (a 22), .ref (a 23), .int (nI ru), .ref (a 25), .ref (a 26), .ref (a 27), .ref (a 28), .ref (a 29), .ref (a 30), .int (nI rw), .ref (a 32), .ref (a 33), .ref (a 34), .int (nI ca), .ref (a 36), .ref (a 37), .int df, .int db, .ref (a 40), .ref (a 41), .int sd, .ref (a 43), .ref (a 44)])), ((a 1), .inl (k 1, 3, .inl (nF dn))), ((a 37), .inl (k 1, 4, .inl (nF br))), ((a 40), .inl (k 1, 4, .inl (upd fd_5 (Int32.toNatClampNeg (nI cc_1)) (nI q_5))))] H := hP
          replace hD : va_D A [((a 0), .inr (8, [.ref (a 1), .ref (a 2), .ref (a 3), .ref (a 4), .ref (a 5), .int (nI tx), .int fp, .int (nI t0), .long wd, .int (nI we), .int nu, .int na, .int (nI rd), .ref (a 14), .ref (a 15), .ref (a 16), .int ts, .ref (a 18), .ref (a 19), .ref (a 20), .ref (a 21), .ref (a 22), .ref (a 23), .int (nI ru), .ref (a 25), .ref (a 26), .ref (a 27), .ref (a 28), .ref (a 29), .ref (a 30), .int (nI rw), .ref (a 32), .ref (a 33), .ref (a 34), .int (nI ca), .ref (a 36), .ref (a 37), .int df, .int db, .ref (a 40), .ref (a 41), .int sd, .ref (a 43), .ref (a 44)])), ((a 1), .inl (k 1, 3, .inl (nF dn))), ((a 37), .inl (k 1, 4, .inl (nF br))), ((a 40), .inl (k 1, 4, .inl (upd fd_5 (Int32.toNatClampNeg (nI cc_1)) (nI q_5))))] := hD
          rw [nI_clamp (n := cc_1) (by omega)] at hP hD
          replace hP : va_P D classes [((a 0), .inr (8, [.ref (a 1), .ref (a 2), .ref (a 3), .ref (a 4), .ref (a 5), .int (nI tx), .int fp, .int (nI t0), .long wd, .int (nI we), .int nu, .int na, .int (nI rd), .ref (a 14), .ref (a 15), .ref (a 16), .int ts, .ref (a 18), .ref (a 19), .ref (a 20), .ref (a 21), .ref (a 22), .ref (a 23), .int (nI ru), .ref (a 25), .ref (a 26), .ref (a 27), .ref (a 28), .ref (a 29), .ref (a 30), .int (nI rw), .ref (a 32), .ref (a 33), .ref (a 34), .int (nI ca), .ref (a 36), .ref (a 37), .int df, .int db, .ref (a 40), .ref (a 41), .int sd, .ref (a 43), .ref (a 44)])), ((a 1), .inl (k 1, 3, .inl (nF dn))), ((a 37), .inl (k 1, 4, .inl (nF br))), ((a 40), .inl (k 1, 4, .inl (upd fd_5 cc_1 (nI q_5))))] H := hP
          replace hD : va_D A [((a 0), .inr (8, [.ref (a 1), .ref (a 2), .ref (a 3), .ref (a 4), .ref (a 5), .int (nI tx), .int fp, .int (nI t0), .long wd, .int (nI we), .int nu, .int na, .int (nI rd), .ref (a 14), .ref (a 15), .ref (a 16), .int ts, .ref (a 18), .ref (a 19), .ref (a 20), .ref (a 21), .ref (a 22), .ref (a 23), .int (nI ru), .ref (a 25), .ref (a 26), .ref (a 27), .ref (a 28), .ref (a 29), .ref (a 30), .int (nI rw), .ref (a 32), .ref (a 33), .ref (a 34), .int (nI ca), .ref (a 36), .ref (a 37), .int df, .int db, .ref (a 40), .ref (a 41), .int sd, .ref (a 43), .ref (a 44)])), ((a 1), .inl (k 1, 3, .inl (nF dn))), ((a 37), .inl (k 1, 4, .inl (nF br))), ((a 40), .inl (k 1, 4, .inl (upd fd_5 cc_1 (nI q_5))))] := hD
          have hdv_24 : dvOK (upd fd_5 cc_1 (nI q_5)) := dvOK_upd hdvl_5 cc_1 (nI q_5) (.inr ⟨q_5, by omega, rfl⟩)
          generalize (upd fd_5 cc_1 (nI q_5)) = f_24 at hP hD hdv_24
          refine lv_iinc (v := (nI q_5 - 1)) (lv' := [(5, .int (nI q_5 - 1)), (4, .int (nI cc_1)), (3, .int lf_1), (0, .ref (a 0)), (1, .int (nI sn)), (2, .int p1)]) hx hb dX8_parkAll_78 hl (k := 0) rfl (dn1 _) (by decide) rfl (fun ls hl => ?_)
          refine lv_goto (tgt := 32) hx hb dX8_parkAll_81 (by decide) ?_
          exact ih_5 _ (q_5, f_24) _ _ _ (by omega) ⟨rfl, ⟨by omega, hdv_24⟩, hP, hD, hS, (lv_sub hl [0, 1, 2, 3, 4, 5] rfl)⟩

